section
-- ===== PART A: goes FIRST, ahead of the names: the tables' words, and 'selects' of the private methods out of them =====
/-- a private method of a class that the tables say can be made, by its rows of tables_1 -/
def lw_okq (q : MethodName × Nat) : Prop := (q.1.cls ≠ "java/lang/invoke/MethodHandle" ∧ q.1.cls ≠ "java/lang/invoke/VarHandle") ∧ Cond.instantiable q.1.cls q.2 ∈ tables_1 ∧ Cond.privateMethod q.1 ∈ tables_1 ∧ Cond.instanceMethod q.1 ∈ tables_1
theorem lw_p0 : lw_okq (⟨"ChangeImpactModel", "tests", "()I"⟩, 10) := ⟨⟨by decide +kernel, by decide +kernel⟩, List.mem_of_getElem? (i := 484) (by decide +kernel), List.mem_of_getElem? (i := 528) (by decide +kernel), List.mem_of_getElem? (i := 529) (by decide +kernel)⟩
theorem lw_p1 : lw_okq (⟨"ChangeImpactModel", "kindOf", "(I)I"⟩, 10) := ⟨⟨by decide +kernel, by decide +kernel⟩, List.mem_of_getElem? (i := 484) (by decide +kernel), List.mem_of_getElem? (i := 532) (by decide +kernel), List.mem_of_getElem? (i := 533) (by decide +kernel)⟩
theorem lw_p2 : lw_okq (⟨"ChangeImpactModel", "isTarget", "(I)Z"⟩, 10) := ⟨⟨by decide +kernel, by decide +kernel⟩, List.mem_of_getElem? (i := 484) (by decide +kernel), List.mem_of_getElem? (i := 544) (by decide +kernel), List.mem_of_getElem? (i := 545) (by decide +kernel)⟩
theorem lw_p3 : lw_okq (⟨"ChangeImpactModel", "linkOf", "(II)I"⟩, 10) := ⟨⟨by decide +kernel, by decide +kernel⟩, List.mem_of_getElem? (i := 484) (by decide +kernel), List.mem_of_getElem? (i := 548) (by decide +kernel), List.mem_of_getElem? (i := 549) (by decide +kernel)⟩
theorem lw_p4 : lw_okq (⟨"ChangeImpactModel", "reachOf", "(II)I"⟩, 10) := ⟨⟨by decide +kernel, by decide +kernel⟩, List.mem_of_getElem? (i := 484) (by decide +kernel), List.mem_of_getElem? (i := 552) (by decide +kernel), List.mem_of_getElem? (i := 553) (by decide +kernel)⟩
theorem lw_p5 : lw_okq (⟨"ChangeImpactModel", "isNamed", "(I)Z"⟩, 10) := ⟨⟨by decide +kernel, by decide +kernel⟩, List.mem_of_getElem? (i := 484) (by decide +kernel), List.mem_of_getElem? (i := 564) (by decide +kernel), List.mem_of_getElem? (i := 565) (by decide +kernel)⟩
theorem lw_p6 : lw_okq (⟨"ChangeImpactModel", "isFile", "(I)Z"⟩, 10) := ⟨⟨by decide +kernel, by decide +kernel⟩, List.mem_of_getElem? (i := 484) (by decide +kernel), List.mem_of_getElem? (i := 568) (by decide +kernel), List.mem_of_getElem? (i := 569) (by decide +kernel)⟩
theorem lw_p7 : lw_okq (⟨"ChangeImpactModel", "giveName", "(II)V"⟩, 10) := ⟨⟨by decide +kernel, by decide +kernel⟩, List.mem_of_getElem? (i := 484) (by decide +kernel), List.mem_of_getElem? (i := 575) (by decide +kernel), List.mem_of_getElem? (i := 576) (by decide +kernel)⟩
theorem lw_p8 : lw_okq (⟨"ChangeImpactModel", "touch", "(II)V"⟩, 10) := ⟨⟨by decide +kernel, by decide +kernel⟩, List.mem_of_getElem? (i := 484) (by decide +kernel), List.mem_of_getElem? (i := 579) (by decide +kernel), List.mem_of_getElem? (i := 580) (by decide +kernel)⟩
theorem lw_p9 : lw_okq (⟨"ChangeImpactModel", "layChanged", "()V"⟩, 10) := ⟨⟨by decide +kernel, by decide +kernel⟩, List.mem_of_getElem? (i := 484) (by decide +kernel), List.mem_of_getElem? (i := 626) (by decide +kernel), List.mem_of_getElem? (i := 627) (by decide +kernel)⟩
theorem lw_p10 : lw_okq (⟨"ChangeImpactModel", "spread", "()V"⟩, 10) := ⟨⟨by decide +kernel, by decide +kernel⟩, List.mem_of_getElem? (i := 484) (by decide +kernel), List.mem_of_getElem? (i := 630) (by decide +kernel), List.mem_of_getElem? (i := 631) (by decide +kernel)⟩
theorem lw_p11 : lw_okq (⟨"ChangeImpactModel", "follows", "(II)Z"⟩, 10) := ⟨⟨by decide +kernel, by decide +kernel⟩, List.mem_of_getElem? (i := 484) (by decide +kernel), List.mem_of_getElem? (i := 634) (by decide +kernel), List.mem_of_getElem? (i := 635) (by decide +kernel)⟩
theorem lw_p12 : lw_okq (⟨"ChangeImpactModel", "setOf", "(I)I"⟩, 10) := ⟨⟨by decide +kernel, by decide +kernel⟩, List.mem_of_getElem? (i := 484) (by decide +kernel), List.mem_of_getElem? (i := 638) (by decide +kernel), List.mem_of_getElem? (i := 639) (by decide +kernel)⟩
theorem lw_p13 : lw_okq (⟨"ChangeImpactModel", "rebuilt", "()I"⟩, 10) := ⟨⟨by decide +kernel, by decide +kernel⟩, List.mem_of_getElem? (i := 484) (by decide +kernel), List.mem_of_getElem? (i := 646) (by decide +kernel), List.mem_of_getElem? (i := 647) (by decide +kernel)⟩
theorem lw_p14 : lw_okq (⟨"ChangeImpactModel", "laySteps", "(I)V"⟩, 10) := ⟨⟨by decide +kernel, by decide +kernel⟩, List.mem_of_getElem? (i := 484) (by decide +kernel), List.mem_of_getElem? (i := 654) (by decide +kernel), List.mem_of_getElem? (i := 655) (by decide +kernel)⟩
theorem lw_p15 : lw_okq (⟨"ChangeImpactModel", "smallest", "(II)I"⟩, 10) := ⟨⟨by decide +kernel, by decide +kernel⟩, List.mem_of_getElem? (i := 484) (by decide +kernel), List.mem_of_getElem? (i := 658) (by decide +kernel), List.mem_of_getElem? (i := 659) (by decide +kernel)⟩
def lw_privs_1 : List (MethodName × Nat) := [(⟨"ChangeImpactModel", "tests", "()I"⟩, 10), (⟨"ChangeImpactModel", "kindOf", "(I)I"⟩, 10), (⟨"ChangeImpactModel", "isTarget", "(I)Z"⟩, 10), (⟨"ChangeImpactModel", "linkOf", "(II)I"⟩, 10), (⟨"ChangeImpactModel", "reachOf", "(II)I"⟩, 10), (⟨"ChangeImpactModel", "isNamed", "(I)Z"⟩, 10), (⟨"ChangeImpactModel", "isFile", "(I)Z"⟩, 10), (⟨"ChangeImpactModel", "giveName", "(II)V"⟩, 10), (⟨"ChangeImpactModel", "touch", "(II)V"⟩, 10), (⟨"ChangeImpactModel", "layChanged", "()V"⟩, 10), (⟨"ChangeImpactModel", "spread", "()V"⟩, 10), (⟨"ChangeImpactModel", "follows", "(II)Z"⟩, 10), (⟨"ChangeImpactModel", "setOf", "(I)I"⟩, 10), (⟨"ChangeImpactModel", "rebuilt", "()I"⟩, 10), (⟨"ChangeImpactModel", "laySteps", "(I)V"⟩, 10), (⟨"ChangeImpactModel", "smallest", "(II)I"⟩, 10)]
theorem lw_r1 : ∀ q ∈ lw_privs_1, lw_okq q := List.forall_mem_cons.mpr ⟨lw_p0, List.forall_mem_cons.mpr ⟨lw_p1, List.forall_mem_cons.mpr ⟨lw_p2, List.forall_mem_cons.mpr ⟨lw_p3, List.forall_mem_cons.mpr ⟨lw_p4, List.forall_mem_cons.mpr ⟨lw_p5, List.forall_mem_cons.mpr ⟨lw_p6, List.forall_mem_cons.mpr ⟨lw_p7, List.forall_mem_cons.mpr ⟨lw_p8, List.forall_mem_cons.mpr ⟨lw_p9, List.forall_mem_cons.mpr ⟨lw_p10, List.forall_mem_cons.mpr ⟨lw_p11, List.forall_mem_cons.mpr ⟨lw_p12, List.forall_mem_cons.mpr ⟨lw_p13, List.forall_mem_cons.mpr ⟨lw_p14, List.forall_mem_cons.mpr ⟨lw_p15, fun _ h => absurd h List.not_mem_nil⟩⟩⟩⟩⟩⟩⟩⟩⟩⟩⟩⟩⟩⟩⟩⟩
theorem lw_p16 : lw_okq (⟨"ChangeImpactModel", "impactOf", "(I)I"⟩, 10) := ⟨⟨by decide +kernel, by decide +kernel⟩, List.mem_of_getElem? (i := 484) (by decide +kernel), List.mem_of_getElem? (i := 666) (by decide +kernel), List.mem_of_getElem? (i := 667) (by decide +kernel)⟩
theorem lw_p17 : lw_okq (⟨"ChangeImpactModel", "weightOf", "(I)I"⟩, 10) := ⟨⟨by decide +kernel, by decide +kernel⟩, List.mem_of_getElem? (i := 484) (by decide +kernel), List.mem_of_getElem? (i := 670) (by decide +kernel), List.mem_of_getElem? (i := 671) (by decide +kernel)⟩
theorem lw_p18 : lw_okq (⟨"ChangeImpactModel", "layOrder", "()I"⟩, 10) := ⟨⟨by decide +kernel, by decide +kernel⟩, List.mem_of_getElem? (i := 484) (by decide +kernel), List.mem_of_getElem? (i := 682) (by decide +kernel), List.mem_of_getElem? (i := 683) (by decide +kernel)⟩
theorem lw_p19 : lw_okq (⟨"ChangeImpactModel", "waits", "(II)Z"⟩, 10) := ⟨⟨by decide +kernel, by decide +kernel⟩, List.mem_of_getElem? (i := 484) (by decide +kernel), List.mem_of_getElem? (i := 686) (by decide +kernel), List.mem_of_getElem? (i := 687) (by decide +kernel)⟩
theorem lw_p20 : lw_okq (⟨"ChangeImpactModel", "layShards", "(I)V"⟩, 10) := ⟨⟨by decide +kernel, by decide +kernel⟩, List.mem_of_getElem? (i := 484) (by decide +kernel), List.mem_of_getElem? (i := 701) (by decide +kernel), List.mem_of_getElem? (i := 702) (by decide +kernel)⟩
theorem lw_p21 : lw_okq (⟨"ChangeImpactModel", "greatestBy", "(III)I"⟩, 10) := ⟨⟨by decide +kernel, by decide +kernel⟩, List.mem_of_getElem? (i := 484) (by decide +kernel), List.mem_of_getElem? (i := 714) (by decide +kernel), List.mem_of_getElem? (i := 715) (by decide +kernel)⟩
def lw_privs_2 : List (MethodName × Nat) := [(⟨"ChangeImpactModel", "impactOf", "(I)I"⟩, 10), (⟨"ChangeImpactModel", "weightOf", "(I)I"⟩, 10), (⟨"ChangeImpactModel", "layOrder", "()I"⟩, 10), (⟨"ChangeImpactModel", "waits", "(II)Z"⟩, 10), (⟨"ChangeImpactModel", "layShards", "(I)V"⟩, 10), (⟨"ChangeImpactModel", "greatestBy", "(III)I"⟩, 10)]
theorem lw_r2 : ∀ q ∈ lw_privs_2, lw_okq q := List.forall_mem_cons.mpr ⟨lw_p16, List.forall_mem_cons.mpr ⟨lw_p17, List.forall_mem_cons.mpr ⟨lw_p18, List.forall_mem_cons.mpr ⟨lw_p19, List.forall_mem_cons.mpr ⟨lw_p20, List.forall_mem_cons.mpr ⟨lw_p21, fun _ h => absurd h List.not_mem_nil⟩⟩⟩⟩⟩⟩
def lw_privs : List (MethodName × Nat) := lw_privs_1 ++ (lw_privs_2)
def lw_tbl : List Cond := k2_sels lw_privs ++ tables_1
theorem lw_privs_ok : ∀ q ∈ lw_privs, lw_okq q := by
  show ∀ q ∈ lw_privs_1 ++ (lw_privs_2), lw_okq q
  exact List.forall_mem_append.mpr ⟨lw_r1, lw_r2⟩
def RX0 : String := "ChangeImpact$Chain"
def TX0 : u_T := fun k => match k with
  | 0 => ("ChangeImpact$Chain", "pairs", "[I", true)
  | _ => ("ChangeImpact$Chain", "length", "I", false)
def tyX0 : Nat → FieldType := fun k => match k with
  | 0 => .array .int
  | _ => .int
abbrev wsX00 : List Cond := u_ws RX0 TX0 2
theorem nmX0 : ∀ a, a < 2 → ∀ b, b < 2 → a ≠ b → (TX0 a).2.1 ≠ (TX0 b).2.1 := by decide +kernel
theorem tyX0_ok : ∀ k, k < 2 → parseFieldDescriptor (TX0 k).2.2.1 = some (tyX0 k) := by decide +kernel
abbrev cX0_init : ByteArray := prog_2_method_1_code
def yX0_init : MethodName := ⟨RX0, "<init>", "(LChangeImpact$Targets;JI)V"⟩
def RX1 : String := "ChangeImpact$Files"
def TX1 : u_T := fun k => match k with
  | 0 => ("ChangeImpact$Files", "count", "I", false)
  | 1 => ("ChangeImpact$Files", "target", "[I", true)
  | 2 => ("ChangeImpact$Files", "name", "[I", true)
  | 3 => ("ChangeImpact$Files", "header", "[Z", true)
  | 4 => ("ChangeImpact$Files", "exists", "[Z", true)
  | _ => ("ChangeImpact$Files", "lastOwner", "[I", true)
def tyX1 : Nat → FieldType := fun k => match k with
  | 0 => .int
  | 1 => .array .int
  | 2 => .array .int
  | 3 => .array .boolean
  | 4 => .array .boolean
  | _ => .array .int
abbrev wsX10 : List Cond := u_ws RX1 TX1 6
theorem nmX1 : ∀ a, a < 6 → ∀ b, b < 6 → a ≠ b → (TX1 a).2.1 ≠ (TX1 b).2.1 := by decide +kernel
theorem tyX1_ok : ∀ k, k < 6 → parseFieldDescriptor (TX1 k).2.2.1 = some (tyX1 k) := by decide +kernel
abbrev cX1_init : ByteArray := prog_3_method_1_code
def yX1_init : MethodName := ⟨RX1, "<init>", "()V"⟩
abbrev cX1_copyFrom : ByteArray := prog_3_method_2_code
def yX1_copyFrom : MethodName := ⟨RX1, "copyFrom", "(LChangeImpact$Files;)V"⟩
abbrev cX1_has : ByteArray := prog_3_method_3_code
def yX1_has : MethodName := ⟨RX1, "has", "(I)Z"⟩
abbrev cX1_isInUse : ByteArray := prog_3_method_4_code
def yX1_isInUse : MethodName := ⟨RX1, "isInUse", "(I)Z"⟩
abbrev cX1_append : ByteArray := prog_3_method_5_code
def yX1_append : MethodName := ⟨RX1, "append", "(IZI)I"⟩
abbrev cX1_giveName : ByteArray := prog_3_method_6_code
def yX1_giveName : MethodName := ⟨RX1, "giveName", "(II)V"⟩
def RX2 : String := "ChangeImpact$Rebuild"
def TX2 : u_T := fun k => match k with
  | 0 => ("ChangeImpact$Rebuild", "targets", "LChangeImpact$Targets;", true)
  | 1 => ("ChangeImpact$Rebuild", "rebuilt", "I", true)
  | 2 => ("ChangeImpact$Rebuild", "order", "[I", true)
  | _ => ("ChangeImpact$Rebuild", "length", "I", false)
def tyX2 : Nat → FieldType := fun k => match k with
  | 0 => .object "ChangeImpact$Targets"
  | 1 => .int
  | 2 => .array .int
  | _ => .int
abbrev wsX20 : List Cond := u_ws RX2 TX2 4
theorem nmX2 : ∀ a, a < 4 → ∀ b, b < 4 → a ≠ b → (TX2 a).2.1 ≠ (TX2 b).2.1 := by decide +kernel
theorem tyX2_ok : ∀ k, k < 4 → parseFieldDescriptor (TX2 k).2.2.1 = some (tyX2 k) := by decide +kernel
abbrev cX2_init : ByteArray := prog_4_method_1_code
def yX2_init : MethodName := ⟨RX2, "<init>", "(LChangeImpact$Targets;I)V"⟩
abbrev cX2_time : ByteArray := prog_4_method_2_code
def yX2_time : MethodName := ⟨RX2, "time", "()I"⟩
def RX3 : String := "ChangeImpact$Shards"
def TX3 : u_T := fun k => match k with
  | 0 => ("ChangeImpact$Shards", "load", "[I", true)
  | 1 => ("ChangeImpact$Shards", "given", "[I", true)
  | 2 => ("ChangeImpact$Shards", "weights", "[I", true)
  | _ => ("ChangeImpact$Shards", "tests", "I", false)
def tyX3 : Nat → FieldType := fun k => match k with
  | 0 => .array .int
  | 1 => .array .int
  | 2 => .array .int
  | _ => .int
abbrev wsX30 : List Cond := u_ws RX3 TX3 4
theorem nmX3 : ∀ a, a < 4 → ∀ b, b < 4 → a ≠ b → (TX3 a).2.1 ≠ (TX3 b).2.1 := by decide +kernel
theorem tyX3_ok : ∀ k, k < 4 → parseFieldDescriptor (TX3 k).2.2.1 = some (tyX3 k) := by decide +kernel
abbrev cX3_init : ByteArray := prog_5_method_1_code
def yX3_init : MethodName := ⟨RX3, "<init>", "(LChangeImpact$Targets;II)V"⟩
abbrev cX3_leastGreatestLoad : ByteArray := prog_5_method_2_code
def yX3_leastGreatestLoad : MethodName := ⟨RX3, "leastGreatestLoad", "()I"⟩
abbrev cX3_improve : ByteArray := prog_5_method_3_code
def yX3_improve : MethodName := ⟨RX3, "improve", "([III[II)I"⟩
abbrev cX3_standsBefore : ByteArray := prog_5_method_4_code
def yX3_standsBefore : MethodName := ⟨RX3, "standsBefore", "([II)Z"⟩
abbrev cX3_leastLoaded : ByteArray := prog_5_method_5_code
def yX3_leastLoaded : MethodName := ⟨RX3, "leastLoaded", "([I)I"⟩
abbrev cX3_greatest : ByteArray := prog_5_method_6_code
def yX3_greatest : MethodName := ⟨RX3, "greatest", "([I)I"⟩
def RX4 : String := "ChangeImpact$State"
def TX4 : u_T := fun k => match k with
  | 0 => ("ChangeImpact$State", "targets", "LChangeImpact$Targets;", true)
  | 1 => ("ChangeImpact$State", "files", "LChangeImpact$Files;", true)
  | _ => ("ChangeImpact$State", "direct", "J", false)
def tyX4 : Nat → FieldType := fun k => match k with
  | 0 => .object "ChangeImpact$Targets"
  | 1 => .object "ChangeImpact$Files"
  | _ => .long
abbrev wsX40 : List Cond := u_ws RX4 TX4 3
theorem nmX4 : ∀ a, a < 3 → ∀ b, b < 3 → a ≠ b → (TX4 a).2.1 ≠ (TX4 b).2.1 := by decide +kernel
theorem tyX4_ok : ∀ k, k < 3 → parseFieldDescriptor (TX4 k).2.2.1 = some (tyX4 k) := by decide +kernel
abbrev cX4_init : ByteArray := prog_6_method_1_code
def yX4_init : MethodName := ⟨RX4, "<init>", "()V"⟩
abbrev cX4_copyFrom : ByteArray := prog_6_method_2_code
def yX4_copyFrom : MethodName := ⟨RX4, "copyFrom", "(LChangeImpact$State;)V"⟩
abbrev cX4_touchBy : ByteArray := prog_6_method_3_code
def yX4_touchBy : MethodName := ⟨RX4, "touchBy", "(I)V"⟩
abbrev cX4_rebuilt : ByteArray := prog_6_method_4_code
def yX4_rebuilt : MethodName := ⟨RX4, "rebuilt", "()I"⟩
abbrev cX4_testsToRun : ByteArray := prog_6_method_5_code
def yX4_testsToRun : MethodName := ⟨RX4, "testsToRun", "()I"⟩
def RX5 : String := "ChangeImpact$Targets"
def TX5 : u_T := fun k => match k with
  | 0 => ("ChangeImpact$Targets", "count", "I", false)
  | 1 => ("ChangeImpact$Targets", "dependencies", "I", false)
  | 2 => ("ChangeImpact$Targets", "weight", "[I", true)
  | 3 => ("ChangeImpact$Targets", "ofKind", "[I", true)
  | _ => ("ChangeImpact$Targets", "users", "[[I", true)
def tyX5 : Nat → FieldType := fun k => match k with
  | 0 => .int
  | 1 => .int
  | 2 => .array .int
  | 3 => .array .int
  | _ => .array (.array .int)
abbrev wsX50 : List Cond := u_ws RX5 TX5 5
theorem nmX5 : ∀ a, a < 5 → ∀ b, b < 5 → a ≠ b → (TX5 a).2.1 ≠ (TX5 b).2.1 := by decide +kernel
theorem tyX5_ok : ∀ k, k < 5 → parseFieldDescriptor (TX5 k).2.2.1 = some (tyX5 k) := by decide +kernel
abbrev cX5_init : ByteArray := prog_7_method_1_code
def yX5_init : MethodName := ⟨RX5, "<init>", "()V"⟩
abbrev cX5_copyFrom : ByteArray := prog_7_method_2_code
def yX5_copyFrom : MethodName := ⟨RX5, "copyFrom", "(LChangeImpact$Targets;)V"⟩
abbrev cX5_has : ByteArray := prog_7_method_3_code
def yX5_has : MethodName := ⟨RX5, "has", "(I)Z"⟩
abbrev cX5_testCount : ByteArray := prog_7_method_4_code
def yX5_testCount : MethodName := ⟨RX5, "testCount", "()I"⟩
abbrev cX5_append : ByteArray := prog_7_method_5_code
def yX5_append : MethodName := ⟨RX5, "append", "(II)I"⟩
abbrev cX5_allows : ByteArray := prog_7_method_6_code
def yX5_allows : MethodName := ⟨RX5, "allows", "(III)Z"⟩
abbrev cX5_connect : ByteArray := prog_7_method_7_code
def yX5_connect : MethodName := ⟨RX5, "connect", "(III)V"⟩
abbrev cX5_disconnect : ByteArray := prog_7_method_8_code
def yX5_disconnect : MethodName := ⟨RX5, "disconnect", "(III)V"⟩
abbrev cX5_kindBetween : ByteArray := prog_7_method_9_code
def yX5_kindBetween : MethodName := ⟨RX5, "kindBetween", "(II)I"⟩
abbrev cX5_usersOf : ByteArray := prog_7_method_10_code
def yX5_usersOf : MethodName := ⟨RX5, "usersOf", "(II)I"⟩
abbrev cX5_usersOfAny : ByteArray := prog_7_method_11_code
def yX5_usersOfAny : MethodName := ⟨RX5, "usersOfAny", "(II)I"⟩
abbrev cX5_withAllUsers : ByteArray := prog_7_method_12_code
def yX5_withAllUsers : MethodName := ⟨RX5, "withAllUsers", "(II)I"⟩
abbrev cX5_followersOf : ByteArray := prog_7_method_13_code
def yX5_followersOf : MethodName := ⟨RX5, "followersOf", "(I)J"⟩
abbrev cX5_followersOfAny : ByteArray := prog_7_method_14_code
def yX5_followersOfAny : MethodName := ⟨RX5, "followersOfAny", "(J)J"⟩
abbrev cX5_causesOfAny : ByteArray := prog_7_method_15_code
def yX5_causesOfAny : MethodName := ⟨RX5, "causesOfAny", "(J)J"⟩
abbrev cX5_reachOf : ByteArray := prog_7_method_16_code
def yX5_reachOf : MethodName := ⟨RX5, "reachOf", "(J)J"⟩
abbrev cX5_weightRebuiltBy : ByteArray := prog_7_method_17_code
def yX5_weightRebuiltBy : MethodName := ⟨RX5, "weightRebuiltBy", "(I)I"⟩
abbrev cX5_heaviest : ByteArray := prog_7_method_18_code
def yX5_heaviest : MethodName := ⟨RX5, "heaviest", "(I)I"⟩
def RX6 : String := "ChangeImpact"
def TX6 : u_T := fun k => match k with
  | 0 => ("ChangeImpact", "state", "LChangeImpact$State;", true)
  | _ => ("ChangeImpact", "saved", "[LChangeImpact$State;", true)
def tyX6 : Nat → FieldType := fun k => match k with
  | 0 => .object "ChangeImpact$State"
  | _ => .array (.object "ChangeImpact$State")
abbrev wsX60 : List Cond := u_ws RX6 TX6 2
theorem nmX6 : ∀ a, a < 2 → ∀ b, b < 2 → a ≠ b → (TX6 a).2.1 ≠ (TX6 b).2.1 := by decide +kernel
theorem tyX6_ok : ∀ k, k < 2 → parseFieldDescriptor (TX6 k).2.2.1 = some (tyX6 k) := by decide +kernel
abbrev cX6_init : ByteArray := prog_1_method_1_code
def yX6_init : MethodName := ⟨RX6, "<init>", "()V"⟩
abbrev cX6_addTarget : ByteArray := prog_1_method_2_code
def yX6_addTarget : MethodName := ⟨RX6, "addTarget", "(II)I"⟩
abbrev cX6_targetCount : ByteArray := prog_1_method_3_code
def yX6_targetCount : MethodName := ⟨RX6, "targetCount", "()I"⟩
abbrev cX6_addDependency : ByteArray := prog_1_method_4_code
def yX6_addDependency : MethodName := ⟨RX6, "addDependency", "(III)I"⟩
abbrev cX6_removeDependency : ByteArray := prog_1_method_5_code
def yX6_removeDependency : MethodName := ⟨RX6, "removeDependency", "(II)I"⟩
abbrev cX6_addFile : ByteArray := prog_1_method_6_code
def yX6_addFile : MethodName := ⟨RX6, "addFile", "(IZI)I"⟩
abbrev cX6_edit : ByteArray := prog_1_method_7_code
def yX6_edit : MethodName := ⟨RX6, "edit", "(I)I"⟩
abbrev cX6_rename : ByteArray := prog_1_method_8_code
def yX6_rename : MethodName := ⟨RX6, "rename", "(II)I"⟩
abbrev cX6_move : ByteArray := prog_1_method_9_code
def yX6_move : MethodName := ⟨RX6, "move", "(II)I"⟩
abbrev cX6_deleteFile : ByteArray := prog_1_method_10_code
def yX6_deleteFile : MethodName := ⟨RX6, "deleteFile", "(I)I"⟩
abbrev cX6_targetOf : ByteArray := prog_1_method_11_code
def yX6_targetOf : MethodName := ⟨RX6, "targetOf", "(I)I"⟩
abbrev cX6_nameOf : ByteArray := prog_1_method_12_code
def yX6_nameOf : MethodName := ⟨RX6, "nameOf", "(I)I"⟩
abbrev cX6_follow : ByteArray := prog_1_method_13_code
def yX6_follow : MethodName := ⟨RX6, "follow", "(I)I"⟩
abbrev cX6_clearChanges : ByteArray := prog_1_method_14_code
def yX6_clearChanges : MethodName := ⟨RX6, "clearChanges", "()I"⟩
abbrev cX6_directlyChanged : ByteArray := prog_1_method_15_code
def yX6_directlyChanged : MethodName := ⟨RX6, "directlyChanged", "(I)I"⟩
abbrev cX6_changed : ByteArray := prog_1_method_16_code
def yX6_changed : MethodName := ⟨RX6, "changed", "(I)I"⟩
abbrev cX6_affectedTests : ByteArray := prog_1_method_17_code
def yX6_affectedTests : MethodName := ⟨RX6, "affectedTests", "()I"⟩
abbrev cX6_chain : ByteArray := prog_1_method_18_code
def yX6_chain : MethodName := ⟨RX6, "chain", "(III)I"⟩
abbrev cX6_impact : ByteArray := prog_1_method_19_code
def yX6_impact : MethodName := ⟨RX6, "impact", "(II)I"⟩
abbrev cX6_mostCritical : ByteArray := prog_1_method_20_code
def yX6_mostCritical : MethodName := ⟨RX6, "mostCritical", "(I)I"⟩
abbrev cX6_rebuildOrder : ByteArray := prog_1_method_21_code
def yX6_rebuildOrder : MethodName := ⟨RX6, "rebuildOrder", "(I)I"⟩
abbrev cX6_rebuildTime : ByteArray := prog_1_method_22_code
def yX6_rebuildTime : MethodName := ⟨RX6, "rebuildTime", "()I"⟩
abbrev cX6_shardOf : ByteArray := prog_1_method_23_code
def yX6_shardOf : MethodName := ⟨RX6, "shardOf", "(II)I"⟩
abbrev cX6_shardLoad : ByteArray := prog_1_method_24_code
def yX6_shardLoad : MethodName := ⟨RX6, "shardLoad", "(II)I"⟩
abbrev cX6_bestGreatestLoad : ByteArray := prog_1_method_25_code
def yX6_bestGreatestLoad : MethodName := ⟨RX6, "bestGreatestLoad", "(I)I"⟩
abbrev cX6_save : ByteArray := prog_1_method_26_code
def yX6_save : MethodName := ⟨RX6, "save", "(I)I"⟩
abbrev cX6_restore : ByteArray := prog_1_method_27_code
def yX6_restore : MethodName := ⟨RX6, "restore", "(I)I"⟩
abbrev cX6_inRange : ByteArray := prog_1_method_28_code
def yX6_inRange : MethodName := ⟨RX6, "inRange", "(II)Z"⟩
abbrev cX6_isShardCount : ByteArray := prog_1_method_29_code
def yX6_isShardCount : MethodName := ⟨RX6, "isShardCount", "(I)Z"⟩
abbrev cX6_setOf : ByteArray := prog_1_method_30_code
def yX6_setOf : MethodName := ⟨RX6, "setOf", "(I)I"⟩
abbrev cX6_contains : ByteArray := prog_1_method_31_code
def yX6_contains : MethodName := ⟨RX6, "contains", "(II)Z"⟩
abbrev cX6_smallestTarget : ByteArray := prog_1_method_32_code
def yX6_smallestTarget : MethodName := ⟨RX6, "smallestTarget", "(I)I"⟩
abbrev cX6_pairOf : ByteArray := prog_1_method_33_code
def yX6_pairOf : MethodName := ⟨RX6, "pairOf", "(II)I"⟩
abbrev cX6_pairsWith : ByteArray := prog_1_method_34_code
def yX6_pairsWith : MethodName := ⟨RX6, "pairsWith", "(II)J"⟩
abbrev cX6_targetsWith : ByteArray := prog_1_method_35_code
def yX6_targetsWith : MethodName := ⟨RX6, "targetsWith", "(JI)I"⟩
abbrev cX6_setOfPair : ByteArray := prog_1_method_36_code
def yX6_setOfPair : MethodName := ⟨RX6, "setOfPair", "(I)J"⟩
abbrev cX6_containsPair : ByteArray := prog_1_method_37_code
def yX6_containsPair : MethodName := ⟨RX6, "containsPair", "(JI)Z"⟩
abbrev cX6_smallestPair : ByteArray := prog_1_method_38_code
def yX6_smallestPair : MethodName := ⟨RX6, "smallestPair", "(J)I"⟩
def RX7 : String := "ChangeImpactModel"
def TX7 : u_T := fun k => match k with
  | 0 => ("ChangeImpactModel", "state", "[I", true)
  | 1 => ("ChangeImpactModel", "slots", "[I", true)
  | 2 => ("ChangeImpactModel", "isSaved", "[Z", true)
  | 3 => ("ChangeImpactModel", "isChanged", "[Z", true)
  | 4 => ("ChangeImpactModel", "steps", "[I", true)
  | 5 => ("ChangeImpactModel", "order", "[I", true)
  | 6 => ("ChangeImpactModel", "readyAt", "[I", true)
  | 7 => ("ChangeImpactModel", "load", "[I", true)
  | 8 => ("ChangeImpactModel", "shard", "[I", true)
  | _ => ("ChangeImpactModel", "weights", "[I", true)
def tyX7 : Nat → FieldType := fun k => match k with
  | 0 => .array .int
  | 1 => .array .int
  | 2 => .array .boolean
  | 3 => .array .boolean
  | 4 => .array .int
  | 5 => .array .int
  | 6 => .array .int
  | 7 => .array .int
  | 8 => .array .int
  | _ => .array .int
abbrev wsX70 : List Cond := u_ws RX7 TX7 10
theorem nmX7 : ∀ a, a < 10 → ∀ b, b < 10 → a ≠ b → (TX7 a).2.1 ≠ (TX7 b).2.1 := by decide +kernel
theorem tyX7_ok : ∀ k, k < 10 → parseFieldDescriptor (TX7 k).2.2.1 = some (tyX7 k) := by decide +kernel
abbrev cX7_init : ByteArray := prog_9_method_1_code
def yX7_init : MethodName := ⟨RX7, "<init>", "()V"⟩
abbrev cX7_in : ByteArray := prog_9_method_2_code
def yX7_in : MethodName := ⟨RX7, "in", "(III)Z"⟩
abbrev cX7_isTarget : ByteArray := prog_9_method_3_code
def yX7_isTarget : MethodName := ⟨RX7, "isTarget", "(I)Z"⟩
abbrev cX7_kindOf : ByteArray := prog_9_method_4_code
def yX7_kindOf : MethodName := ⟨RX7, "kindOf", "(I)I"⟩
abbrev cX7_weightOf : ByteArray := prog_9_method_5_code
def yX7_weightOf : MethodName := ⟨RX7, "weightOf", "(I)I"⟩
abbrev cX7_linkOf : ByteArray := prog_9_method_6_code
def yX7_linkOf : MethodName := ⟨RX7, "linkOf", "(II)I"⟩
abbrev cX7_tests : ByteArray := prog_9_method_7_code
def yX7_tests : MethodName := ⟨RX7, "tests", "()I"⟩
abbrev cX7_addTarget : ByteArray := prog_9_method_8_code
def yX7_addTarget : MethodName := ⟨RX7, "addTarget", "(II)I"⟩
abbrev cX7_targetCount : ByteArray := prog_9_method_9_code
def yX7_targetCount : MethodName := ⟨RX7, "targetCount", "()I"⟩
abbrev cX7_reachOf : ByteArray := prog_9_method_10_code
def yX7_reachOf : MethodName := ⟨RX7, "reachOf", "(II)I"⟩
abbrev cX7_addDependency : ByteArray := prog_9_method_11_code
def yX7_addDependency : MethodName := ⟨RX7, "addDependency", "(III)I"⟩
abbrev cX7_removeDependency : ByteArray := prog_9_method_12_code
def yX7_removeDependency : MethodName := ⟨RX7, "removeDependency", "(II)I"⟩
abbrev cX7_at : ByteArray := prog_9_method_13_code
def yX7_at : MethodName := ⟨RX7, "at", "(I)I"⟩
abbrev cX7_isFile : ByteArray := prog_9_method_14_code
def yX7_isFile : MethodName := ⟨RX7, "isFile", "(I)Z"⟩
abbrev cX7_isNamed : ByteArray := prog_9_method_15_code
def yX7_isNamed : MethodName := ⟨RX7, "isNamed", "(I)Z"⟩
abbrev cX7_touch : ByteArray := prog_9_method_16_code
def yX7_touch : MethodName := ⟨RX7, "touch", "(II)V"⟩
abbrev cX7_giveName : ByteArray := prog_9_method_17_code
def yX7_giveName : MethodName := ⟨RX7, "giveName", "(II)V"⟩
abbrev cX7_addFile : ByteArray := prog_9_method_18_code
def yX7_addFile : MethodName := ⟨RX7, "addFile", "(IZI)I"⟩
abbrev cX7_edit : ByteArray := prog_9_method_19_code
def yX7_edit : MethodName := ⟨RX7, "edit", "(I)I"⟩
abbrev cX7_rename : ByteArray := prog_9_method_20_code
def yX7_rename : MethodName := ⟨RX7, "rename", "(II)I"⟩
abbrev cX7_move : ByteArray := prog_9_method_21_code
def yX7_move : MethodName := ⟨RX7, "move", "(II)I"⟩
abbrev cX7_deleteFile : ByteArray := prog_9_method_22_code
def yX7_deleteFile : MethodName := ⟨RX7, "deleteFile", "(I)I"⟩
abbrev cX7_targetOf : ByteArray := prog_9_method_23_code
def yX7_targetOf : MethodName := ⟨RX7, "targetOf", "(I)I"⟩
abbrev cX7_nameOf : ByteArray := prog_9_method_24_code
def yX7_nameOf : MethodName := ⟨RX7, "nameOf", "(I)I"⟩
abbrev cX7_follow : ByteArray := prog_9_method_25_code
def yX7_follow : MethodName := ⟨RX7, "follow", "(I)I"⟩
abbrev cX7_follows : ByteArray := prog_9_method_26_code
def yX7_follows : MethodName := ⟨RX7, "follows", "(II)Z"⟩
abbrev cX7_spread : ByteArray := prog_9_method_27_code
def yX7_spread : MethodName := ⟨RX7, "spread", "()V"⟩
abbrev cX7_layChanged : ByteArray := prog_9_method_28_code
def yX7_layChanged : MethodName := ⟨RX7, "layChanged", "()V"⟩
abbrev cX7_setOf : ByteArray := prog_9_method_29_code
def yX7_setOf : MethodName := ⟨RX7, "setOf", "(I)I"⟩
abbrev cX7_clearChanges : ByteArray := prog_9_method_30_code
def yX7_clearChanges : MethodName := ⟨RX7, "clearChanges", "()I"⟩
abbrev cX7_isPart : ByteArray := prog_9_method_31_code
def yX7_isPart : MethodName := ⟨RX7, "isPart", "(I)Z"⟩
abbrev cX7_directlyChanged : ByteArray := prog_9_method_32_code
def yX7_directlyChanged : MethodName := ⟨RX7, "directlyChanged", "(I)I"⟩
abbrev cX7_changed : ByteArray := prog_9_method_33_code
def yX7_changed : MethodName := ⟨RX7, "changed", "(I)I"⟩
abbrev cX7_rebuilt : ByteArray := prog_9_method_34_code
def yX7_rebuilt : MethodName := ⟨RX7, "rebuilt", "()I"⟩
abbrev cX7_affectedTests : ByteArray := prog_9_method_35_code
def yX7_affectedTests : MethodName := ⟨RX7, "affectedTests", "()I"⟩
abbrev cX7_laySteps : ByteArray := prog_9_method_36_code
def yX7_laySteps : MethodName := ⟨RX7, "laySteps", "(I)V"⟩
abbrev cX7_smallest : ByteArray := prog_9_method_37_code
def yX7_smallest : MethodName := ⟨RX7, "smallest", "(II)I"⟩
abbrev cX7_chain : ByteArray := prog_9_method_38_code
def yX7_chain : MethodName := ⟨RX7, "chain", "(III)I"⟩
abbrev cX7_impactOf : ByteArray := prog_9_method_39_code
def yX7_impactOf : MethodName := ⟨RX7, "impactOf", "(I)I"⟩
abbrev cX7_impact : ByteArray := prog_9_method_40_code
def yX7_impact : MethodName := ⟨RX7, "impact", "(II)I"⟩
abbrev cX7_mostCritical : ByteArray := prog_9_method_41_code
def yX7_mostCritical : MethodName := ⟨RX7, "mostCritical", "(I)I"⟩
abbrev cX7_waits : ByteArray := prog_9_method_42_code
def yX7_waits : MethodName := ⟨RX7, "waits", "(II)Z"⟩
abbrev cX7_layOrder : ByteArray := prog_9_method_43_code
def yX7_layOrder : MethodName := ⟨RX7, "layOrder", "()I"⟩
abbrev cX7_rebuildOrder : ByteArray := prog_9_method_44_code
def yX7_rebuildOrder : MethodName := ⟨RX7, "rebuildOrder", "(I)I"⟩
abbrev cX7_rebuildTime : ByteArray := prog_9_method_45_code
def yX7_rebuildTime : MethodName := ⟨RX7, "rebuildTime", "()I"⟩
abbrev cX7_layShards : ByteArray := prog_9_method_46_code
def yX7_layShards : MethodName := ⟨RX7, "layShards", "(I)V"⟩
abbrev cX7_areShards : ByteArray := prog_9_method_47_code
def yX7_areShards : MethodName := ⟨RX7, "areShards", "(I)Z"⟩
abbrev cX7_shardOf : ByteArray := prog_9_method_48_code
def yX7_shardOf : MethodName := ⟨RX7, "shardOf", "(II)I"⟩
abbrev cX7_shardLoad : ByteArray := prog_9_method_49_code
def yX7_shardLoad : MethodName := ⟨RX7, "shardLoad", "(II)I"⟩
abbrev cX7_greatestBy : ByteArray := prog_9_method_50_code
def yX7_greatestBy : MethodName := ⟨RX7, "greatestBy", "(III)I"⟩
abbrev cX7_bestGreatestLoad : ByteArray := prog_9_method_51_code
def yX7_bestGreatestLoad : MethodName := ⟨RX7, "bestGreatestLoad", "(I)I"⟩
abbrev cX7_save : ByteArray := prog_9_method_52_code
def yX7_save : MethodName := ⟨RX7, "save", "(I)I"⟩
abbrev cX7_restore : ByteArray := prog_9_method_53_code
def yX7_restore : MethodName := ⟨RX7, "restore", "(I)I"⟩
def RJ6 : String := "java/lang/Integer"
def TJ6 : u_T := fun k => match k with
  | _ => ("", "", "", false)
def tyJ6 : Nat → FieldType := fun k => match k with
  | _ => .int
abbrev wsJ60 : List Cond := u_ws RJ6 TJ6 0
theorem nmJ6 : ∀ a, a < 0 → ∀ b, b < 0 → a ≠ b → (TJ6 a).2.1 ≠ (TJ6 b).2.1 := by decide +kernel
theorem tyJ6_ok : ∀ k, k < 0 → parseFieldDescriptor (TJ6 k).2.2.1 = some (tyJ6 k) := by decide +kernel
abbrev cJ6_bitCount_0f7a4 : ByteArray := prog_10_method_49_code
def yJ6_bitCount_0f7a4 : MethodName := ⟨RJ6, "bitCount", "(I)I"⟩
def RJ13 : String := "java/lang/Long"
def TJ13 : u_T := fun k => match k with
  | _ => ("", "", "", false)
def tyJ13 : Nat → FieldType := fun k => match k with
  | _ => .int
abbrev wsJ130 : List Cond := u_ws RJ13 TJ13 0
theorem nmJ13 : ∀ a, a < 0 → ∀ b, b < 0 → a ≠ b → (TJ13 a).2.1 ≠ (TJ13 b).2.1 := by decide +kernel
theorem tyJ13_ok : ∀ k, k < 0 → parseFieldDescriptor (TJ13 k).2.2.1 = some (tyJ13 k) := by decide +kernel
abbrev cJ13_bitCount_95d88 : ByteArray := prog_11_method_50_code
def yJ13_bitCount_95d88 : MethodName := ⟨RJ13, "bitCount", "(J)I"⟩
def RJ9 : String := "java/lang/Math"
def TJ9 : u_T := fun k => match k with
  | _ => ("", "", "", false)
def tyJ9 : Nat → FieldType := fun k => match k with
  | _ => .int
abbrev wsJ90 : List Cond := u_ws RJ9 TJ9 0
theorem nmJ9 : ∀ a, a < 0 → ∀ b, b < 0 → a ≠ b → (TJ9 a).2.1 ≠ (TJ9 b).2.1 := by decide +kernel
theorem tyJ9_ok : ∀ k, k < 0 → parseFieldDescriptor (TJ9 k).2.2.1 = some (tyJ9 k) := by decide +kernel
abbrev cJ9_max_7cf53 : ByteArray := prog_12_method_65_code
def yJ9_max_7cf53 : MethodName := ⟨RJ9, "max", "(II)I"⟩
abbrev cJ9_min_7cf53 : ByteArray := prog_12_method_69_code
def yJ9_min_7cf53 : MethodName := ⟨RJ9, "min", "(II)I"⟩
def RJ10 : String := "java/lang/System"
def TJ10 : u_T := fun k => match k with
  | _ => ("", "", "", false)
def tyJ10 : Nat → FieldType := fun k => match k with
  | _ => .int
abbrev wsJ100 : List Cond := u_ws RJ10 TJ10 0
theorem nmJ10 : ∀ a, a < 0 → ∀ b, b < 0 → a ≠ b → (TJ10 a).2.1 ≠ (TJ10 b).2.1 := by decide +kernel
theorem tyJ10_ok : ∀ k, k < 0 → parseFieldDescriptor (TJ10 k).2.2.1 = some (tyJ10 k) := by decide +kernel
def RJ7 : String := "java/util/Arrays"
def TJ7 : u_T := fun k => match k with
  | _ => ("", "", "", false)
def tyJ7 : Nat → FieldType := fun k => match k with
  | _ => .int
abbrev wsJ70 : List Cond := u_ws RJ7 TJ7 0
theorem nmJ7 : ∀ a, a < 0 → ∀ b, b < 0 → a ≠ b → (TJ7 a).2.1 ≠ (TJ7 b).2.1 := by decide +kernel
theorem tyJ7_ok : ∀ k, k < 0 → parseFieldDescriptor (TJ7 k).2.2.1 = some (tyJ7 k) := by decide +kernel
abbrev cJ7_fill_53178 : ByteArray := prog_14_method_103_code
def yJ7_fill_53178 : MethodName := ⟨RJ7, "fill", "([II)V"⟩
def RL : String := "ChangeImpactLaw"
abbrev cL_law : ByteArray := code
def yL_law : MethodName := ⟨RL, "law", "([I)Z"⟩
end
section
theorem dJ6_bitCount_0f7a4_0 : decode cJ6_bitCount_0f7a4 0 = .ok (.iload_n 0, 1) := by decide +kernel
theorem dJ6_bitCount_0f7a4_1 : decode cJ6_bitCount_0f7a4 1 = .ok (.iload_n 0, 1) := by decide +kernel
theorem dJ6_bitCount_0f7a4_2 : decode cJ6_bitCount_0f7a4 2 = .ok (.iconst 1, 1) := by decide +kernel
theorem dJ6_bitCount_0f7a4_3 : decode cJ6_bitCount_0f7a4 3 = .ok (.iushr, 1) := by decide +kernel
theorem dJ6_bitCount_0f7a4_4 : decode cJ6_bitCount_0f7a4 4 = .ok (.ldc_w 265, 3) := by decide +kernel
theorem dJ6_bitCount_0f7a4_7 : decode cJ6_bitCount_0f7a4 7 = .ok (.iand, 1) := by decide +kernel
theorem dJ6_bitCount_0f7a4_8 : decode cJ6_bitCount_0f7a4 8 = .ok (.isub, 1) := by decide +kernel
theorem dJ6_bitCount_0f7a4_9 : decode cJ6_bitCount_0f7a4 9 = .ok (.istore_n 0, 1) := by decide +kernel
theorem dJ6_bitCount_0f7a4_10 : decode cJ6_bitCount_0f7a4 10 = .ok (.iload_n 0, 1) := by decide +kernel
theorem dJ6_bitCount_0f7a4_11 : decode cJ6_bitCount_0f7a4 11 = .ok (.ldc_w 266, 3) := by decide +kernel
theorem dJ6_bitCount_0f7a4_14 : decode cJ6_bitCount_0f7a4 14 = .ok (.iand, 1) := by decide +kernel
theorem dJ6_bitCount_0f7a4_15 : decode cJ6_bitCount_0f7a4 15 = .ok (.iload_n 0, 1) := by decide +kernel
theorem dJ6_bitCount_0f7a4_16 : decode cJ6_bitCount_0f7a4 16 = .ok (.iconst 2, 1) := by decide +kernel
theorem dJ6_bitCount_0f7a4_17 : decode cJ6_bitCount_0f7a4 17 = .ok (.iushr, 1) := by decide +kernel
theorem dJ6_bitCount_0f7a4_18 : decode cJ6_bitCount_0f7a4 18 = .ok (.ldc_w 266, 3) := by decide +kernel
theorem dJ6_bitCount_0f7a4_21 : decode cJ6_bitCount_0f7a4 21 = .ok (.iand, 1) := by decide +kernel
theorem dJ6_bitCount_0f7a4_22 : decode cJ6_bitCount_0f7a4 22 = .ok (.iadd, 1) := by decide +kernel
theorem dJ6_bitCount_0f7a4_23 : decode cJ6_bitCount_0f7a4 23 = .ok (.istore_n 0, 1) := by decide +kernel
theorem dJ6_bitCount_0f7a4_24 : decode cJ6_bitCount_0f7a4 24 = .ok (.iload_n 0, 1) := by decide +kernel
theorem dJ6_bitCount_0f7a4_25 : decode cJ6_bitCount_0f7a4 25 = .ok (.iload_n 0, 1) := by decide +kernel
theorem dJ6_bitCount_0f7a4_26 : decode cJ6_bitCount_0f7a4 26 = .ok (.iconst 4, 1) := by decide +kernel
theorem dJ6_bitCount_0f7a4_27 : decode cJ6_bitCount_0f7a4 27 = .ok (.iushr, 1) := by decide +kernel
theorem dJ6_bitCount_0f7a4_28 : decode cJ6_bitCount_0f7a4 28 = .ok (.iadd, 1) := by decide +kernel
theorem dJ6_bitCount_0f7a4_29 : decode cJ6_bitCount_0f7a4 29 = .ok (.ldc_w 267, 3) := by decide +kernel
theorem dJ6_bitCount_0f7a4_32 : decode cJ6_bitCount_0f7a4 32 = .ok (.iand, 1) := by decide +kernel
theorem dJ6_bitCount_0f7a4_33 : decode cJ6_bitCount_0f7a4 33 = .ok (.istore_n 0, 1) := by decide +kernel
theorem dJ6_bitCount_0f7a4_34 : decode cJ6_bitCount_0f7a4 34 = .ok (.iload_n 0, 1) := by decide +kernel
theorem dJ6_bitCount_0f7a4_35 : decode cJ6_bitCount_0f7a4 35 = .ok (.iload_n 0, 1) := by decide +kernel
theorem dJ6_bitCount_0f7a4_36 : decode cJ6_bitCount_0f7a4 36 = .ok (.bipush 8, 2) := by decide +kernel
theorem dJ6_bitCount_0f7a4_38 : decode cJ6_bitCount_0f7a4 38 = .ok (.iushr, 1) := by decide +kernel
theorem dJ6_bitCount_0f7a4_39 : decode cJ6_bitCount_0f7a4 39 = .ok (.iadd, 1) := by decide +kernel
theorem dJ6_bitCount_0f7a4_40 : decode cJ6_bitCount_0f7a4 40 = .ok (.istore_n 0, 1) := by decide +kernel
theorem dJ6_bitCount_0f7a4_41 : decode cJ6_bitCount_0f7a4 41 = .ok (.iload_n 0, 1) := by decide +kernel
theorem dJ6_bitCount_0f7a4_42 : decode cJ6_bitCount_0f7a4 42 = .ok (.iload_n 0, 1) := by decide +kernel
theorem dJ6_bitCount_0f7a4_43 : decode cJ6_bitCount_0f7a4 43 = .ok (.bipush 16, 2) := by decide +kernel
theorem dJ6_bitCount_0f7a4_45 : decode cJ6_bitCount_0f7a4 45 = .ok (.iushr, 1) := by decide +kernel
theorem dJ6_bitCount_0f7a4_46 : decode cJ6_bitCount_0f7a4 46 = .ok (.iadd, 1) := by decide +kernel
theorem dJ6_bitCount_0f7a4_47 : decode cJ6_bitCount_0f7a4 47 = .ok (.istore_n 0, 1) := by decide +kernel
theorem dJ6_bitCount_0f7a4_48 : decode cJ6_bitCount_0f7a4 48 = .ok (.iload_n 0, 1) := by decide +kernel
theorem dJ6_bitCount_0f7a4_49 : decode cJ6_bitCount_0f7a4 49 = .ok (.bipush 63, 2) := by decide +kernel
theorem dJ6_bitCount_0f7a4_51 : decode cJ6_bitCount_0f7a4 51 = .ok (.iand, 1) := by decide +kernel
theorem dJ6_bitCount_0f7a4_52 : decode cJ6_bitCount_0f7a4 52 = .ok (.ireturn, 1) := by decide +kernel
theorem dJ13_bitCount_95d88_0 : decode cJ13_bitCount_95d88 0 = .ok (.lload_n 0, 1) := by decide +kernel
theorem dJ13_bitCount_95d88_1 : decode cJ13_bitCount_95d88 1 = .ok (.lload_n 0, 1) := by decide +kernel
theorem dJ13_bitCount_95d88_2 : decode cJ13_bitCount_95d88 2 = .ok (.iconst 1, 1) := by decide +kernel
theorem dJ13_bitCount_95d88_3 : decode cJ13_bitCount_95d88 3 = .ok (.lushr, 1) := by decide +kernel
theorem dJ13_bitCount_95d88_4 : decode cJ13_bitCount_95d88 4 = .ok (.ldc2_w 314, 3) := by decide +kernel
theorem dJ13_bitCount_95d88_7 : decode cJ13_bitCount_95d88 7 = .ok (.land, 1) := by decide +kernel
theorem dJ13_bitCount_95d88_8 : decode cJ13_bitCount_95d88 8 = .ok (.lsub, 1) := by decide +kernel
theorem dJ13_bitCount_95d88_9 : decode cJ13_bitCount_95d88 9 = .ok (.lstore_n 0, 1) := by decide +kernel
theorem dJ13_bitCount_95d88_10 : decode cJ13_bitCount_95d88 10 = .ok (.lload_n 0, 1) := by decide +kernel
theorem dJ13_bitCount_95d88_11 : decode cJ13_bitCount_95d88 11 = .ok (.ldc2_w 316, 3) := by decide +kernel
theorem dJ13_bitCount_95d88_14 : decode cJ13_bitCount_95d88 14 = .ok (.land, 1) := by decide +kernel
theorem dJ13_bitCount_95d88_15 : decode cJ13_bitCount_95d88 15 = .ok (.lload_n 0, 1) := by decide +kernel
theorem dJ13_bitCount_95d88_16 : decode cJ13_bitCount_95d88 16 = .ok (.iconst 2, 1) := by decide +kernel
theorem dJ13_bitCount_95d88_17 : decode cJ13_bitCount_95d88 17 = .ok (.lushr, 1) := by decide +kernel
theorem dJ13_bitCount_95d88_18 : decode cJ13_bitCount_95d88 18 = .ok (.ldc2_w 316, 3) := by decide +kernel
theorem dJ13_bitCount_95d88_21 : decode cJ13_bitCount_95d88 21 = .ok (.land, 1) := by decide +kernel
theorem dJ13_bitCount_95d88_22 : decode cJ13_bitCount_95d88 22 = .ok (.ladd, 1) := by decide +kernel
theorem dJ13_bitCount_95d88_23 : decode cJ13_bitCount_95d88 23 = .ok (.lstore_n 0, 1) := by decide +kernel
theorem dJ13_bitCount_95d88_24 : decode cJ13_bitCount_95d88 24 = .ok (.lload_n 0, 1) := by decide +kernel
theorem dJ13_bitCount_95d88_25 : decode cJ13_bitCount_95d88 25 = .ok (.lload_n 0, 1) := by decide +kernel
theorem dJ13_bitCount_95d88_26 : decode cJ13_bitCount_95d88 26 = .ok (.iconst 4, 1) := by decide +kernel
theorem dJ13_bitCount_95d88_27 : decode cJ13_bitCount_95d88 27 = .ok (.lushr, 1) := by decide +kernel
theorem dJ13_bitCount_95d88_28 : decode cJ13_bitCount_95d88 28 = .ok (.ladd, 1) := by decide +kernel
theorem dJ13_bitCount_95d88_29 : decode cJ13_bitCount_95d88 29 = .ok (.ldc2_w 318, 3) := by decide +kernel
theorem dJ13_bitCount_95d88_32 : decode cJ13_bitCount_95d88 32 = .ok (.land, 1) := by decide +kernel
theorem dJ13_bitCount_95d88_33 : decode cJ13_bitCount_95d88 33 = .ok (.lstore_n 0, 1) := by decide +kernel
theorem dJ13_bitCount_95d88_34 : decode cJ13_bitCount_95d88 34 = .ok (.lload_n 0, 1) := by decide +kernel
theorem dJ13_bitCount_95d88_35 : decode cJ13_bitCount_95d88 35 = .ok (.lload_n 0, 1) := by decide +kernel
theorem dJ13_bitCount_95d88_36 : decode cJ13_bitCount_95d88 36 = .ok (.bipush 8, 2) := by decide +kernel
theorem dJ13_bitCount_95d88_38 : decode cJ13_bitCount_95d88 38 = .ok (.lushr, 1) := by decide +kernel
theorem dJ13_bitCount_95d88_39 : decode cJ13_bitCount_95d88 39 = .ok (.ladd, 1) := by decide +kernel
theorem dJ13_bitCount_95d88_40 : decode cJ13_bitCount_95d88 40 = .ok (.lstore_n 0, 1) := by decide +kernel
theorem dJ13_bitCount_95d88_41 : decode cJ13_bitCount_95d88 41 = .ok (.lload_n 0, 1) := by decide +kernel
theorem dJ13_bitCount_95d88_42 : decode cJ13_bitCount_95d88 42 = .ok (.lload_n 0, 1) := by decide +kernel
theorem dJ13_bitCount_95d88_43 : decode cJ13_bitCount_95d88 43 = .ok (.bipush 16, 2) := by decide +kernel
theorem dJ13_bitCount_95d88_45 : decode cJ13_bitCount_95d88 45 = .ok (.lushr, 1) := by decide +kernel
theorem dJ13_bitCount_95d88_46 : decode cJ13_bitCount_95d88 46 = .ok (.ladd, 1) := by decide +kernel
theorem dJ13_bitCount_95d88_47 : decode cJ13_bitCount_95d88 47 = .ok (.lstore_n 0, 1) := by decide +kernel
theorem dJ13_bitCount_95d88_48 : decode cJ13_bitCount_95d88 48 = .ok (.lload_n 0, 1) := by decide +kernel
theorem dJ13_bitCount_95d88_49 : decode cJ13_bitCount_95d88 49 = .ok (.lload_n 0, 1) := by decide +kernel
theorem dJ13_bitCount_95d88_50 : decode cJ13_bitCount_95d88 50 = .ok (.bipush 32, 2) := by decide +kernel
theorem dJ13_bitCount_95d88_52 : decode cJ13_bitCount_95d88 52 = .ok (.lushr, 1) := by decide +kernel
theorem dJ13_bitCount_95d88_53 : decode cJ13_bitCount_95d88 53 = .ok (.ladd, 1) := by decide +kernel
theorem dJ13_bitCount_95d88_54 : decode cJ13_bitCount_95d88 54 = .ok (.lstore_n 0, 1) := by decide +kernel
theorem dJ13_bitCount_95d88_55 : decode cJ13_bitCount_95d88 55 = .ok (.lload_n 0, 1) := by decide +kernel
theorem dJ13_bitCount_95d88_56 : decode cJ13_bitCount_95d88 56 = .ok (.l2i, 1) := by decide +kernel
theorem dJ13_bitCount_95d88_57 : decode cJ13_bitCount_95d88 57 = .ok (.bipush 127, 2) := by decide +kernel
theorem dJ13_bitCount_95d88_59 : decode cJ13_bitCount_95d88 59 = .ok (.iand, 1) := by decide +kernel
theorem dJ13_bitCount_95d88_60 : decode cJ13_bitCount_95d88 60 = .ok (.ireturn, 1) := by decide +kernel
theorem dJ7_fill_53178_0 : decode cJ7_fill_53178 0 = .ok (.iconst 0, 1) := by decide +kernel
theorem dJ7_fill_53178_1 : decode cJ7_fill_53178 1 = .ok (.istore_n 2, 1) := by decide +kernel
theorem dJ7_fill_53178_2 : decode cJ7_fill_53178 2 = .ok (.aload_n 0, 1) := by decide +kernel
theorem dJ7_fill_53178_3 : decode cJ7_fill_53178 3 = .ok (.arraylength, 1) := by decide +kernel
theorem dJ7_fill_53178_4 : decode cJ7_fill_53178 4 = .ok (.istore_n 3, 1) := by decide +kernel
theorem dJ7_fill_53178_5 : decode cJ7_fill_53178 5 = .ok (.iload_n 2, 1) := by decide +kernel
theorem dJ7_fill_53178_6 : decode cJ7_fill_53178 6 = .ok (.iload_n 3, 1) := by decide +kernel
theorem dJ7_fill_53178_7 : decode cJ7_fill_53178 7 = .ok (.if_icmp .ge 13, 3) := by decide +kernel
theorem dJ7_fill_53178_10 : decode cJ7_fill_53178 10 = .ok (.aload_n 0, 1) := by decide +kernel
theorem dJ7_fill_53178_11 : decode cJ7_fill_53178 11 = .ok (.iload_n 2, 1) := by decide +kernel
theorem dJ7_fill_53178_12 : decode cJ7_fill_53178 12 = .ok (.iload_n 1, 1) := by decide +kernel
theorem dJ7_fill_53178_13 : decode cJ7_fill_53178 13 = .ok (.iastore, 1) := by decide +kernel
theorem dJ7_fill_53178_14 : decode cJ7_fill_53178 14 = .ok (.iinc 2 1, 3) := by decide +kernel
theorem dJ7_fill_53178_17 : decode cJ7_fill_53178 17 = .ok (.goto (-12), 3) := by decide +kernel
theorem dJ7_fill_53178_20 : decode cJ7_fill_53178 20 = .ok (.return_, 1) := by decide +kernel
theorem dX0_init_0 : decode cX0_init 0 = .ok (.aload_n 0, 1) := by decide +kernel
theorem dX0_init_1 : decode cX0_init 1 = .ok (.invokespecial 3, 3) := by decide +kernel
theorem dX0_init_4 : decode cX0_init 4 = .ok (.aload_n 0, 1) := by decide +kernel
theorem dX0_init_5 : decode cX0_init 5 = .ok (.bipush 40, 2) := by decide +kernel
theorem dX0_init_7 : decode cX0_init 7 = .ok (.newarray .int, 2) := by decide +kernel
theorem dX0_init_9 : decode cX0_init 9 = .ok (.putfield 9, 3) := by decide +kernel
theorem dX0_init_12 : decode cX0_init 12 = .ok (.bipush 40, 2) := by decide +kernel
theorem dX0_init_14 : decode cX0_init 14 = .ok (.newarray .long, 2) := by decide +kernel
theorem dX0_init_16 : decode cX0_init 16 = .ok (.astore 5, 2) := by decide +kernel
theorem dX0_init_18 : decode cX0_init 18 = .ok (.aload 5, 2) := by decide +kernel
theorem dX0_init_20 : decode cX0_init 20 = .ok (.iconst 0, 1) := by decide +kernel
theorem dX0_init_21 : decode cX0_init 21 = .ok (.iload 4, 2) := by decide +kernel
theorem dX0_init_23 : decode cX0_init 23 = .ok (.invokestatic 15, 3) := by decide +kernel
theorem dX0_init_26 : decode cX0_init 26 = .ok (.lastore, 1) := by decide +kernel
theorem dX0_init_27 : decode cX0_init 27 = .ok (.iconst 0, 1) := by decide +kernel
theorem dX0_init_28 : decode cX0_init 28 = .ok (.istore 6, 2) := by decide +kernel
theorem dX0_init_30 : decode cX0_init 30 = .ok (.iload 6, 2) := by decide +kernel
theorem dX0_init_32 : decode cX0_init 32 = .ok (.bipush 39, 2) := by decide +kernel
theorem dX0_init_34 : decode cX0_init 34 = .ok (.if_icmp .ge 47, 3) := by decide +kernel
theorem dX0_init_37 : decode cX0_init 37 = .ok (.aload 5, 2) := by decide +kernel
theorem dX0_init_39 : decode cX0_init 39 = .ok (.iload 6, 2) := by decide +kernel
theorem dX0_init_41 : decode cX0_init 41 = .ok (.laload, 1) := by decide +kernel
theorem dX0_init_42 : decode cX0_init 42 = .ok (.lconst 0, 1) := by decide +kernel
theorem dX0_init_43 : decode cX0_init 43 = .ok (.lcmp, 1) := by decide +kernel
theorem dX0_init_44 : decode cX0_init 44 = .ok (.ifCond .eq 37, 3) := by decide +kernel
theorem dX0_init_47 : decode cX0_init 47 = .ok (.aload 5, 2) := by decide +kernel
theorem dX0_init_49 : decode cX0_init 49 = .ok (.iload 6, 2) := by decide +kernel
theorem dX0_init_51 : decode cX0_init 51 = .ok (.laload, 1) := by decide +kernel
theorem dX0_init_52 : decode cX0_init 52 = .ok (.lload_n 2, 1) := by decide +kernel
theorem dX0_init_53 : decode cX0_init 53 = .ok (.land, 1) := by decide +kernel
theorem dX0_init_54 : decode cX0_init 54 = .ok (.lconst 0, 1) := by decide +kernel
theorem dX0_init_55 : decode cX0_init 55 = .ok (.lcmp, 1) := by decide +kernel
theorem dX0_init_56 : decode cX0_init 56 = .ok (.ifCond .ne 25, 3) := by decide +kernel
theorem dX0_init_59 : decode cX0_init 59 = .ok (.aload 5, 2) := by decide +kernel
theorem dX0_init_61 : decode cX0_init 61 = .ok (.iload 6, 2) := by decide +kernel
theorem dX0_init_63 : decode cX0_init 63 = .ok (.iconst 1, 1) := by decide +kernel
theorem dX0_init_64 : decode cX0_init 64 = .ok (.iadd, 1) := by decide +kernel
theorem dX0_init_65 : decode cX0_init 65 = .ok (.aload_n 1, 1) := by decide +kernel
theorem dX0_init_66 : decode cX0_init 66 = .ok (.aload 5, 2) := by decide +kernel
theorem dX0_init_68 : decode cX0_init 68 = .ok (.iload 6, 2) := by decide +kernel
theorem dX0_init_70 : decode cX0_init 70 = .ok (.laload, 1) := by decide +kernel
theorem dX0_init_71 : decode cX0_init 71 = .ok (.invokevirtual 19, 3) := by decide +kernel
theorem dX0_init_74 : decode cX0_init 74 = .ok (.lastore, 1) := by decide +kernel
theorem dX0_init_75 : decode cX0_init 75 = .ok (.iinc 6 1, 3) := by decide +kernel
theorem dX0_init_78 : decode cX0_init 78 = .ok (.goto (-48), 3) := by decide +kernel
theorem dX0_init_81 : decode cX0_init 81 = .ok (.aload 5, 2) := by decide +kernel
theorem dX0_init_83 : decode cX0_init 83 = .ok (.iload 6, 2) := by decide +kernel
theorem dX0_init_85 : decode cX0_init 85 = .ok (.laload, 1) := by decide +kernel
theorem dX0_init_86 : decode cX0_init 86 = .ok (.lload_n 2, 1) := by decide +kernel
theorem dX0_init_87 : decode cX0_init 87 = .ok (.land, 1) := by decide +kernel
theorem dX0_init_88 : decode cX0_init 88 = .ok (.invokestatic 25, 3) := by decide +kernel
theorem dX0_init_91 : decode cX0_init 91 = .ok (.istore 7, 2) := by decide +kernel
theorem dX0_init_93 : decode cX0_init 93 = .ok (.iload 6, 2) := by decide +kernel
theorem dX0_init_95 : decode cX0_init 95 = .ok (.istore 8, 2) := by decide +kernel
theorem dX0_init_97 : decode cX0_init 97 = .ok (.iload 8, 2) := by decide +kernel
theorem dX0_init_99 : decode cX0_init 99 = .ok (.ifCond .lt 66, 3) := by decide +kernel
theorem dX0_init_102 : decode cX0_init 102 = .ok (.iload 7, 2) := by decide +kernel
theorem dX0_init_104 : decode cX0_init 104 = .ok (.bipush (-10), 2) := by decide +kernel
theorem dX0_init_106 : decode cX0_init 106 = .ok (.if_icmp .eq 59, 3) := by decide +kernel
theorem dX0_init_109 : decode cX0_init 109 = .ok (.aload_n 0, 1) := by decide +kernel
theorem dX0_init_110 : decode cX0_init 110 = .ok (.getfield 9, 3) := by decide +kernel
theorem dX0_init_113 : decode cX0_init 113 = .ok (.aload_n 0, 1) := by decide +kernel
theorem dX0_init_114 : decode cX0_init 114 = .ok (.getfield 29, 3) := by decide +kernel
theorem dX0_init_117 : decode cX0_init 117 = .ok (.iload 7, 2) := by decide +kernel
theorem dX0_init_119 : decode cX0_init 119 = .ok (.iastore, 1) := by decide +kernel
theorem dX0_init_120 : decode cX0_init 120 = .ok (.aload_n 0, 1) := by decide +kernel
theorem dX0_init_121 : decode cX0_init 121 = .ok (.dup, 1) := by decide +kernel
theorem dX0_init_122 : decode cX0_init 122 = .ok (.getfield 29, 3) := by decide +kernel
theorem dX0_init_125 : decode cX0_init 125 = .ok (.iconst 1, 1) := by decide +kernel
theorem dX0_init_126 : decode cX0_init 126 = .ok (.iadd, 1) := by decide +kernel
theorem dX0_init_127 : decode cX0_init 127 = .ok (.putfield 29, 3) := by decide +kernel
theorem dX0_init_130 : decode cX0_init 130 = .ok (.iload 8, 2) := by decide +kernel
theorem dX0_init_132 : decode cX0_init 132 = .ok (.ifCond .le 23, 3) := by decide +kernel
theorem dX0_init_135 : decode cX0_init 135 = .ok (.aload_n 1, 1) := by decide +kernel
theorem dX0_init_136 : decode cX0_init 136 = .ok (.iload 7, 2) := by decide +kernel
theorem dX0_init_138 : decode cX0_init 138 = .ok (.invokevirtual 33, 3) := by decide +kernel
theorem dX0_init_141 : decode cX0_init 141 = .ok (.aload 5, 2) := by decide +kernel
theorem dX0_init_143 : decode cX0_init 143 = .ok (.iload 8, 2) := by decide +kernel
theorem dX0_init_145 : decode cX0_init 145 = .ok (.iconst 1, 1) := by decide +kernel
theorem dX0_init_146 : decode cX0_init 146 = .ok (.isub, 1) := by decide +kernel
theorem dX0_init_147 : decode cX0_init 147 = .ok (.laload, 1) := by decide +kernel
theorem dX0_init_148 : decode cX0_init 148 = .ok (.land, 1) := by decide +kernel
theorem dX0_init_149 : decode cX0_init 149 = .ok (.invokestatic 25, 3) := by decide +kernel
theorem dX0_init_152 : decode cX0_init 152 = .ok (.goto 5, 3) := by decide +kernel
theorem dX0_init_155 : decode cX0_init 155 = .ok (.bipush (-10), 2) := by decide +kernel
theorem dX0_init_157 : decode cX0_init 157 = .ok (.istore 7, 2) := by decide +kernel
theorem dX0_init_159 : decode cX0_init 159 = .ok (.iinc 8 (-1), 3) := by decide +kernel
theorem dX0_init_162 : decode cX0_init 162 = .ok (.goto (-65), 3) := by decide +kernel
theorem dX0_init_165 : decode cX0_init 165 = .ok (.return_, 1) := by decide +kernel
theorem dX1_init_0 : decode cX1_init 0 = .ok (.aload_n 0, 1) := by decide +kernel
theorem dX1_init_1 : decode cX1_init 1 = .ok (.invokespecial 3, 3) := by decide +kernel
theorem dX1_init_4 : decode cX1_init 4 = .ok (.aload_n 0, 1) := by decide +kernel
theorem dX1_init_5 : decode cX1_init 5 = .ok (.bipush 40, 2) := by decide +kernel
theorem dX1_init_7 : decode cX1_init 7 = .ok (.newarray .int, 2) := by decide +kernel
theorem dX1_init_9 : decode cX1_init 9 = .ok (.putfield 9, 3) := by decide +kernel
theorem dX1_init_12 : decode cX1_init 12 = .ok (.aload_n 0, 1) := by decide +kernel
theorem dX1_init_13 : decode cX1_init 13 = .ok (.bipush 40, 2) := by decide +kernel
theorem dX1_init_15 : decode cX1_init 15 = .ok (.newarray .int, 2) := by decide +kernel
theorem dX1_init_17 : decode cX1_init 17 = .ok (.putfield 15, 3) := by decide +kernel
theorem dX1_init_20 : decode cX1_init 20 = .ok (.aload_n 0, 1) := by decide +kernel
theorem dX1_init_21 : decode cX1_init 21 = .ok (.bipush 40, 2) := by decide +kernel
theorem dX1_init_23 : decode cX1_init 23 = .ok (.newarray .boolean, 2) := by decide +kernel
theorem dX1_init_25 : decode cX1_init 25 = .ok (.putfield 18, 3) := by decide +kernel
theorem dX1_init_28 : decode cX1_init 28 = .ok (.aload_n 0, 1) := by decide +kernel
theorem dX1_init_29 : decode cX1_init 29 = .ok (.bipush 40, 2) := by decide +kernel
theorem dX1_init_31 : decode cX1_init 31 = .ok (.newarray .boolean, 2) := by decide +kernel
theorem dX1_init_33 : decode cX1_init 33 = .ok (.putfield 22, 3) := by decide +kernel
theorem dX1_init_36 : decode cX1_init 36 = .ok (.bipush 100, 2) := by decide +kernel
theorem dX1_init_38 : decode cX1_init 38 = .ok (.newarray .int, 2) := by decide +kernel
theorem dX1_init_40 : decode cX1_init 40 = .ok (.astore_n 1, 1) := by decide +kernel
theorem dX1_init_41 : decode cX1_init 41 = .ok (.aload_n 1, 1) := by decide +kernel
theorem dX1_init_42 : decode cX1_init 42 = .ok (.bipush (-10), 2) := by decide +kernel
theorem dX1_init_44 : decode cX1_init 44 = .ok (.invokestatic 25, 3) := by decide +kernel
theorem dX1_init_47 : decode cX1_init 47 = .ok (.aload_n 0, 1) := by decide +kernel
theorem dX1_init_48 : decode cX1_init 48 = .ok (.aload_n 1, 1) := by decide +kernel
theorem dX1_init_49 : decode cX1_init 49 = .ok (.putfield 31, 3) := by decide +kernel
theorem dX1_init_52 : decode cX1_init 52 = .ok (.return_, 1) := by decide +kernel
theorem dX1_copyFrom_0 : decode cX1_copyFrom 0 = .ok (.aload_n 0, 1) := by decide +kernel
theorem dX1_copyFrom_1 : decode cX1_copyFrom 1 = .ok (.aload_n 1, 1) := by decide +kernel
theorem dX1_copyFrom_2 : decode cX1_copyFrom 2 = .ok (.getfield 34, 3) := by decide +kernel
theorem dX1_copyFrom_5 : decode cX1_copyFrom 5 = .ok (.putfield 34, 3) := by decide +kernel
theorem dX1_copyFrom_8 : decode cX1_copyFrom 8 = .ok (.aload_n 1, 1) := by decide +kernel
theorem dX1_copyFrom_9 : decode cX1_copyFrom 9 = .ok (.getfield 9, 3) := by decide +kernel
theorem dX1_copyFrom_12 : decode cX1_copyFrom 12 = .ok (.iconst 0, 1) := by decide +kernel
theorem dX1_copyFrom_13 : decode cX1_copyFrom 13 = .ok (.aload_n 0, 1) := by decide +kernel
theorem dX1_copyFrom_14 : decode cX1_copyFrom 14 = .ok (.getfield 9, 3) := by decide +kernel
theorem dX1_copyFrom_17 : decode cX1_copyFrom 17 = .ok (.iconst 0, 1) := by decide +kernel
theorem dX1_copyFrom_18 : decode cX1_copyFrom 18 = .ok (.bipush 40, 2) := by decide +kernel
theorem dX1_copyFrom_20 : decode cX1_copyFrom 20 = .ok (.invokestatic 38, 3) := by decide +kernel
theorem dX1_copyFrom_23 : decode cX1_copyFrom 23 = .ok (.aload_n 1, 1) := by decide +kernel
theorem dX1_copyFrom_24 : decode cX1_copyFrom 24 = .ok (.getfield 15, 3) := by decide +kernel
theorem dX1_copyFrom_27 : decode cX1_copyFrom 27 = .ok (.iconst 0, 1) := by decide +kernel
theorem dX1_copyFrom_28 : decode cX1_copyFrom 28 = .ok (.aload_n 0, 1) := by decide +kernel
theorem dX1_copyFrom_29 : decode cX1_copyFrom 29 = .ok (.getfield 15, 3) := by decide +kernel
theorem dX1_copyFrom_32 : decode cX1_copyFrom 32 = .ok (.iconst 0, 1) := by decide +kernel
theorem dX1_copyFrom_33 : decode cX1_copyFrom 33 = .ok (.bipush 40, 2) := by decide +kernel
theorem dX1_copyFrom_35 : decode cX1_copyFrom 35 = .ok (.invokestatic 38, 3) := by decide +kernel
theorem dX1_copyFrom_38 : decode cX1_copyFrom 38 = .ok (.aload_n 1, 1) := by decide +kernel
theorem dX1_copyFrom_39 : decode cX1_copyFrom 39 = .ok (.getfield 18, 3) := by decide +kernel
theorem dX1_copyFrom_42 : decode cX1_copyFrom 42 = .ok (.iconst 0, 1) := by decide +kernel
theorem dX1_copyFrom_43 : decode cX1_copyFrom 43 = .ok (.aload_n 0, 1) := by decide +kernel
theorem dX1_copyFrom_44 : decode cX1_copyFrom 44 = .ok (.getfield 18, 3) := by decide +kernel
theorem dX1_copyFrom_47 : decode cX1_copyFrom 47 = .ok (.iconst 0, 1) := by decide +kernel
theorem dX1_copyFrom_48 : decode cX1_copyFrom 48 = .ok (.bipush 40, 2) := by decide +kernel
theorem dX1_copyFrom_50 : decode cX1_copyFrom 50 = .ok (.invokestatic 38, 3) := by decide +kernel
theorem dX1_copyFrom_53 : decode cX1_copyFrom 53 = .ok (.aload_n 1, 1) := by decide +kernel
theorem dX1_copyFrom_54 : decode cX1_copyFrom 54 = .ok (.getfield 22, 3) := by decide +kernel
theorem dX1_copyFrom_57 : decode cX1_copyFrom 57 = .ok (.iconst 0, 1) := by decide +kernel
theorem dX1_copyFrom_58 : decode cX1_copyFrom 58 = .ok (.aload_n 0, 1) := by decide +kernel
theorem dX1_copyFrom_59 : decode cX1_copyFrom 59 = .ok (.getfield 22, 3) := by decide +kernel
theorem dX1_copyFrom_62 : decode cX1_copyFrom 62 = .ok (.iconst 0, 1) := by decide +kernel
theorem dX1_copyFrom_63 : decode cX1_copyFrom 63 = .ok (.bipush 40, 2) := by decide +kernel
theorem dX1_copyFrom_65 : decode cX1_copyFrom 65 = .ok (.invokestatic 38, 3) := by decide +kernel
theorem dX1_copyFrom_68 : decode cX1_copyFrom 68 = .ok (.aload_n 1, 1) := by decide +kernel
theorem dX1_copyFrom_69 : decode cX1_copyFrom 69 = .ok (.getfield 31, 3) := by decide +kernel
theorem dX1_copyFrom_72 : decode cX1_copyFrom 72 = .ok (.iconst 0, 1) := by decide +kernel
theorem dX1_copyFrom_73 : decode cX1_copyFrom 73 = .ok (.aload_n 0, 1) := by decide +kernel
theorem dX1_copyFrom_74 : decode cX1_copyFrom 74 = .ok (.getfield 31, 3) := by decide +kernel
theorem dX1_copyFrom_77 : decode cX1_copyFrom 77 = .ok (.iconst 0, 1) := by decide +kernel
theorem dX1_copyFrom_78 : decode cX1_copyFrom 78 = .ok (.bipush 100, 2) := by decide +kernel
theorem dX1_copyFrom_80 : decode cX1_copyFrom 80 = .ok (.invokestatic 38, 3) := by decide +kernel
theorem dX1_copyFrom_83 : decode cX1_copyFrom 83 = .ok (.return_, 1) := by decide +kernel
theorem dX1_has_0 : decode cX1_has 0 = .ok (.iload_n 1, 1) := by decide +kernel
theorem dX1_has_1 : decode cX1_has 1 = .ok (.aload_n 0, 1) := by decide +kernel
theorem dX1_has_2 : decode cX1_has 2 = .ok (.getfield 34, 3) := by decide +kernel
theorem dX1_has_5 : decode cX1_has 5 = .ok (.invokestatic 44, 3) := by decide +kernel
theorem dX1_has_8 : decode cX1_has 8 = .ok (.ifCond .eq 16, 3) := by decide +kernel
theorem dX1_has_11 : decode cX1_has 11 = .ok (.aload_n 0, 1) := by decide +kernel
theorem dX1_has_12 : decode cX1_has 12 = .ok (.getfield 22, 3) := by decide +kernel
theorem dX1_has_15 : decode cX1_has 15 = .ok (.iload_n 1, 1) := by decide +kernel
theorem dX1_has_16 : decode cX1_has 16 = .ok (.baload, 1) := by decide +kernel
theorem dX1_has_17 : decode cX1_has 17 = .ok (.ifCond .eq 7, 3) := by decide +kernel
theorem dX1_has_20 : decode cX1_has 20 = .ok (.iconst 1, 1) := by decide +kernel
theorem dX1_has_21 : decode cX1_has 21 = .ok (.goto 4, 3) := by decide +kernel
theorem dX1_has_24 : decode cX1_has 24 = .ok (.iconst 0, 1) := by decide +kernel
theorem dX1_has_25 : decode cX1_has 25 = .ok (.ireturn, 1) := by decide +kernel
theorem dX1_isInUse_0 : decode cX1_isInUse 0 = .ok (.aload_n 0, 1) := by decide +kernel
theorem dX1_isInUse_1 : decode cX1_isInUse 1 = .ok (.getfield 31, 3) := by decide +kernel
theorem dX1_isInUse_4 : decode cX1_isInUse 4 = .ok (.iload_n 1, 1) := by decide +kernel
theorem dX1_isInUse_5 : decode cX1_isInUse 5 = .ok (.iaload, 1) := by decide +kernel
theorem dX1_isInUse_6 : decode cX1_isInUse 6 = .ok (.istore_n 2, 1) := by decide +kernel
theorem dX1_isInUse_7 : decode cX1_isInUse 7 = .ok (.aload_n 0, 1) := by decide +kernel
theorem dX1_isInUse_8 : decode cX1_isInUse 8 = .ok (.iload_n 2, 1) := by decide +kernel
theorem dX1_isInUse_9 : decode cX1_isInUse 9 = .ok (.invokevirtual 48, 3) := by decide +kernel
theorem dX1_isInUse_12 : decode cX1_isInUse 12 = .ok (.ifCond .eq 17, 3) := by decide +kernel
theorem dX1_isInUse_15 : decode cX1_isInUse 15 = .ok (.aload_n 0, 1) := by decide +kernel
theorem dX1_isInUse_16 : decode cX1_isInUse 16 = .ok (.getfield 15, 3) := by decide +kernel
theorem dX1_isInUse_19 : decode cX1_isInUse 19 = .ok (.iload_n 2, 1) := by decide +kernel
theorem dX1_isInUse_20 : decode cX1_isInUse 20 = .ok (.iaload, 1) := by decide +kernel
theorem dX1_isInUse_21 : decode cX1_isInUse 21 = .ok (.iload_n 1, 1) := by decide +kernel
theorem dX1_isInUse_22 : decode cX1_isInUse 22 = .ok (.if_icmp .ne 7, 3) := by decide +kernel
theorem dX1_isInUse_25 : decode cX1_isInUse 25 = .ok (.iconst 1, 1) := by decide +kernel
theorem dX1_isInUse_26 : decode cX1_isInUse 26 = .ok (.goto 4, 3) := by decide +kernel
theorem dX1_isInUse_29 : decode cX1_isInUse 29 = .ok (.iconst 0, 1) := by decide +kernel
theorem dX1_isInUse_30 : decode cX1_isInUse 30 = .ok (.ireturn, 1) := by decide +kernel
theorem dX1_append_0 : decode cX1_append 0 = .ok (.aload_n 0, 1) := by decide +kernel
theorem dX1_append_1 : decode cX1_append 1 = .ok (.getfield 34, 3) := by decide +kernel
theorem dX1_append_4 : decode cX1_append 4 = .ok (.istore 4, 2) := by decide +kernel
theorem dX1_append_6 : decode cX1_append 6 = .ok (.aload_n 0, 1) := by decide +kernel
theorem dX1_append_7 : decode cX1_append 7 = .ok (.getfield 9, 3) := by decide +kernel
theorem dX1_append_10 : decode cX1_append 10 = .ok (.iload 4, 2) := by decide +kernel
theorem dX1_append_12 : decode cX1_append 12 = .ok (.iload_n 1, 1) := by decide +kernel
theorem dX1_append_13 : decode cX1_append 13 = .ok (.iastore, 1) := by decide +kernel
theorem dX1_append_14 : decode cX1_append 14 = .ok (.aload_n 0, 1) := by decide +kernel
theorem dX1_append_15 : decode cX1_append 15 = .ok (.getfield 18, 3) := by decide +kernel
theorem dX1_append_18 : decode cX1_append 18 = .ok (.iload 4, 2) := by decide +kernel
theorem dX1_append_20 : decode cX1_append 20 = .ok (.iload_n 2, 1) := by decide +kernel
theorem dX1_append_21 : decode cX1_append 21 = .ok (.bastore, 1) := by decide +kernel
theorem dX1_append_22 : decode cX1_append 22 = .ok (.aload_n 0, 1) := by decide +kernel
theorem dX1_append_23 : decode cX1_append 23 = .ok (.getfield 22, 3) := by decide +kernel
theorem dX1_append_26 : decode cX1_append 26 = .ok (.iload 4, 2) := by decide +kernel
theorem dX1_append_28 : decode cX1_append 28 = .ok (.iconst 1, 1) := by decide +kernel
theorem dX1_append_29 : decode cX1_append 29 = .ok (.bastore, 1) := by decide +kernel
theorem dX1_append_30 : decode cX1_append 30 = .ok (.aload_n 0, 1) := by decide +kernel
theorem dX1_append_31 : decode cX1_append 31 = .ok (.dup, 1) := by decide +kernel
theorem dX1_append_32 : decode cX1_append 32 = .ok (.getfield 34, 3) := by decide +kernel
theorem dX1_append_35 : decode cX1_append 35 = .ok (.iconst 1, 1) := by decide +kernel
theorem dX1_append_36 : decode cX1_append 36 = .ok (.iadd, 1) := by decide +kernel
theorem dX1_append_37 : decode cX1_append 37 = .ok (.putfield 34, 3) := by decide +kernel
theorem dX1_append_40 : decode cX1_append 40 = .ok (.aload_n 0, 1) := by decide +kernel
theorem dX1_append_41 : decode cX1_append 41 = .ok (.iload 4, 2) := by decide +kernel
theorem dX1_append_43 : decode cX1_append 43 = .ok (.iload_n 3, 1) := by decide +kernel
theorem dX1_append_44 : decode cX1_append 44 = .ok (.invokevirtual 52, 3) := by decide +kernel
theorem dX1_append_47 : decode cX1_append 47 = .ok (.iload 4, 2) := by decide +kernel
theorem dX1_append_49 : decode cX1_append 49 = .ok (.ireturn, 1) := by decide +kernel
theorem dX1_giveName_0 : decode cX1_giveName 0 = .ok (.aload_n 0, 1) := by decide +kernel
theorem dX1_giveName_1 : decode cX1_giveName 1 = .ok (.getfield 15, 3) := by decide +kernel
theorem dX1_giveName_4 : decode cX1_giveName 4 = .ok (.iload_n 1, 1) := by decide +kernel
theorem dX1_giveName_5 : decode cX1_giveName 5 = .ok (.iload_n 2, 1) := by decide +kernel
theorem dX1_giveName_6 : decode cX1_giveName 6 = .ok (.iastore, 1) := by decide +kernel
theorem dX1_giveName_7 : decode cX1_giveName 7 = .ok (.aload_n 0, 1) := by decide +kernel
theorem dX1_giveName_8 : decode cX1_giveName 8 = .ok (.getfield 31, 3) := by decide +kernel
theorem dX1_giveName_11 : decode cX1_giveName 11 = .ok (.iload_n 2, 1) := by decide +kernel
theorem dX1_giveName_12 : decode cX1_giveName 12 = .ok (.iload_n 1, 1) := by decide +kernel
theorem dX1_giveName_13 : decode cX1_giveName 13 = .ok (.iastore, 1) := by decide +kernel
theorem dX1_giveName_14 : decode cX1_giveName 14 = .ok (.return_, 1) := by decide +kernel
theorem dX2_init_0 : decode cX2_init 0 = .ok (.aload_n 0, 1) := by decide +kernel
theorem dX2_init_1 : decode cX2_init 1 = .ok (.invokespecial 3, 3) := by decide +kernel
theorem dX2_init_4 : decode cX2_init 4 = .ok (.aload_n 0, 1) := by decide +kernel
theorem dX2_init_5 : decode cX2_init 5 = .ok (.bipush 20, 2) := by decide +kernel
theorem dX2_init_7 : decode cX2_init 7 = .ok (.newarray .int, 2) := by decide +kernel
theorem dX2_init_9 : decode cX2_init 9 = .ok (.putfield 9, 3) := by decide +kernel
theorem dX2_init_12 : decode cX2_init 12 = .ok (.aload_n 0, 1) := by decide +kernel
theorem dX2_init_13 : decode cX2_init 13 = .ok (.aload_n 1, 1) := by decide +kernel
theorem dX2_init_14 : decode cX2_init 14 = .ok (.putfield 15, 3) := by decide +kernel
theorem dX2_init_17 : decode cX2_init 17 = .ok (.aload_n 0, 1) := by decide +kernel
theorem dX2_init_18 : decode cX2_init 18 = .ok (.iload_n 2, 1) := by decide +kernel
theorem dX2_init_19 : decode cX2_init 19 = .ok (.putfield 19, 3) := by decide +kernel
theorem dX2_init_22 : decode cX2_init 22 = .ok (.iload_n 2, 1) := by decide +kernel
theorem dX2_init_23 : decode cX2_init 23 = .ok (.istore_n 3, 1) := by decide +kernel
theorem dX2_init_24 : decode cX2_init 24 = .ok (.iconst 0, 1) := by decide +kernel
theorem dX2_init_25 : decode cX2_init 25 = .ok (.istore 4, 2) := by decide +kernel
theorem dX2_init_27 : decode cX2_init 27 = .ok (.iload 4, 2) := by decide +kernel
theorem dX2_init_29 : decode cX2_init 29 = .ok (.bipush 20, 2) := by decide +kernel
theorem dX2_init_31 : decode cX2_init 31 = .ok (.if_icmp .ge 67, 3) := by decide +kernel
theorem dX2_init_34 : decode cX2_init 34 = .ok (.iload_n 3, 1) := by decide +kernel
theorem dX2_init_35 : decode cX2_init 35 = .ok (.ifCond .eq 63, 3) := by decide +kernel
theorem dX2_init_38 : decode cX2_init 38 = .ok (.iload_n 3, 1) := by decide +kernel
theorem dX2_init_39 : decode cX2_init 39 = .ok (.aload_n 1, 1) := by decide +kernel
theorem dX2_init_40 : decode cX2_init 40 = .ok (.iload_n 3, 1) := by decide +kernel
theorem dX2_init_41 : decode cX2_init 41 = .ok (.bipush 7, 2) := by decide +kernel
theorem dX2_init_43 : decode cX2_init 43 = .ok (.invokevirtual 23, 3) := by decide +kernel
theorem dX2_init_46 : decode cX2_init 46 = .ok (.iconst (-1), 1) := by decide +kernel
theorem dX2_init_47 : decode cX2_init 47 = .ok (.ixor, 1) := by decide +kernel
theorem dX2_init_48 : decode cX2_init 48 = .ok (.iand, 1) := by decide +kernel
theorem dX2_init_49 : decode cX2_init 49 = .ok (.invokestatic 29, 3) := by decide +kernel
theorem dX2_init_52 : decode cX2_init 52 = .ok (.istore 5, 2) := by decide +kernel
theorem dX2_init_54 : decode cX2_init 54 = .ok (.iload 5, 2) := by decide +kernel
theorem dX2_init_56 : decode cX2_init 56 = .ok (.bipush (-10), 2) := by decide +kernel
theorem dX2_init_58 : decode cX2_init 58 = .ok (.if_icmp .eq 34, 3) := by decide +kernel
theorem dX2_init_61 : decode cX2_init 61 = .ok (.aload_n 0, 1) := by decide +kernel
theorem dX2_init_62 : decode cX2_init 62 = .ok (.getfield 9, 3) := by decide +kernel
theorem dX2_init_65 : decode cX2_init 65 = .ok (.aload_n 0, 1) := by decide +kernel
theorem dX2_init_66 : decode cX2_init 66 = .ok (.getfield 33, 3) := by decide +kernel
theorem dX2_init_69 : decode cX2_init 69 = .ok (.iload 5, 2) := by decide +kernel
theorem dX2_init_71 : decode cX2_init 71 = .ok (.iastore, 1) := by decide +kernel
theorem dX2_init_72 : decode cX2_init 72 = .ok (.aload_n 0, 1) := by decide +kernel
theorem dX2_init_73 : decode cX2_init 73 = .ok (.dup, 1) := by decide +kernel
theorem dX2_init_74 : decode cX2_init 74 = .ok (.getfield 33, 3) := by decide +kernel
theorem dX2_init_77 : decode cX2_init 77 = .ok (.iconst 1, 1) := by decide +kernel
theorem dX2_init_78 : decode cX2_init 78 = .ok (.iadd, 1) := by decide +kernel
theorem dX2_init_79 : decode cX2_init 79 = .ok (.putfield 33, 3) := by decide +kernel
theorem dX2_init_82 : decode cX2_init 82 = .ok (.iload_n 3, 1) := by decide +kernel
theorem dX2_init_83 : decode cX2_init 83 = .ok (.iload 5, 2) := by decide +kernel
theorem dX2_init_85 : decode cX2_init 85 = .ok (.invokestatic 36, 3) := by decide +kernel
theorem dX2_init_88 : decode cX2_init 88 = .ok (.iconst (-1), 1) := by decide +kernel
theorem dX2_init_89 : decode cX2_init 89 = .ok (.ixor, 1) := by decide +kernel
theorem dX2_init_90 : decode cX2_init 90 = .ok (.iand, 1) := by decide +kernel
theorem dX2_init_91 : decode cX2_init 91 = .ok (.istore_n 3, 1) := by decide +kernel
theorem dX2_init_92 : decode cX2_init 92 = .ok (.iinc 4 1, 3) := by decide +kernel
theorem dX2_init_95 : decode cX2_init 95 = .ok (.goto (-68), 3) := by decide +kernel
theorem dX2_init_98 : decode cX2_init 98 = .ok (.return_, 1) := by decide +kernel
theorem dX2_time_0 : decode cX2_time 0 = .ok (.bipush 20, 2) := by decide +kernel
theorem dX2_time_2 : decode cX2_time 2 = .ok (.newarray .int, 2) := by decide +kernel
theorem dX2_time_4 : decode cX2_time 4 = .ok (.astore_n 1, 1) := by decide +kernel
theorem dX2_time_5 : decode cX2_time 5 = .ok (.iconst 0, 1) := by decide +kernel
theorem dX2_time_6 : decode cX2_time 6 = .ok (.istore_n 2, 1) := by decide +kernel
theorem dX2_time_7 : decode cX2_time 7 = .ok (.iconst 0, 1) := by decide +kernel
theorem dX2_time_8 : decode cX2_time 8 = .ok (.istore_n 3, 1) := by decide +kernel
theorem dX2_time_9 : decode cX2_time 9 = .ok (.iload_n 3, 1) := by decide +kernel
theorem dX2_time_10 : decode cX2_time 10 = .ok (.aload_n 0, 1) := by decide +kernel
theorem dX2_time_11 : decode cX2_time 11 = .ok (.getfield 33, 3) := by decide +kernel
theorem dX2_time_14 : decode cX2_time 14 = .ok (.if_icmp .ge 98, 3) := by decide +kernel
theorem dX2_time_17 : decode cX2_time 17 = .ok (.aload_n 0, 1) := by decide +kernel
theorem dX2_time_18 : decode cX2_time 18 = .ok (.getfield 9, 3) := by decide +kernel
theorem dX2_time_21 : decode cX2_time 21 = .ok (.iload_n 3, 1) := by decide +kernel
theorem dX2_time_22 : decode cX2_time 22 = .ok (.iaload, 1) := by decide +kernel
theorem dX2_time_23 : decode cX2_time 23 = .ok (.istore 4, 2) := by decide +kernel
theorem dX2_time_25 : decode cX2_time 25 = .ok (.aload_n 1, 1) := by decide +kernel
theorem dX2_time_26 : decode cX2_time 26 = .ok (.iload 4, 2) := by decide +kernel
theorem dX2_time_28 : decode cX2_time 28 = .ok (.iaload, 1) := by decide +kernel
theorem dX2_time_29 : decode cX2_time 29 = .ok (.aload_n 0, 1) := by decide +kernel
theorem dX2_time_30 : decode cX2_time 30 = .ok (.getfield 15, 3) := by decide +kernel
theorem dX2_time_33 : decode cX2_time 33 = .ok (.getfield 39, 3) := by decide +kernel
theorem dX2_time_36 : decode cX2_time 36 = .ok (.iload 4, 2) := by decide +kernel
theorem dX2_time_38 : decode cX2_time 38 = .ok (.iaload, 1) := by decide +kernel
theorem dX2_time_39 : decode cX2_time 39 = .ok (.iadd, 1) := by decide +kernel
theorem dX2_time_40 : decode cX2_time 40 = .ok (.istore 5, 2) := by decide +kernel
theorem dX2_time_42 : decode cX2_time 42 = .ok (.iload_n 2, 1) := by decide +kernel
theorem dX2_time_43 : decode cX2_time 43 = .ok (.iload 5, 2) := by decide +kernel
theorem dX2_time_45 : decode cX2_time 45 = .ok (.invokestatic 42, 3) := by decide +kernel
theorem dX2_time_48 : decode cX2_time 48 = .ok (.istore_n 2, 1) := by decide +kernel
theorem dX2_time_49 : decode cX2_time 49 = .ok (.aload_n 0, 1) := by decide +kernel
theorem dX2_time_50 : decode cX2_time 50 = .ok (.getfield 15, 3) := by decide +kernel
theorem dX2_time_53 : decode cX2_time 53 = .ok (.iload 4, 2) := by decide +kernel
theorem dX2_time_55 : decode cX2_time 55 = .ok (.bipush 7, 2) := by decide +kernel
theorem dX2_time_57 : decode cX2_time 57 = .ok (.invokevirtual 47, 3) := by decide +kernel
theorem dX2_time_60 : decode cX2_time 60 = .ok (.aload_n 0, 1) := by decide +kernel
theorem dX2_time_61 : decode cX2_time 61 = .ok (.getfield 19, 3) := by decide +kernel
theorem dX2_time_64 : decode cX2_time 64 = .ok (.iand, 1) := by decide +kernel
theorem dX2_time_65 : decode cX2_time 65 = .ok (.istore 6, 2) := by decide +kernel
theorem dX2_time_67 : decode cX2_time 67 = .ok (.iconst 0, 1) := by decide +kernel
theorem dX2_time_68 : decode cX2_time 68 = .ok (.istore 7, 2) := by decide +kernel
theorem dX2_time_70 : decode cX2_time 70 = .ok (.iload 7, 2) := by decide +kernel
theorem dX2_time_72 : decode cX2_time 72 = .ok (.bipush 20, 2) := by decide +kernel
theorem dX2_time_74 : decode cX2_time 74 = .ok (.if_icmp .ge 32, 3) := by decide +kernel
theorem dX2_time_77 : decode cX2_time 77 = .ok (.iload 6, 2) := by decide +kernel
theorem dX2_time_79 : decode cX2_time 79 = .ok (.iload 7, 2) := by decide +kernel
theorem dX2_time_81 : decode cX2_time 81 = .ok (.invokestatic 50, 3) := by decide +kernel
theorem dX2_time_84 : decode cX2_time 84 = .ok (.ifCond .eq 16, 3) := by decide +kernel
theorem dX2_time_87 : decode cX2_time 87 = .ok (.aload_n 1, 1) := by decide +kernel
theorem dX2_time_88 : decode cX2_time 88 = .ok (.iload 7, 2) := by decide +kernel
theorem dX2_time_90 : decode cX2_time 90 = .ok (.aload_n 1, 1) := by decide +kernel
theorem dX2_time_91 : decode cX2_time 91 = .ok (.iload 7, 2) := by decide +kernel
theorem dX2_time_93 : decode cX2_time 93 = .ok (.iaload, 1) := by decide +kernel
theorem dX2_time_94 : decode cX2_time 94 = .ok (.iload 5, 2) := by decide +kernel
theorem dX2_time_96 : decode cX2_time 96 = .ok (.invokestatic 42, 3) := by decide +kernel
theorem dX2_time_99 : decode cX2_time 99 = .ok (.iastore, 1) := by decide +kernel
theorem dX2_time_100 : decode cX2_time 100 = .ok (.iinc 7 1, 3) := by decide +kernel
theorem dX2_time_103 : decode cX2_time 103 = .ok (.goto (-33), 3) := by decide +kernel
theorem dX2_time_106 : decode cX2_time 106 = .ok (.iinc 3 1, 3) := by decide +kernel
theorem dX2_time_109 : decode cX2_time 109 = .ok (.goto (-100), 3) := by decide +kernel
theorem dX2_time_112 : decode cX2_time 112 = .ok (.iload_n 2, 1) := by decide +kernel
theorem dX2_time_113 : decode cX2_time 113 = .ok (.ireturn, 1) := by decide +kernel
theorem dX3_init_0 : decode cX3_init 0 = .ok (.aload_n 0, 1) := by decide +kernel
theorem dX3_init_1 : decode cX3_init 1 = .ok (.invokespecial 3, 3) := by decide +kernel
theorem dX3_init_4 : decode cX3_init 4 = .ok (.aload_n 0, 1) := by decide +kernel
theorem dX3_init_5 : decode cX3_init 5 = .ok (.bipush 20, 2) := by decide +kernel
theorem dX3_init_7 : decode cX3_init 7 = .ok (.newarray .int, 2) := by decide +kernel
theorem dX3_init_9 : decode cX3_init 9 = .ok (.putfield 9, 3) := by decide +kernel
theorem dX3_init_12 : decode cX3_init 12 = .ok (.aload_n 0, 1) := by decide +kernel
theorem dX3_init_13 : decode cX3_init 13 = .ok (.bipush 10, 2) := by decide +kernel
theorem dX3_init_15 : decode cX3_init 15 = .ok (.newarray .int, 2) := by decide +kernel
theorem dX3_init_17 : decode cX3_init 17 = .ok (.putfield 15, 3) := by decide +kernel
theorem dX3_init_20 : decode cX3_init 20 = .ok (.iload_n 3, 1) := by decide +kernel
theorem dX3_init_21 : decode cX3_init 21 = .ok (.newarray .int, 2) := by decide +kernel
theorem dX3_init_23 : decode cX3_init 23 = .ok (.astore 4, 2) := by decide +kernel
theorem dX3_init_25 : decode cX3_init 25 = .ok (.iload_n 2, 1) := by decide +kernel
theorem dX3_init_26 : decode cX3_init 26 = .ok (.istore 5, 2) := by decide +kernel
theorem dX3_init_28 : decode cX3_init 28 = .ok (.iconst 0, 1) := by decide +kernel
theorem dX3_init_29 : decode cX3_init 29 = .ok (.istore 6, 2) := by decide +kernel
theorem dX3_init_31 : decode cX3_init 31 = .ok (.iload 6, 2) := by decide +kernel
theorem dX3_init_33 : decode cX3_init 33 = .ok (.bipush 10, 2) := by decide +kernel
theorem dX3_init_35 : decode cX3_init 35 = .ok (.if_icmp .ge 98, 3) := by decide +kernel
theorem dX3_init_38 : decode cX3_init 38 = .ok (.iload 5, 2) := by decide +kernel
theorem dX3_init_40 : decode cX3_init 40 = .ok (.ifCond .eq 93, 3) := by decide +kernel
theorem dX3_init_43 : decode cX3_init 43 = .ok (.aload_n 1, 1) := by decide +kernel
theorem dX3_init_44 : decode cX3_init 44 = .ok (.iload 5, 2) := by decide +kernel
theorem dX3_init_46 : decode cX3_init 46 = .ok (.invokevirtual 18, 3) := by decide +kernel
theorem dX3_init_49 : decode cX3_init 49 = .ok (.istore 7, 2) := by decide +kernel
theorem dX3_init_51 : decode cX3_init 51 = .ok (.aload_n 1, 1) := by decide +kernel
theorem dX3_init_52 : decode cX3_init 52 = .ok (.iload 7, 2) := by decide +kernel
theorem dX3_init_54 : decode cX3_init 54 = .ok (.invokevirtual 24, 3) := by decide +kernel
theorem dX3_init_57 : decode cX3_init 57 = .ok (.ifCond .eq 70, 3) := by decide +kernel
theorem dX3_init_60 : decode cX3_init 60 = .ok (.aload 4, 2) := by decide +kernel
theorem dX3_init_62 : decode cX3_init 62 = .ok (.invokestatic 28, 3) := by decide +kernel
theorem dX3_init_65 : decode cX3_init 65 = .ok (.istore 8, 2) := by decide +kernel
theorem dX3_init_67 : decode cX3_init 67 = .ok (.aload_n 0, 1) := by decide +kernel
theorem dX3_init_68 : decode cX3_init 68 = .ok (.getfield 9, 3) := by decide +kernel
theorem dX3_init_71 : decode cX3_init 71 = .ok (.iload 7, 2) := by decide +kernel
theorem dX3_init_73 : decode cX3_init 73 = .ok (.iload 8, 2) := by decide +kernel
theorem dX3_init_75 : decode cX3_init 75 = .ok (.iastore, 1) := by decide +kernel
theorem dX3_init_76 : decode cX3_init 76 = .ok (.aload 4, 2) := by decide +kernel
theorem dX3_init_78 : decode cX3_init 78 = .ok (.iload 8, 2) := by decide +kernel
theorem dX3_init_80 : decode cX3_init 80 = .ok (.dup2, 1) := by decide +kernel
theorem dX3_init_81 : decode cX3_init 81 = .ok (.iaload, 1) := by decide +kernel
theorem dX3_init_82 : decode cX3_init 82 = .ok (.aload_n 1, 1) := by decide +kernel
theorem dX3_init_83 : decode cX3_init 83 = .ok (.getfield 32, 3) := by decide +kernel
theorem dX3_init_86 : decode cX3_init 86 = .ok (.iload 7, 2) := by decide +kernel
theorem dX3_init_88 : decode cX3_init 88 = .ok (.iaload, 1) := by decide +kernel
theorem dX3_init_89 : decode cX3_init 89 = .ok (.iadd, 1) := by decide +kernel
theorem dX3_init_90 : decode cX3_init 90 = .ok (.iastore, 1) := by decide +kernel
theorem dX3_init_91 : decode cX3_init 91 = .ok (.aload_n 0, 1) := by decide +kernel
theorem dX3_init_92 : decode cX3_init 92 = .ok (.getfield 15, 3) := by decide +kernel
theorem dX3_init_95 : decode cX3_init 95 = .ok (.iload 6, 2) := by decide +kernel
theorem dX3_init_97 : decode cX3_init 97 = .ok (.aload_n 1, 1) := by decide +kernel
theorem dX3_init_98 : decode cX3_init 98 = .ok (.getfield 32, 3) := by decide +kernel
theorem dX3_init_101 : decode cX3_init 101 = .ok (.iload 7, 2) := by decide +kernel
theorem dX3_init_103 : decode cX3_init 103 = .ok (.iaload, 1) := by decide +kernel
theorem dX3_init_104 : decode cX3_init 104 = .ok (.iastore, 1) := by decide +kernel
theorem dX3_init_105 : decode cX3_init 105 = .ok (.aload_n 0, 1) := by decide +kernel
theorem dX3_init_106 : decode cX3_init 106 = .ok (.dup, 1) := by decide +kernel
theorem dX3_init_107 : decode cX3_init 107 = .ok (.getfield 35, 3) := by decide +kernel
theorem dX3_init_110 : decode cX3_init 110 = .ok (.iconst 1, 1) := by decide +kernel
theorem dX3_init_111 : decode cX3_init 111 = .ok (.iadd, 1) := by decide +kernel
theorem dX3_init_112 : decode cX3_init 112 = .ok (.putfield 35, 3) := by decide +kernel
theorem dX3_init_115 : decode cX3_init 115 = .ok (.iload 5, 2) := by decide +kernel
theorem dX3_init_117 : decode cX3_init 117 = .ok (.iload 7, 2) := by decide +kernel
theorem dX3_init_119 : decode cX3_init 119 = .ok (.invokestatic 39, 3) := by decide +kernel
theorem dX3_init_122 : decode cX3_init 122 = .ok (.iconst (-1), 1) := by decide +kernel
theorem dX3_init_123 : decode cX3_init 123 = .ok (.ixor, 1) := by decide +kernel
theorem dX3_init_124 : decode cX3_init 124 = .ok (.iand, 1) := by decide +kernel
theorem dX3_init_125 : decode cX3_init 125 = .ok (.istore 5, 2) := by decide +kernel
theorem dX3_init_127 : decode cX3_init 127 = .ok (.iinc 6 1, 3) := by decide +kernel
theorem dX3_init_130 : decode cX3_init 130 = .ok (.goto (-99), 3) := by decide +kernel
theorem dX3_init_133 : decode cX3_init 133 = .ok (.aload_n 0, 1) := by decide +kernel
theorem dX3_init_134 : decode cX3_init 134 = .ok (.aload 4, 2) := by decide +kernel
theorem dX3_init_136 : decode cX3_init 136 = .ok (.putfield 42, 3) := by decide +kernel
theorem dX3_init_139 : decode cX3_init 139 = .ok (.return_, 1) := by decide +kernel
theorem dX3_leastGreatestLoad_0 : decode cX3_leastGreatestLoad 0 = .ok (.aload_n 0, 1) := by decide +kernel
theorem dX3_leastGreatestLoad_1 : decode cX3_leastGreatestLoad 1 = .ok (.getfield 15, 3) := by decide +kernel
theorem dX3_leastGreatestLoad_4 : decode cX3_leastGreatestLoad 4 = .ok (.aload_n 0, 1) := by decide +kernel
theorem dX3_leastGreatestLoad_5 : decode cX3_leastGreatestLoad 5 = .ok (.getfield 35, 3) := by decide +kernel
theorem dX3_leastGreatestLoad_8 : decode cX3_leastGreatestLoad 8 = .ok (.iconst 0, 1) := by decide +kernel
theorem dX3_leastGreatestLoad_9 : decode cX3_leastGreatestLoad 9 = .ok (.aload_n 0, 1) := by decide +kernel
theorem dX3_leastGreatestLoad_10 : decode cX3_leastGreatestLoad 10 = .ok (.getfield 42, 3) := by decide +kernel
theorem dX3_leastGreatestLoad_13 : decode cX3_leastGreatestLoad 13 = .ok (.arraylength, 1) := by decide +kernel
theorem dX3_leastGreatestLoad_14 : decode cX3_leastGreatestLoad 14 = .ok (.newarray .int, 2) := by decide +kernel
theorem dX3_leastGreatestLoad_16 : decode cX3_leastGreatestLoad 16 = .ok (.aload_n 0, 1) := by decide +kernel
theorem dX3_leastGreatestLoad_17 : decode cX3_leastGreatestLoad 17 = .ok (.getfield 42, 3) := by decide +kernel
theorem dX3_leastGreatestLoad_20 : decode cX3_leastGreatestLoad 20 = .ok (.invokestatic 45, 3) := by decide +kernel
theorem dX3_leastGreatestLoad_23 : decode cX3_leastGreatestLoad 23 = .ok (.invokestatic 48, 3) := by decide +kernel
theorem dX3_leastGreatestLoad_26 : decode cX3_leastGreatestLoad 26 = .ok (.ireturn, 1) := by decide +kernel
theorem dX3_improve_0 : decode cX3_improve 0 = .ok (.iload_n 2, 1) := by decide +kernel
theorem dX3_improve_1 : decode cX3_improve 1 = .ok (.iload_n 1, 1) := by decide +kernel
theorem dX3_improve_2 : decode cX3_improve 2 = .ok (.if_icmp .ge 9, 3) := by decide +kernel
theorem dX3_improve_5 : decode cX3_improve 5 = .ok (.iload_n 2, 1) := by decide +kernel
theorem dX3_improve_6 : decode cX3_improve 6 = .ok (.bipush 10, 2) := by decide +kernel
theorem dX3_improve_8 : decode cX3_improve 8 = .ok (.if_icmp .lt 13, 3) := by decide +kernel
theorem dX3_improve_11 : decode cX3_improve 11 = .ok (.aload_n 3, 1) := by decide +kernel
theorem dX3_improve_12 : decode cX3_improve 12 = .ok (.invokestatic 45, 3) := by decide +kernel
theorem dX3_improve_15 : decode cX3_improve 15 = .ok (.iload 4, 2) := by decide +kernel
theorem dX3_improve_17 : decode cX3_improve 17 = .ok (.invokestatic 52, 3) := by decide +kernel
theorem dX3_improve_20 : decode cX3_improve 20 = .ok (.ireturn, 1) := by decide +kernel
theorem dX3_improve_21 : decode cX3_improve 21 = .ok (.iload 4, 2) := by decide +kernel
theorem dX3_improve_23 : decode cX3_improve 23 = .ok (.istore 5, 2) := by decide +kernel
theorem dX3_improve_25 : decode cX3_improve 25 = .ok (.iconst 0, 1) := by decide +kernel
theorem dX3_improve_26 : decode cX3_improve 26 = .ok (.istore 6, 2) := by decide +kernel
theorem dX3_improve_28 : decode cX3_improve 28 = .ok (.iload 6, 2) := by decide +kernel
theorem dX3_improve_30 : decode cX3_improve 30 = .ok (.aload_n 3, 1) := by decide +kernel
theorem dX3_improve_31 : decode cX3_improve 31 = .ok (.arraylength, 1) := by decide +kernel
theorem dX3_improve_32 : decode cX3_improve 32 = .ok (.if_icmp .ge 64, 3) := by decide +kernel
theorem dX3_improve_35 : decode cX3_improve 35 = .ok (.aload_n 3, 1) := by decide +kernel
theorem dX3_improve_36 : decode cX3_improve 36 = .ok (.iload 6, 2) := by decide +kernel
theorem dX3_improve_38 : decode cX3_improve 38 = .ok (.iaload, 1) := by decide +kernel
theorem dX3_improve_39 : decode cX3_improve 39 = .ok (.istore 7, 2) := by decide +kernel
theorem dX3_improve_41 : decode cX3_improve 41 = .ok (.iload 7, 2) := by decide +kernel
theorem dX3_improve_43 : decode cX3_improve 43 = .ok (.aload_n 0, 1) := by decide +kernel
theorem dX3_improve_44 : decode cX3_improve 44 = .ok (.iload_n 2, 1) := by decide +kernel
theorem dX3_improve_45 : decode cX3_improve 45 = .ok (.iaload, 1) := by decide +kernel
theorem dX3_improve_46 : decode cX3_improve 46 = .ok (.iadd, 1) := by decide +kernel
theorem dX3_improve_47 : decode cX3_improve 47 = .ok (.iload 5, 2) := by decide +kernel
theorem dX3_improve_49 : decode cX3_improve 49 = .ok (.if_icmp .ge 41, 3) := by decide +kernel
theorem dX3_improve_52 : decode cX3_improve 52 = .ok (.aload_n 3, 1) := by decide +kernel
theorem dX3_improve_53 : decode cX3_improve 53 = .ok (.iload 6, 2) := by decide +kernel
theorem dX3_improve_55 : decode cX3_improve 55 = .ok (.invokestatic 58, 3) := by decide +kernel
theorem dX3_improve_58 : decode cX3_improve 58 = .ok (.ifCond .ne 32, 3) := by decide +kernel
theorem dX3_improve_61 : decode cX3_improve 61 = .ok (.aload_n 3, 1) := by decide +kernel
theorem dX3_improve_62 : decode cX3_improve 62 = .ok (.iload 6, 2) := by decide +kernel
theorem dX3_improve_64 : decode cX3_improve 64 = .ok (.iload 7, 2) := by decide +kernel
theorem dX3_improve_66 : decode cX3_improve 66 = .ok (.aload_n 0, 1) := by decide +kernel
theorem dX3_improve_67 : decode cX3_improve 67 = .ok (.iload_n 2, 1) := by decide +kernel
theorem dX3_improve_68 : decode cX3_improve 68 = .ok (.iaload, 1) := by decide +kernel
theorem dX3_improve_69 : decode cX3_improve 69 = .ok (.iadd, 1) := by decide +kernel
theorem dX3_improve_70 : decode cX3_improve 70 = .ok (.iastore, 1) := by decide +kernel
theorem dX3_improve_71 : decode cX3_improve 71 = .ok (.aload_n 0, 1) := by decide +kernel
theorem dX3_improve_72 : decode cX3_improve 72 = .ok (.iload_n 1, 1) := by decide +kernel
theorem dX3_improve_73 : decode cX3_improve 73 = .ok (.iload_n 2, 1) := by decide +kernel
theorem dX3_improve_74 : decode cX3_improve 74 = .ok (.iconst 1, 1) := by decide +kernel
theorem dX3_improve_75 : decode cX3_improve 75 = .ok (.iadd, 1) := by decide +kernel
theorem dX3_improve_76 : decode cX3_improve 76 = .ok (.aload_n 3, 1) := by decide +kernel
theorem dX3_improve_77 : decode cX3_improve 77 = .ok (.iload 5, 2) := by decide +kernel
theorem dX3_improve_79 : decode cX3_improve 79 = .ok (.invokestatic 48, 3) := by decide +kernel
theorem dX3_improve_82 : decode cX3_improve 82 = .ok (.istore 5, 2) := by decide +kernel
theorem dX3_improve_84 : decode cX3_improve 84 = .ok (.aload_n 3, 1) := by decide +kernel
theorem dX3_improve_85 : decode cX3_improve 85 = .ok (.iload 6, 2) := by decide +kernel
theorem dX3_improve_87 : decode cX3_improve 87 = .ok (.iload 7, 2) := by decide +kernel
theorem dX3_improve_89 : decode cX3_improve 89 = .ok (.iastore, 1) := by decide +kernel
theorem dX3_improve_90 : decode cX3_improve 90 = .ok (.iinc 6 1, 3) := by decide +kernel
theorem dX3_improve_93 : decode cX3_improve 93 = .ok (.goto (-65), 3) := by decide +kernel
theorem dX3_improve_96 : decode cX3_improve 96 = .ok (.iload 5, 2) := by decide +kernel
theorem dX3_improve_98 : decode cX3_improve 98 = .ok (.ireturn, 1) := by decide +kernel
theorem dX3_standsBefore_0 : decode cX3_standsBefore 0 = .ok (.iconst 0, 1) := by decide +kernel
theorem dX3_standsBefore_1 : decode cX3_standsBefore 1 = .ok (.istore_n 2, 1) := by decide +kernel
theorem dX3_standsBefore_2 : decode cX3_standsBefore 2 = .ok (.iload_n 2, 1) := by decide +kernel
theorem dX3_standsBefore_3 : decode cX3_standsBefore 3 = .ok (.iload_n 1, 1) := by decide +kernel
theorem dX3_standsBefore_4 : decode cX3_standsBefore 4 = .ok (.if_icmp .ge 20, 3) := by decide +kernel
theorem dX3_standsBefore_7 : decode cX3_standsBefore 7 = .ok (.aload_n 0, 1) := by decide +kernel
theorem dX3_standsBefore_8 : decode cX3_standsBefore 8 = .ok (.iload_n 2, 1) := by decide +kernel
theorem dX3_standsBefore_9 : decode cX3_standsBefore 9 = .ok (.iaload, 1) := by decide +kernel
theorem dX3_standsBefore_10 : decode cX3_standsBefore 10 = .ok (.aload_n 0, 1) := by decide +kernel
theorem dX3_standsBefore_11 : decode cX3_standsBefore 11 = .ok (.iload_n 1, 1) := by decide +kernel
theorem dX3_standsBefore_12 : decode cX3_standsBefore 12 = .ok (.iaload, 1) := by decide +kernel
theorem dX3_standsBefore_13 : decode cX3_standsBefore 13 = .ok (.if_icmp .ne 5, 3) := by decide +kernel
theorem dX3_standsBefore_16 : decode cX3_standsBefore 16 = .ok (.iconst 1, 1) := by decide +kernel
theorem dX3_standsBefore_17 : decode cX3_standsBefore 17 = .ok (.ireturn, 1) := by decide +kernel
theorem dX3_standsBefore_18 : decode cX3_standsBefore 18 = .ok (.iinc 2 1, 3) := by decide +kernel
theorem dX3_standsBefore_21 : decode cX3_standsBefore 21 = .ok (.goto (-19), 3) := by decide +kernel
theorem dX3_standsBefore_24 : decode cX3_standsBefore 24 = .ok (.iconst 0, 1) := by decide +kernel
theorem dX3_standsBefore_25 : decode cX3_standsBefore 25 = .ok (.ireturn, 1) := by decide +kernel
theorem dX3_leastLoaded_0 : decode cX3_leastLoaded 0 = .ok (.iconst 0, 1) := by decide +kernel
theorem dX3_leastLoaded_1 : decode cX3_leastLoaded 1 = .ok (.istore_n 1, 1) := by decide +kernel
theorem dX3_leastLoaded_2 : decode cX3_leastLoaded 2 = .ok (.iconst 1, 1) := by decide +kernel
theorem dX3_leastLoaded_3 : decode cX3_leastLoaded 3 = .ok (.istore_n 2, 1) := by decide +kernel
theorem dX3_leastLoaded_4 : decode cX3_leastLoaded 4 = .ok (.iload_n 2, 1) := by decide +kernel
theorem dX3_leastLoaded_5 : decode cX3_leastLoaded 5 = .ok (.aload_n 0, 1) := by decide +kernel
theorem dX3_leastLoaded_6 : decode cX3_leastLoaded 6 = .ok (.arraylength, 1) := by decide +kernel
theorem dX3_leastLoaded_7 : decode cX3_leastLoaded 7 = .ok (.if_icmp .ge 20, 3) := by decide +kernel
theorem dX3_leastLoaded_10 : decode cX3_leastLoaded 10 = .ok (.aload_n 0, 1) := by decide +kernel
theorem dX3_leastLoaded_11 : decode cX3_leastLoaded 11 = .ok (.iload_n 2, 1) := by decide +kernel
theorem dX3_leastLoaded_12 : decode cX3_leastLoaded 12 = .ok (.iaload, 1) := by decide +kernel
theorem dX3_leastLoaded_13 : decode cX3_leastLoaded 13 = .ok (.aload_n 0, 1) := by decide +kernel
theorem dX3_leastLoaded_14 : decode cX3_leastLoaded 14 = .ok (.iload_n 1, 1) := by decide +kernel
theorem dX3_leastLoaded_15 : decode cX3_leastLoaded 15 = .ok (.iaload, 1) := by decide +kernel
theorem dX3_leastLoaded_16 : decode cX3_leastLoaded 16 = .ok (.if_icmp .ge 5, 3) := by decide +kernel
theorem dX3_leastLoaded_19 : decode cX3_leastLoaded 19 = .ok (.iload_n 2, 1) := by decide +kernel
theorem dX3_leastLoaded_20 : decode cX3_leastLoaded 20 = .ok (.istore_n 1, 1) := by decide +kernel
theorem dX3_leastLoaded_21 : decode cX3_leastLoaded 21 = .ok (.iinc 2 1, 3) := by decide +kernel
theorem dX3_leastLoaded_24 : decode cX3_leastLoaded 24 = .ok (.goto (-20), 3) := by decide +kernel
theorem dX3_leastLoaded_27 : decode cX3_leastLoaded 27 = .ok (.iload_n 1, 1) := by decide +kernel
theorem dX3_leastLoaded_28 : decode cX3_leastLoaded 28 = .ok (.ireturn, 1) := by decide +kernel
theorem dX3_greatest_0 : decode cX3_greatest 0 = .ok (.iconst 0, 1) := by decide +kernel
theorem dX3_greatest_1 : decode cX3_greatest 1 = .ok (.istore_n 1, 1) := by decide +kernel
theorem dX3_greatest_2 : decode cX3_greatest 2 = .ok (.iconst 0, 1) := by decide +kernel
theorem dX3_greatest_3 : decode cX3_greatest 3 = .ok (.istore_n 2, 1) := by decide +kernel
theorem dX3_greatest_4 : decode cX3_greatest 4 = .ok (.iload_n 2, 1) := by decide +kernel
theorem dX3_greatest_5 : decode cX3_greatest 5 = .ok (.aload_n 0, 1) := by decide +kernel
theorem dX3_greatest_6 : decode cX3_greatest 6 = .ok (.arraylength, 1) := by decide +kernel
theorem dX3_greatest_7 : decode cX3_greatest 7 = .ok (.if_icmp .ge 17, 3) := by decide +kernel
theorem dX3_greatest_10 : decode cX3_greatest 10 = .ok (.iload_n 1, 1) := by decide +kernel
theorem dX3_greatest_11 : decode cX3_greatest 11 = .ok (.aload_n 0, 1) := by decide +kernel
theorem dX3_greatest_12 : decode cX3_greatest 12 = .ok (.iload_n 2, 1) := by decide +kernel
theorem dX3_greatest_13 : decode cX3_greatest 13 = .ok (.iaload, 1) := by decide +kernel
theorem dX3_greatest_14 : decode cX3_greatest 14 = .ok (.invokestatic 62, 3) := by decide +kernel
theorem dX3_greatest_17 : decode cX3_greatest 17 = .ok (.istore_n 1, 1) := by decide +kernel
theorem dX3_greatest_18 : decode cX3_greatest 18 = .ok (.iinc 2 1, 3) := by decide +kernel
theorem dX3_greatest_21 : decode cX3_greatest 21 = .ok (.goto (-17), 3) := by decide +kernel
theorem dX3_greatest_24 : decode cX3_greatest 24 = .ok (.iload_n 1, 1) := by decide +kernel
theorem dX3_greatest_25 : decode cX3_greatest 25 = .ok (.ireturn, 1) := by decide +kernel
theorem dX4_init_0 : decode cX4_init 0 = .ok (.aload_n 0, 1) := by decide +kernel
theorem dX4_init_1 : decode cX4_init 1 = .ok (.invokespecial 3, 3) := by decide +kernel
theorem dX4_init_4 : decode cX4_init 4 = .ok (.aload_n 0, 1) := by decide +kernel
theorem dX4_init_5 : decode cX4_init 5 = .ok (.new 9, 3) := by decide +kernel
theorem dX4_init_8 : decode cX4_init 8 = .ok (.dup, 1) := by decide +kernel
theorem dX4_init_9 : decode cX4_init 9 = .ok (.invokespecial 11, 3) := by decide +kernel
theorem dX4_init_12 : decode cX4_init 12 = .ok (.putfield 12, 3) := by decide +kernel
theorem dX4_init_15 : decode cX4_init 15 = .ok (.aload_n 0, 1) := by decide +kernel
theorem dX4_init_16 : decode cX4_init 16 = .ok (.new 18, 3) := by decide +kernel
theorem dX4_init_19 : decode cX4_init 19 = .ok (.dup, 1) := by decide +kernel
theorem dX4_init_20 : decode cX4_init 20 = .ok (.invokespecial 20, 3) := by decide +kernel
theorem dX4_init_23 : decode cX4_init 23 = .ok (.putfield 21, 3) := by decide +kernel
theorem dX4_init_26 : decode cX4_init 26 = .ok (.return_, 1) := by decide +kernel
theorem dX4_copyFrom_0 : decode cX4_copyFrom 0 = .ok (.aload_n 0, 1) := by decide +kernel
theorem dX4_copyFrom_1 : decode cX4_copyFrom 1 = .ok (.getfield 12, 3) := by decide +kernel
theorem dX4_copyFrom_4 : decode cX4_copyFrom 4 = .ok (.aload_n 1, 1) := by decide +kernel
theorem dX4_copyFrom_5 : decode cX4_copyFrom 5 = .ok (.getfield 12, 3) := by decide +kernel
theorem dX4_copyFrom_8 : decode cX4_copyFrom 8 = .ok (.invokevirtual 25, 3) := by decide +kernel
theorem dX4_copyFrom_11 : decode cX4_copyFrom 11 = .ok (.aload_n 0, 1) := by decide +kernel
theorem dX4_copyFrom_12 : decode cX4_copyFrom 12 = .ok (.getfield 21, 3) := by decide +kernel
theorem dX4_copyFrom_15 : decode cX4_copyFrom 15 = .ok (.aload_n 1, 1) := by decide +kernel
theorem dX4_copyFrom_16 : decode cX4_copyFrom 16 = .ok (.getfield 21, 3) := by decide +kernel
theorem dX4_copyFrom_19 : decode cX4_copyFrom 19 = .ok (.invokevirtual 29, 3) := by decide +kernel
theorem dX4_copyFrom_22 : decode cX4_copyFrom 22 = .ok (.aload_n 0, 1) := by decide +kernel
theorem dX4_copyFrom_23 : decode cX4_copyFrom 23 = .ok (.aload_n 1, 1) := by decide +kernel
theorem dX4_copyFrom_24 : decode cX4_copyFrom 24 = .ok (.getfield 32, 3) := by decide +kernel
theorem dX4_copyFrom_27 : decode cX4_copyFrom 27 = .ok (.putfield 32, 3) := by decide +kernel
theorem dX4_copyFrom_30 : decode cX4_copyFrom 30 = .ok (.return_, 1) := by decide +kernel
theorem dX4_touchBy_0 : decode cX4_touchBy 0 = .ok (.aload_n 0, 1) := by decide +kernel
theorem dX4_touchBy_1 : decode cX4_touchBy 1 = .ok (.getfield 21, 3) := by decide +kernel
theorem dX4_touchBy_4 : decode cX4_touchBy 4 = .ok (.getfield 36, 3) := by decide +kernel
theorem dX4_touchBy_7 : decode cX4_touchBy 7 = .ok (.iload_n 1, 1) := by decide +kernel
theorem dX4_touchBy_8 : decode cX4_touchBy 8 = .ok (.baload, 1) := by decide +kernel
theorem dX4_touchBy_9 : decode cX4_touchBy 9 = .ok (.ifCond .eq 7, 3) := by decide +kernel
theorem dX4_touchBy_12 : decode cX4_touchBy 12 = .ok (.iconst 0, 1) := by decide +kernel
theorem dX4_touchBy_13 : decode cX4_touchBy 13 = .ok (.goto 4, 3) := by decide +kernel
theorem dX4_touchBy_16 : decode cX4_touchBy 16 = .ok (.iconst 1, 1) := by decide +kernel
theorem dX4_touchBy_17 : decode cX4_touchBy 17 = .ok (.istore_n 2, 1) := by decide +kernel
theorem dX4_touchBy_18 : decode cX4_touchBy 18 = .ok (.aload_n 0, 1) := by decide +kernel
theorem dX4_touchBy_19 : decode cX4_touchBy 19 = .ok (.dup, 1) := by decide +kernel
theorem dX4_touchBy_20 : decode cX4_touchBy 20 = .ok (.getfield 32, 3) := by decide +kernel
theorem dX4_touchBy_23 : decode cX4_touchBy 23 = .ok (.aload_n 0, 1) := by decide +kernel
theorem dX4_touchBy_24 : decode cX4_touchBy 24 = .ok (.getfield 21, 3) := by decide +kernel
theorem dX4_touchBy_27 : decode cX4_touchBy 27 = .ok (.getfield 40, 3) := by decide +kernel
theorem dX4_touchBy_30 : decode cX4_touchBy 30 = .ok (.iload_n 1, 1) := by decide +kernel
theorem dX4_touchBy_31 : decode cX4_touchBy 31 = .ok (.iaload, 1) := by decide +kernel
theorem dX4_touchBy_32 : decode cX4_touchBy 32 = .ok (.invokestatic 44, 3) := by decide +kernel
theorem dX4_touchBy_35 : decode cX4_touchBy 35 = .ok (.iload_n 2, 1) := by decide +kernel
theorem dX4_touchBy_36 : decode cX4_touchBy 36 = .ok (.invokestatic 48, 3) := by decide +kernel
theorem dX4_touchBy_39 : decode cX4_touchBy 39 = .ok (.lor, 1) := by decide +kernel
theorem dX4_touchBy_40 : decode cX4_touchBy 40 = .ok (.putfield 32, 3) := by decide +kernel
theorem dX4_touchBy_43 : decode cX4_touchBy 43 = .ok (.return_, 1) := by decide +kernel
theorem dX4_rebuilt_0 : decode cX4_rebuilt 0 = .ok (.aload_n 0, 1) := by decide +kernel
theorem dX4_rebuilt_1 : decode cX4_rebuilt 1 = .ok (.getfield 12, 3) := by decide +kernel
theorem dX4_rebuilt_4 : decode cX4_rebuilt 4 = .ok (.aload_n 0, 1) := by decide +kernel
theorem dX4_rebuilt_5 : decode cX4_rebuilt 5 = .ok (.getfield 32, 3) := by decide +kernel
theorem dX4_rebuilt_8 : decode cX4_rebuilt 8 = .ok (.invokevirtual 52, 3) := by decide +kernel
theorem dX4_rebuilt_11 : decode cX4_rebuilt 11 = .ok (.iconst 1, 1) := by decide +kernel
theorem dX4_rebuilt_12 : decode cX4_rebuilt 12 = .ok (.invokestatic 56, 3) := by decide +kernel
theorem dX4_rebuilt_15 : decode cX4_rebuilt 15 = .ok (.ireturn, 1) := by decide +kernel
theorem dX4_testsToRun_0 : decode cX4_testsToRun 0 = .ok (.aload_n 0, 1) := by decide +kernel
theorem dX4_testsToRun_1 : decode cX4_testsToRun 1 = .ok (.getfield 12, 3) := by decide +kernel
theorem dX4_testsToRun_4 : decode cX4_testsToRun 4 = .ok (.aload_n 0, 1) := by decide +kernel
theorem dX4_testsToRun_5 : decode cX4_testsToRun 5 = .ok (.invokevirtual 60, 3) := by decide +kernel
theorem dX4_testsToRun_8 : decode cX4_testsToRun 8 = .ok (.bipush 11, 2) := by decide +kernel
theorem dX4_testsToRun_10 : decode cX4_testsToRun 10 = .ok (.invokevirtual 64, 3) := by decide +kernel
theorem dX4_testsToRun_13 : decode cX4_testsToRun 13 = .ok (.aload_n 0, 1) := by decide +kernel
theorem dX4_testsToRun_14 : decode cX4_testsToRun 14 = .ok (.getfield 12, 3) := by decide +kernel
theorem dX4_testsToRun_17 : decode cX4_testsToRun 17 = .ok (.getfield 68, 3) := by decide +kernel
theorem dX4_testsToRun_20 : decode cX4_testsToRun 20 = .ok (.iconst 2, 1) := by decide +kernel
theorem dX4_testsToRun_21 : decode cX4_testsToRun 21 = .ok (.iaload, 1) := by decide +kernel
theorem dX4_testsToRun_22 : decode cX4_testsToRun 22 = .ok (.iand, 1) := by decide +kernel
theorem dX4_testsToRun_23 : decode cX4_testsToRun 23 = .ok (.ireturn, 1) := by decide +kernel
end
section
theorem dX5_init_0 : decode cX5_init 0 = .ok (.aload_n 0, 1) := by decide +kernel
theorem dX5_init_1 : decode cX5_init 1 = .ok (.invokespecial 3, 3) := by decide +kernel
theorem dX5_init_4 : decode cX5_init 4 = .ok (.aload_n 0, 1) := by decide +kernel
theorem dX5_init_5 : decode cX5_init 5 = .ok (.bipush 20, 2) := by decide +kernel
theorem dX5_init_7 : decode cX5_init 7 = .ok (.newarray .int, 2) := by decide +kernel
theorem dX5_init_9 : decode cX5_init 9 = .ok (.putfield 9, 3) := by decide +kernel
theorem dX5_init_12 : decode cX5_init 12 = .ok (.aload_n 0, 1) := by decide +kernel
theorem dX5_init_13 : decode cX5_init 13 = .ok (.iconst 3, 1) := by decide +kernel
theorem dX5_init_14 : decode cX5_init 14 = .ok (.newarray .int, 2) := by decide +kernel
theorem dX5_init_16 : decode cX5_init 16 = .ok (.putfield 15, 3) := by decide +kernel
theorem dX5_init_19 : decode cX5_init 19 = .ok (.aload_n 0, 1) := by decide +kernel
theorem dX5_init_20 : decode cX5_init 20 = .ok (.iconst 4, 1) := by decide +kernel
theorem dX5_init_21 : decode cX5_init 21 = .ok (.bipush 20, 2) := by decide +kernel
theorem dX5_init_23 : decode cX5_init 23 = .ok (.multianewarray 18 2, 4) := by decide +kernel
theorem dX5_init_27 : decode cX5_init 27 = .ok (.putfield 20, 3) := by decide +kernel
theorem dX5_init_30 : decode cX5_init 30 = .ok (.return_, 1) := by decide +kernel
theorem dX5_copyFrom_0 : decode cX5_copyFrom 0 = .ok (.aload_n 0, 1) := by decide +kernel
theorem dX5_copyFrom_1 : decode cX5_copyFrom 1 = .ok (.aload_n 1, 1) := by decide +kernel
theorem dX5_copyFrom_2 : decode cX5_copyFrom 2 = .ok (.getfield 23, 3) := by decide +kernel
theorem dX5_copyFrom_5 : decode cX5_copyFrom 5 = .ok (.putfield 23, 3) := by decide +kernel
theorem dX5_copyFrom_8 : decode cX5_copyFrom 8 = .ok (.aload_n 0, 1) := by decide +kernel
theorem dX5_copyFrom_9 : decode cX5_copyFrom 9 = .ok (.aload_n 1, 1) := by decide +kernel
theorem dX5_copyFrom_10 : decode cX5_copyFrom 10 = .ok (.getfield 27, 3) := by decide +kernel
theorem dX5_copyFrom_13 : decode cX5_copyFrom 13 = .ok (.putfield 27, 3) := by decide +kernel
theorem dX5_copyFrom_16 : decode cX5_copyFrom 16 = .ok (.aload_n 1, 1) := by decide +kernel
theorem dX5_copyFrom_17 : decode cX5_copyFrom 17 = .ok (.getfield 9, 3) := by decide +kernel
theorem dX5_copyFrom_20 : decode cX5_copyFrom 20 = .ok (.iconst 0, 1) := by decide +kernel
theorem dX5_copyFrom_21 : decode cX5_copyFrom 21 = .ok (.aload_n 0, 1) := by decide +kernel
theorem dX5_copyFrom_22 : decode cX5_copyFrom 22 = .ok (.getfield 9, 3) := by decide +kernel
theorem dX5_copyFrom_25 : decode cX5_copyFrom 25 = .ok (.iconst 0, 1) := by decide +kernel
theorem dX5_copyFrom_26 : decode cX5_copyFrom 26 = .ok (.bipush 20, 2) := by decide +kernel
theorem dX5_copyFrom_28 : decode cX5_copyFrom 28 = .ok (.invokestatic 30, 3) := by decide +kernel
theorem dX5_copyFrom_31 : decode cX5_copyFrom 31 = .ok (.aload_n 1, 1) := by decide +kernel
theorem dX5_copyFrom_32 : decode cX5_copyFrom 32 = .ok (.getfield 15, 3) := by decide +kernel
theorem dX5_copyFrom_35 : decode cX5_copyFrom 35 = .ok (.iconst 0, 1) := by decide +kernel
theorem dX5_copyFrom_36 : decode cX5_copyFrom 36 = .ok (.aload_n 0, 1) := by decide +kernel
theorem dX5_copyFrom_37 : decode cX5_copyFrom 37 = .ok (.getfield 15, 3) := by decide +kernel
theorem dX5_copyFrom_40 : decode cX5_copyFrom 40 = .ok (.iconst 0, 1) := by decide +kernel
theorem dX5_copyFrom_41 : decode cX5_copyFrom 41 = .ok (.iconst 3, 1) := by decide +kernel
theorem dX5_copyFrom_42 : decode cX5_copyFrom 42 = .ok (.invokestatic 30, 3) := by decide +kernel
theorem dX5_copyFrom_45 : decode cX5_copyFrom 45 = .ok (.iconst 0, 1) := by decide +kernel
theorem dX5_copyFrom_46 : decode cX5_copyFrom 46 = .ok (.istore_n 2, 1) := by decide +kernel
theorem dX5_copyFrom_47 : decode cX5_copyFrom 47 = .ok (.iload_n 2, 1) := by decide +kernel
theorem dX5_copyFrom_48 : decode cX5_copyFrom 48 = .ok (.iconst 4, 1) := by decide +kernel
theorem dX5_copyFrom_49 : decode cX5_copyFrom 49 = .ok (.if_icmp .ge 28, 3) := by decide +kernel
theorem dX5_copyFrom_52 : decode cX5_copyFrom 52 = .ok (.aload_n 1, 1) := by decide +kernel
theorem dX5_copyFrom_53 : decode cX5_copyFrom 53 = .ok (.getfield 20, 3) := by decide +kernel
theorem dX5_copyFrom_56 : decode cX5_copyFrom 56 = .ok (.iload_n 2, 1) := by decide +kernel
theorem dX5_copyFrom_57 : decode cX5_copyFrom 57 = .ok (.aaload, 1) := by decide +kernel
theorem dX5_copyFrom_58 : decode cX5_copyFrom 58 = .ok (.iconst 0, 1) := by decide +kernel
theorem dX5_copyFrom_59 : decode cX5_copyFrom 59 = .ok (.aload_n 0, 1) := by decide +kernel
theorem dX5_copyFrom_60 : decode cX5_copyFrom 60 = .ok (.getfield 20, 3) := by decide +kernel
theorem dX5_copyFrom_63 : decode cX5_copyFrom 63 = .ok (.iload_n 2, 1) := by decide +kernel
theorem dX5_copyFrom_64 : decode cX5_copyFrom 64 = .ok (.aaload, 1) := by decide +kernel
theorem dX5_copyFrom_65 : decode cX5_copyFrom 65 = .ok (.iconst 0, 1) := by decide +kernel
theorem dX5_copyFrom_66 : decode cX5_copyFrom 66 = .ok (.bipush 20, 2) := by decide +kernel
theorem dX5_copyFrom_68 : decode cX5_copyFrom 68 = .ok (.invokestatic 30, 3) := by decide +kernel
theorem dX5_copyFrom_71 : decode cX5_copyFrom 71 = .ok (.iinc 2 1, 3) := by decide +kernel
theorem dX5_copyFrom_74 : decode cX5_copyFrom 74 = .ok (.goto (-27), 3) := by decide +kernel
theorem dX5_copyFrom_77 : decode cX5_copyFrom 77 = .ok (.return_, 1) := by decide +kernel
theorem dX5_has_0 : decode cX5_has 0 = .ok (.iload_n 1, 1) := by decide +kernel
theorem dX5_has_1 : decode cX5_has 1 = .ok (.aload_n 0, 1) := by decide +kernel
theorem dX5_has_2 : decode cX5_has 2 = .ok (.getfield 23, 3) := by decide +kernel
theorem dX5_has_5 : decode cX5_has 5 = .ok (.invokestatic 36, 3) := by decide +kernel
theorem dX5_has_8 : decode cX5_has 8 = .ok (.ireturn, 1) := by decide +kernel
theorem dX5_testCount_0 : decode cX5_testCount 0 = .ok (.aload_n 0, 1) := by decide +kernel
theorem dX5_testCount_1 : decode cX5_testCount 1 = .ok (.getfield 15, 3) := by decide +kernel
theorem dX5_testCount_4 : decode cX5_testCount 4 = .ok (.iconst 2, 1) := by decide +kernel
theorem dX5_testCount_5 : decode cX5_testCount 5 = .ok (.iaload, 1) := by decide +kernel
theorem dX5_testCount_6 : decode cX5_testCount 6 = .ok (.invokestatic 40, 3) := by decide +kernel
theorem dX5_testCount_9 : decode cX5_testCount 9 = .ok (.ireturn, 1) := by decide +kernel
theorem dX5_append_0 : decode cX5_append 0 = .ok (.aload_n 0, 1) := by decide +kernel
theorem dX5_append_1 : decode cX5_append 1 = .ok (.getfield 23, 3) := by decide +kernel
theorem dX5_append_4 : decode cX5_append 4 = .ok (.istore_n 3, 1) := by decide +kernel
theorem dX5_append_5 : decode cX5_append 5 = .ok (.aload_n 0, 1) := by decide +kernel
theorem dX5_append_6 : decode cX5_append 6 = .ok (.getfield 9, 3) := by decide +kernel
theorem dX5_append_9 : decode cX5_append 9 = .ok (.iload_n 3, 1) := by decide +kernel
theorem dX5_append_10 : decode cX5_append 10 = .ok (.iload_n 2, 1) := by decide +kernel
theorem dX5_append_11 : decode cX5_append 11 = .ok (.iastore, 1) := by decide +kernel
theorem dX5_append_12 : decode cX5_append 12 = .ok (.aload_n 0, 1) := by decide +kernel
theorem dX5_append_13 : decode cX5_append 13 = .ok (.getfield 15, 3) := by decide +kernel
theorem dX5_append_16 : decode cX5_append 16 = .ok (.iload_n 1, 1) := by decide +kernel
theorem dX5_append_17 : decode cX5_append 17 = .ok (.dup2, 1) := by decide +kernel
theorem dX5_append_18 : decode cX5_append 18 = .ok (.iaload, 1) := by decide +kernel
theorem dX5_append_19 : decode cX5_append 19 = .ok (.iload_n 3, 1) := by decide +kernel
theorem dX5_append_20 : decode cX5_append 20 = .ok (.invokestatic 46, 3) := by decide +kernel
theorem dX5_append_23 : decode cX5_append 23 = .ok (.ior, 1) := by decide +kernel
theorem dX5_append_24 : decode cX5_append 24 = .ok (.iastore, 1) := by decide +kernel
theorem dX5_append_25 : decode cX5_append 25 = .ok (.aload_n 0, 1) := by decide +kernel
theorem dX5_append_26 : decode cX5_append 26 = .ok (.dup, 1) := by decide +kernel
theorem dX5_append_27 : decode cX5_append 27 = .ok (.getfield 23, 3) := by decide +kernel
theorem dX5_append_30 : decode cX5_append 30 = .ok (.iconst 1, 1) := by decide +kernel
theorem dX5_append_31 : decode cX5_append 31 = .ok (.iadd, 1) := by decide +kernel
theorem dX5_append_32 : decode cX5_append 32 = .ok (.putfield 23, 3) := by decide +kernel
theorem dX5_append_35 : decode cX5_append 35 = .ok (.iload_n 3, 1) := by decide +kernel
theorem dX5_append_36 : decode cX5_append 36 = .ok (.ireturn, 1) := by decide +kernel
theorem dX5_allows_0 : decode cX5_allows 0 = .ok (.aload_n 0, 1) := by decide +kernel
theorem dX5_allows_1 : decode cX5_allows 1 = .ok (.getfield 15, 3) := by decide +kernel
theorem dX5_allows_4 : decode cX5_allows 4 = .ok (.iconst 2, 1) := by decide +kernel
theorem dX5_allows_5 : decode cX5_allows 5 = .ok (.iaload, 1) := by decide +kernel
theorem dX5_allows_6 : decode cX5_allows 6 = .ok (.iload_n 2, 1) := by decide +kernel
theorem dX5_allows_7 : decode cX5_allows 7 = .ok (.invokestatic 49, 3) := by decide +kernel
theorem dX5_allows_10 : decode cX5_allows 10 = .ok (.ifCond .eq 5, 3) := by decide +kernel
theorem dX5_allows_13 : decode cX5_allows 13 = .ok (.iconst 0, 1) := by decide +kernel
theorem dX5_allows_14 : decode cX5_allows 14 = .ok (.ireturn, 1) := by decide +kernel
theorem dX5_allows_15 : decode cX5_allows 15 = .ok (.iload_n 3, 1) := by decide +kernel
theorem dX5_allows_16 : decode cX5_allows 16 = .ok (.iconst 2, 1) := by decide +kernel
theorem dX5_allows_17 : decode cX5_allows 17 = .ok (.if_icmp .ne 14, 3) := by decide +kernel
theorem dX5_allows_20 : decode cX5_allows 20 = .ok (.aload_n 0, 1) := by decide +kernel
theorem dX5_allows_21 : decode cX5_allows 21 = .ok (.getfield 15, 3) := by decide +kernel
theorem dX5_allows_24 : decode cX5_allows 24 = .ok (.iconst 1, 1) := by decide +kernel
theorem dX5_allows_25 : decode cX5_allows 25 = .ok (.iaload, 1) := by decide +kernel
theorem dX5_allows_26 : decode cX5_allows 26 = .ok (.iload_n 2, 1) := by decide +kernel
theorem dX5_allows_27 : decode cX5_allows 27 = .ok (.invokestatic 49, 3) := by decide +kernel
theorem dX5_allows_30 : decode cX5_allows 30 = .ok (.ireturn, 1) := by decide +kernel
theorem dX5_allows_31 : decode cX5_allows 31 = .ok (.iload_n 3, 1) := by decide +kernel
theorem dX5_allows_32 : decode cX5_allows 32 = .ok (.iconst 3, 1) := by decide +kernel
theorem dX5_allows_33 : decode cX5_allows 33 = .ok (.if_icmp .ne 16, 3) := by decide +kernel
theorem dX5_allows_36 : decode cX5_allows 36 = .ok (.aload_n 0, 1) := by decide +kernel
theorem dX5_allows_37 : decode cX5_allows 37 = .ok (.getfield 15, 3) := by decide +kernel
theorem dX5_allows_40 : decode cX5_allows 40 = .ok (.iconst 2, 1) := by decide +kernel
theorem dX5_allows_41 : decode cX5_allows 41 = .ok (.iaload, 1) := by decide +kernel
theorem dX5_allows_42 : decode cX5_allows 42 = .ok (.iload_n 1, 1) := by decide +kernel
theorem dX5_allows_43 : decode cX5_allows 43 = .ok (.invokestatic 49, 3) := by decide +kernel
theorem dX5_allows_46 : decode cX5_allows 46 = .ok (.ifCond .eq 7, 3) := by decide +kernel
theorem dX5_allows_49 : decode cX5_allows 49 = .ok (.iconst 1, 1) := by decide +kernel
theorem dX5_allows_50 : decode cX5_allows 50 = .ok (.goto 4, 3) := by decide +kernel
theorem dX5_allows_53 : decode cX5_allows 53 = .ok (.iconst 0, 1) := by decide +kernel
theorem dX5_allows_54 : decode cX5_allows 54 = .ok (.ireturn, 1) := by decide +kernel
theorem dX5_connect_0 : decode cX5_connect 0 = .ok (.aload_n 0, 1) := by decide +kernel
theorem dX5_connect_1 : decode cX5_connect 1 = .ok (.getfield 20, 3) := by decide +kernel
theorem dX5_connect_4 : decode cX5_connect 4 = .ok (.iload_n 3, 1) := by decide +kernel
theorem dX5_connect_5 : decode cX5_connect 5 = .ok (.aaload, 1) := by decide +kernel
theorem dX5_connect_6 : decode cX5_connect 6 = .ok (.iload_n 2, 1) := by decide +kernel
theorem dX5_connect_7 : decode cX5_connect 7 = .ok (.dup2, 1) := by decide +kernel
theorem dX5_connect_8 : decode cX5_connect 8 = .ok (.iaload, 1) := by decide +kernel
theorem dX5_connect_9 : decode cX5_connect 9 = .ok (.iload_n 1, 1) := by decide +kernel
theorem dX5_connect_10 : decode cX5_connect 10 = .ok (.invokestatic 46, 3) := by decide +kernel
theorem dX5_connect_13 : decode cX5_connect 13 = .ok (.ior, 1) := by decide +kernel
theorem dX5_connect_14 : decode cX5_connect 14 = .ok (.iastore, 1) := by decide +kernel
theorem dX5_connect_15 : decode cX5_connect 15 = .ok (.aload_n 0, 1) := by decide +kernel
theorem dX5_connect_16 : decode cX5_connect 16 = .ok (.dup, 1) := by decide +kernel
theorem dX5_connect_17 : decode cX5_connect 17 = .ok (.getfield 27, 3) := by decide +kernel
theorem dX5_connect_20 : decode cX5_connect 20 = .ok (.iconst 1, 1) := by decide +kernel
theorem dX5_connect_21 : decode cX5_connect 21 = .ok (.iadd, 1) := by decide +kernel
theorem dX5_connect_22 : decode cX5_connect 22 = .ok (.putfield 27, 3) := by decide +kernel
theorem dX5_connect_25 : decode cX5_connect 25 = .ok (.return_, 1) := by decide +kernel
theorem dX5_disconnect_0 : decode cX5_disconnect 0 = .ok (.aload_n 0, 1) := by decide +kernel
theorem dX5_disconnect_1 : decode cX5_disconnect 1 = .ok (.getfield 20, 3) := by decide +kernel
theorem dX5_disconnect_4 : decode cX5_disconnect 4 = .ok (.iload_n 3, 1) := by decide +kernel
theorem dX5_disconnect_5 : decode cX5_disconnect 5 = .ok (.aaload, 1) := by decide +kernel
theorem dX5_disconnect_6 : decode cX5_disconnect 6 = .ok (.iload_n 2, 1) := by decide +kernel
theorem dX5_disconnect_7 : decode cX5_disconnect 7 = .ok (.dup2, 1) := by decide +kernel
theorem dX5_disconnect_8 : decode cX5_disconnect 8 = .ok (.iaload, 1) := by decide +kernel
theorem dX5_disconnect_9 : decode cX5_disconnect 9 = .ok (.iload_n 1, 1) := by decide +kernel
theorem dX5_disconnect_10 : decode cX5_disconnect 10 = .ok (.invokestatic 46, 3) := by decide +kernel
theorem dX5_disconnect_13 : decode cX5_disconnect 13 = .ok (.iconst (-1), 1) := by decide +kernel
theorem dX5_disconnect_14 : decode cX5_disconnect 14 = .ok (.ixor, 1) := by decide +kernel
theorem dX5_disconnect_15 : decode cX5_disconnect 15 = .ok (.iand, 1) := by decide +kernel
theorem dX5_disconnect_16 : decode cX5_disconnect 16 = .ok (.iastore, 1) := by decide +kernel
theorem dX5_disconnect_17 : decode cX5_disconnect 17 = .ok (.aload_n 0, 1) := by decide +kernel
theorem dX5_disconnect_18 : decode cX5_disconnect 18 = .ok (.dup, 1) := by decide +kernel
theorem dX5_disconnect_19 : decode cX5_disconnect 19 = .ok (.getfield 27, 3) := by decide +kernel
theorem dX5_disconnect_22 : decode cX5_disconnect 22 = .ok (.iconst 1, 1) := by decide +kernel
theorem dX5_disconnect_23 : decode cX5_disconnect 23 = .ok (.isub, 1) := by decide +kernel
theorem dX5_disconnect_24 : decode cX5_disconnect 24 = .ok (.putfield 27, 3) := by decide +kernel
theorem dX5_disconnect_27 : decode cX5_disconnect 27 = .ok (.return_, 1) := by decide +kernel
theorem dX5_kindBetween_0 : decode cX5_kindBetween 0 = .ok (.iconst 0, 1) := by decide +kernel
theorem dX5_kindBetween_1 : decode cX5_kindBetween 1 = .ok (.istore_n 3, 1) := by decide +kernel
theorem dX5_kindBetween_2 : decode cX5_kindBetween 2 = .ok (.iload_n 3, 1) := by decide +kernel
theorem dX5_kindBetween_3 : decode cX5_kindBetween 3 = .ok (.iconst 4, 1) := by decide +kernel
theorem dX5_kindBetween_4 : decode cX5_kindBetween 4 = .ok (.if_icmp .ge 26, 3) := by decide +kernel
theorem dX5_kindBetween_7 : decode cX5_kindBetween 7 = .ok (.aload_n 0, 1) := by decide +kernel
theorem dX5_kindBetween_8 : decode cX5_kindBetween 8 = .ok (.getfield 20, 3) := by decide +kernel
theorem dX5_kindBetween_11 : decode cX5_kindBetween 11 = .ok (.iload_n 3, 1) := by decide +kernel
theorem dX5_kindBetween_12 : decode cX5_kindBetween 12 = .ok (.aaload, 1) := by decide +kernel
theorem dX5_kindBetween_13 : decode cX5_kindBetween 13 = .ok (.iload_n 2, 1) := by decide +kernel
theorem dX5_kindBetween_14 : decode cX5_kindBetween 14 = .ok (.iaload, 1) := by decide +kernel
theorem dX5_kindBetween_15 : decode cX5_kindBetween 15 = .ok (.iload_n 1, 1) := by decide +kernel
theorem dX5_kindBetween_16 : decode cX5_kindBetween 16 = .ok (.invokestatic 49, 3) := by decide +kernel
theorem dX5_kindBetween_19 : decode cX5_kindBetween 19 = .ok (.ifCond .eq 5, 3) := by decide +kernel
theorem dX5_kindBetween_22 : decode cX5_kindBetween 22 = .ok (.iload_n 3, 1) := by decide +kernel
theorem dX5_kindBetween_23 : decode cX5_kindBetween 23 = .ok (.ireturn, 1) := by decide +kernel
theorem dX5_kindBetween_24 : decode cX5_kindBetween 24 = .ok (.iinc 3 1, 3) := by decide +kernel
theorem dX5_kindBetween_27 : decode cX5_kindBetween 27 = .ok (.goto (-25), 3) := by decide +kernel
theorem dX5_kindBetween_30 : decode cX5_kindBetween 30 = .ok (.bipush (-10), 2) := by decide +kernel
theorem dX5_kindBetween_32 : decode cX5_kindBetween 32 = .ok (.ireturn, 1) := by decide +kernel
theorem dX5_usersOf_0 : decode cX5_usersOf 0 = .ok (.iconst 0, 1) := by decide +kernel
theorem dX5_usersOf_1 : decode cX5_usersOf 1 = .ok (.istore_n 3, 1) := by decide +kernel
theorem dX5_usersOf_2 : decode cX5_usersOf 2 = .ok (.iconst 0, 1) := by decide +kernel
theorem dX5_usersOf_3 : decode cX5_usersOf 3 = .ok (.istore 4, 2) := by decide +kernel
theorem dX5_usersOf_5 : decode cX5_usersOf 5 = .ok (.iload 4, 2) := by decide +kernel
theorem dX5_usersOf_7 : decode cX5_usersOf 7 = .ok (.iconst 4, 1) := by decide +kernel
theorem dX5_usersOf_8 : decode cX5_usersOf 8 = .ok (.if_icmp .ge 30, 3) := by decide +kernel
theorem dX5_usersOf_11 : decode cX5_usersOf 11 = .ok (.iload_n 2, 1) := by decide +kernel
theorem dX5_usersOf_12 : decode cX5_usersOf 12 = .ok (.iload 4, 2) := by decide +kernel
theorem dX5_usersOf_14 : decode cX5_usersOf 14 = .ok (.iushr, 1) := by decide +kernel
theorem dX5_usersOf_15 : decode cX5_usersOf 15 = .ok (.iconst 1, 1) := by decide +kernel
theorem dX5_usersOf_16 : decode cX5_usersOf 16 = .ok (.iand, 1) := by decide +kernel
theorem dX5_usersOf_17 : decode cX5_usersOf 17 = .ok (.ifCond .eq 15, 3) := by decide +kernel
theorem dX5_usersOf_20 : decode cX5_usersOf 20 = .ok (.iload_n 3, 1) := by decide +kernel
theorem dX5_usersOf_21 : decode cX5_usersOf 21 = .ok (.aload_n 0, 1) := by decide +kernel
theorem dX5_usersOf_22 : decode cX5_usersOf 22 = .ok (.getfield 20, 3) := by decide +kernel
theorem dX5_usersOf_25 : decode cX5_usersOf 25 = .ok (.iload 4, 2) := by decide +kernel
theorem dX5_usersOf_27 : decode cX5_usersOf 27 = .ok (.aaload, 1) := by decide +kernel
theorem dX5_usersOf_28 : decode cX5_usersOf 28 = .ok (.iload_n 1, 1) := by decide +kernel
theorem dX5_usersOf_29 : decode cX5_usersOf 29 = .ok (.iaload, 1) := by decide +kernel
theorem dX5_usersOf_30 : decode cX5_usersOf 30 = .ok (.ior, 1) := by decide +kernel
theorem dX5_usersOf_31 : decode cX5_usersOf 31 = .ok (.istore_n 3, 1) := by decide +kernel
theorem dX5_usersOf_32 : decode cX5_usersOf 32 = .ok (.iinc 4 1, 3) := by decide +kernel
theorem dX5_usersOf_35 : decode cX5_usersOf 35 = .ok (.goto (-30), 3) := by decide +kernel
theorem dX5_usersOf_38 : decode cX5_usersOf 38 = .ok (.iload_n 3, 1) := by decide +kernel
theorem dX5_usersOf_39 : decode cX5_usersOf 39 = .ok (.ireturn, 1) := by decide +kernel
theorem dX5_usersOfAny_0 : decode cX5_usersOfAny 0 = .ok (.iconst 0, 1) := by decide +kernel
theorem dX5_usersOfAny_1 : decode cX5_usersOfAny 1 = .ok (.istore_n 3, 1) := by decide +kernel
theorem dX5_usersOfAny_2 : decode cX5_usersOfAny 2 = .ok (.iconst 0, 1) := by decide +kernel
theorem dX5_usersOfAny_3 : decode cX5_usersOfAny 3 = .ok (.istore 4, 2) := by decide +kernel
theorem dX5_usersOfAny_5 : decode cX5_usersOfAny 5 = .ok (.iload 4, 2) := by decide +kernel
theorem dX5_usersOfAny_7 : decode cX5_usersOfAny 7 = .ok (.bipush 20, 2) := by decide +kernel
theorem dX5_usersOfAny_9 : decode cX5_usersOfAny 9 = .ok (.if_icmp .ge 28, 3) := by decide +kernel
theorem dX5_usersOfAny_12 : decode cX5_usersOfAny 12 = .ok (.iload_n 1, 1) := by decide +kernel
theorem dX5_usersOfAny_13 : decode cX5_usersOfAny 13 = .ok (.iload 4, 2) := by decide +kernel
theorem dX5_usersOfAny_15 : decode cX5_usersOfAny 15 = .ok (.invokestatic 49, 3) := by decide +kernel
theorem dX5_usersOfAny_18 : decode cX5_usersOfAny 18 = .ok (.ifCond .eq 13, 3) := by decide +kernel
theorem dX5_usersOfAny_21 : decode cX5_usersOfAny 21 = .ok (.iload_n 3, 1) := by decide +kernel
theorem dX5_usersOfAny_22 : decode cX5_usersOfAny 22 = .ok (.aload_n 0, 1) := by decide +kernel
theorem dX5_usersOfAny_23 : decode cX5_usersOfAny 23 = .ok (.iload 4, 2) := by decide +kernel
theorem dX5_usersOfAny_25 : decode cX5_usersOfAny 25 = .ok (.iload_n 2, 1) := by decide +kernel
theorem dX5_usersOfAny_26 : decode cX5_usersOfAny 26 = .ok (.invokevirtual 52, 3) := by decide +kernel
theorem dX5_usersOfAny_29 : decode cX5_usersOfAny 29 = .ok (.ior, 1) := by decide +kernel
theorem dX5_usersOfAny_30 : decode cX5_usersOfAny 30 = .ok (.istore_n 3, 1) := by decide +kernel
theorem dX5_usersOfAny_31 : decode cX5_usersOfAny 31 = .ok (.iinc 4 1, 3) := by decide +kernel
theorem dX5_usersOfAny_34 : decode cX5_usersOfAny 34 = .ok (.goto (-29), 3) := by decide +kernel
theorem dX5_usersOfAny_37 : decode cX5_usersOfAny 37 = .ok (.iload_n 3, 1) := by decide +kernel
theorem dX5_usersOfAny_38 : decode cX5_usersOfAny 38 = .ok (.ireturn, 1) := by decide +kernel
theorem dX5_withAllUsers_0 : decode cX5_withAllUsers 0 = .ok (.iload_n 1, 1) := by decide +kernel
theorem dX5_withAllUsers_1 : decode cX5_withAllUsers 1 = .ok (.istore_n 3, 1) := by decide +kernel
theorem dX5_withAllUsers_2 : decode cX5_withAllUsers 2 = .ok (.iload_n 1, 1) := by decide +kernel
theorem dX5_withAllUsers_3 : decode cX5_withAllUsers 3 = .ok (.istore 4, 2) := by decide +kernel
theorem dX5_withAllUsers_5 : decode cX5_withAllUsers 5 = .ok (.iconst 0, 1) := by decide +kernel
theorem dX5_withAllUsers_6 : decode cX5_withAllUsers 6 = .ok (.istore 5, 2) := by decide +kernel
theorem dX5_withAllUsers_8 : decode cX5_withAllUsers 8 = .ok (.iload 5, 2) := by decide +kernel
theorem dX5_withAllUsers_10 : decode cX5_withAllUsers 10 = .ok (.bipush 20, 2) := by decide +kernel
theorem dX5_withAllUsers_12 : decode cX5_withAllUsers 12 = .ok (.if_icmp .ge 32, 3) := by decide +kernel
theorem dX5_withAllUsers_15 : decode cX5_withAllUsers 15 = .ok (.iload 4, 2) := by decide +kernel
theorem dX5_withAllUsers_17 : decode cX5_withAllUsers 17 = .ok (.ifCond .eq 27, 3) := by decide +kernel
theorem dX5_withAllUsers_20 : decode cX5_withAllUsers 20 = .ok (.aload_n 0, 1) := by decide +kernel
theorem dX5_withAllUsers_21 : decode cX5_withAllUsers 21 = .ok (.iload 4, 2) := by decide +kernel
theorem dX5_withAllUsers_23 : decode cX5_withAllUsers 23 = .ok (.iload_n 2, 1) := by decide +kernel
theorem dX5_withAllUsers_24 : decode cX5_withAllUsers 24 = .ok (.invokevirtual 56, 3) := by decide +kernel
theorem dX5_withAllUsers_27 : decode cX5_withAllUsers 27 = .ok (.iload_n 3, 1) := by decide +kernel
theorem dX5_withAllUsers_28 : decode cX5_withAllUsers 28 = .ok (.iconst (-1), 1) := by decide +kernel
theorem dX5_withAllUsers_29 : decode cX5_withAllUsers 29 = .ok (.ixor, 1) := by decide +kernel
theorem dX5_withAllUsers_30 : decode cX5_withAllUsers 30 = .ok (.iand, 1) := by decide +kernel
theorem dX5_withAllUsers_31 : decode cX5_withAllUsers 31 = .ok (.istore 4, 2) := by decide +kernel
theorem dX5_withAllUsers_33 : decode cX5_withAllUsers 33 = .ok (.iload_n 3, 1) := by decide +kernel
theorem dX5_withAllUsers_34 : decode cX5_withAllUsers 34 = .ok (.iload 4, 2) := by decide +kernel
theorem dX5_withAllUsers_36 : decode cX5_withAllUsers 36 = .ok (.ior, 1) := by decide +kernel
theorem dX5_withAllUsers_37 : decode cX5_withAllUsers 37 = .ok (.istore_n 3, 1) := by decide +kernel
theorem dX5_withAllUsers_38 : decode cX5_withAllUsers 38 = .ok (.iinc 5 1, 3) := by decide +kernel
theorem dX5_withAllUsers_41 : decode cX5_withAllUsers 41 = .ok (.goto (-33), 3) := by decide +kernel
theorem dX5_withAllUsers_44 : decode cX5_withAllUsers 44 = .ok (.iload_n 3, 1) := by decide +kernel
theorem dX5_withAllUsers_45 : decode cX5_withAllUsers 45 = .ok (.ireturn, 1) := by decide +kernel
theorem dX5_followersOf_0 : decode cX5_followersOf 0 = .ok (.iload_n 1, 1) := by decide +kernel
theorem dX5_followersOf_1 : decode cX5_followersOf 1 = .ok (.iconst 2, 1) := by decide +kernel
theorem dX5_followersOf_2 : decode cX5_followersOf 2 = .ok (.idiv, 1) := by decide +kernel
theorem dX5_followersOf_3 : decode cX5_followersOf 3 = .ok (.istore_n 2, 1) := by decide +kernel
theorem dX5_followersOf_4 : decode cX5_followersOf 4 = .ok (.iload_n 1, 1) := by decide +kernel
theorem dX5_followersOf_5 : decode cX5_followersOf 5 = .ok (.iconst 2, 1) := by decide +kernel
theorem dX5_followersOf_6 : decode cX5_followersOf 6 = .ok (.irem, 1) := by decide +kernel
theorem dX5_followersOf_7 : decode cX5_followersOf 7 = .ok (.iconst 1, 1) := by decide +kernel
theorem dX5_followersOf_8 : decode cX5_followersOf 8 = .ok (.if_icmp .ne 16, 3) := by decide +kernel
theorem dX5_followersOf_11 : decode cX5_followersOf 11 = .ok (.aload_n 0, 1) := by decide +kernel
theorem dX5_followersOf_12 : decode cX5_followersOf 12 = .ok (.getfield 20, 3) := by decide +kernel
theorem dX5_followersOf_15 : decode cX5_followersOf 15 = .ok (.iconst 2, 1) := by decide +kernel
theorem dX5_followersOf_16 : decode cX5_followersOf 16 = .ok (.aaload, 1) := by decide +kernel
theorem dX5_followersOf_17 : decode cX5_followersOf 17 = .ok (.iload_n 2, 1) := by decide +kernel
theorem dX5_followersOf_18 : decode cX5_followersOf 18 = .ok (.iaload, 1) := by decide +kernel
theorem dX5_followersOf_19 : decode cX5_followersOf 19 = .ok (.iconst 0, 1) := by decide +kernel
theorem dX5_followersOf_20 : decode cX5_followersOf 20 = .ok (.invokestatic 59, 3) := by decide +kernel
theorem dX5_followersOf_23 : decode cX5_followersOf 23 = .ok (.lreturn, 1) := by decide +kernel
theorem dX5_followersOf_24 : decode cX5_followersOf 24 = .ok (.aload_n 0, 1) := by decide +kernel
theorem dX5_followersOf_25 : decode cX5_followersOf 25 = .ok (.getfield 20, 3) := by decide +kernel
theorem dX5_followersOf_28 : decode cX5_followersOf 28 = .ok (.iconst 0, 1) := by decide +kernel
theorem dX5_followersOf_29 : decode cX5_followersOf 29 = .ok (.aaload, 1) := by decide +kernel
theorem dX5_followersOf_30 : decode cX5_followersOf 30 = .ok (.iload_n 2, 1) := by decide +kernel
theorem dX5_followersOf_31 : decode cX5_followersOf 31 = .ok (.iaload, 1) := by decide +kernel
theorem dX5_followersOf_32 : decode cX5_followersOf 32 = .ok (.iconst 0, 1) := by decide +kernel
theorem dX5_followersOf_33 : decode cX5_followersOf 33 = .ok (.invokestatic 59, 3) := by decide +kernel
theorem dX5_followersOf_36 : decode cX5_followersOf 36 = .ok (.aload_n 0, 1) := by decide +kernel
theorem dX5_followersOf_37 : decode cX5_followersOf 37 = .ok (.getfield 20, 3) := by decide +kernel
theorem dX5_followersOf_40 : decode cX5_followersOf 40 = .ok (.iconst 1, 1) := by decide +kernel
theorem dX5_followersOf_41 : decode cX5_followersOf 41 = .ok (.aaload, 1) := by decide +kernel
theorem dX5_followersOf_42 : decode cX5_followersOf 42 = .ok (.iload_n 2, 1) := by decide +kernel
theorem dX5_followersOf_43 : decode cX5_followersOf 43 = .ok (.iaload, 1) := by decide +kernel
theorem dX5_followersOf_44 : decode cX5_followersOf 44 = .ok (.iload_n 2, 1) := by decide +kernel
theorem dX5_followersOf_45 : decode cX5_followersOf 45 = .ok (.invokestatic 46, 3) := by decide +kernel
theorem dX5_followersOf_48 : decode cX5_followersOf 48 = .ok (.ior, 1) := by decide +kernel
theorem dX5_followersOf_49 : decode cX5_followersOf 49 = .ok (.iconst 1, 1) := by decide +kernel
theorem dX5_followersOf_50 : decode cX5_followersOf 50 = .ok (.invokestatic 59, 3) := by decide +kernel
theorem dX5_followersOf_53 : decode cX5_followersOf 53 = .ok (.lor, 1) := by decide +kernel
theorem dX5_followersOf_54 : decode cX5_followersOf 54 = .ok (.lreturn, 1) := by decide +kernel
theorem dX5_followersOfAny_0 : decode cX5_followersOfAny 0 = .ok (.lconst 0, 1) := by decide +kernel
theorem dX5_followersOfAny_1 : decode cX5_followersOfAny 1 = .ok (.lstore_n 3, 1) := by decide +kernel
theorem dX5_followersOfAny_2 : decode cX5_followersOfAny 2 = .ok (.iconst 0, 1) := by decide +kernel
theorem dX5_followersOfAny_3 : decode cX5_followersOfAny 3 = .ok (.istore 5, 2) := by decide +kernel
theorem dX5_followersOfAny_5 : decode cX5_followersOfAny 5 = .ok (.iload 5, 2) := by decide +kernel
theorem dX5_followersOfAny_7 : decode cX5_followersOfAny 7 = .ok (.bipush 40, 2) := by decide +kernel
theorem dX5_followersOfAny_9 : decode cX5_followersOfAny 9 = .ok (.if_icmp .ge 27, 3) := by decide +kernel
theorem dX5_followersOfAny_12 : decode cX5_followersOfAny 12 = .ok (.lload_n 1, 1) := by decide +kernel
theorem dX5_followersOfAny_13 : decode cX5_followersOfAny 13 = .ok (.iload 5, 2) := by decide +kernel
theorem dX5_followersOfAny_15 : decode cX5_followersOfAny 15 = .ok (.invokestatic 63, 3) := by decide +kernel
theorem dX5_followersOfAny_18 : decode cX5_followersOfAny 18 = .ok (.ifCond .eq 12, 3) := by decide +kernel
theorem dX5_followersOfAny_21 : decode cX5_followersOfAny 21 = .ok (.lload_n 3, 1) := by decide +kernel
theorem dX5_followersOfAny_22 : decode cX5_followersOfAny 22 = .ok (.aload_n 0, 1) := by decide +kernel
theorem dX5_followersOfAny_23 : decode cX5_followersOfAny 23 = .ok (.iload 5, 2) := by decide +kernel
theorem dX5_followersOfAny_25 : decode cX5_followersOfAny 25 = .ok (.invokevirtual 67, 3) := by decide +kernel
theorem dX5_followersOfAny_28 : decode cX5_followersOfAny 28 = .ok (.lor, 1) := by decide +kernel
theorem dX5_followersOfAny_29 : decode cX5_followersOfAny 29 = .ok (.lstore_n 3, 1) := by decide +kernel
theorem dX5_followersOfAny_30 : decode cX5_followersOfAny 30 = .ok (.iinc 5 1, 3) := by decide +kernel
theorem dX5_followersOfAny_33 : decode cX5_followersOfAny 33 = .ok (.goto (-28), 3) := by decide +kernel
theorem dX5_followersOfAny_36 : decode cX5_followersOfAny 36 = .ok (.lload_n 3, 1) := by decide +kernel
theorem dX5_followersOfAny_37 : decode cX5_followersOfAny 37 = .ok (.lreturn, 1) := by decide +kernel
theorem dX5_causesOfAny_0 : decode cX5_causesOfAny 0 = .ok (.lconst 0, 1) := by decide +kernel
theorem dX5_causesOfAny_1 : decode cX5_causesOfAny 1 = .ok (.lstore_n 3, 1) := by decide +kernel
theorem dX5_causesOfAny_2 : decode cX5_causesOfAny 2 = .ok (.iconst 0, 1) := by decide +kernel
theorem dX5_causesOfAny_3 : decode cX5_causesOfAny 3 = .ok (.istore 5, 2) := by decide +kernel
theorem dX5_causesOfAny_5 : decode cX5_causesOfAny 5 = .ok (.iload 5, 2) := by decide +kernel
theorem dX5_causesOfAny_7 : decode cX5_causesOfAny 7 = .ok (.bipush 40, 2) := by decide +kernel
theorem dX5_causesOfAny_9 : decode cX5_causesOfAny 9 = .ok (.if_icmp .ge 30, 3) := by decide +kernel
theorem dX5_causesOfAny_12 : decode cX5_causesOfAny 12 = .ok (.aload_n 0, 1) := by decide +kernel
theorem dX5_causesOfAny_13 : decode cX5_causesOfAny 13 = .ok (.iload 5, 2) := by decide +kernel
theorem dX5_causesOfAny_15 : decode cX5_causesOfAny 15 = .ok (.invokevirtual 67, 3) := by decide +kernel
theorem dX5_causesOfAny_18 : decode cX5_causesOfAny 18 = .ok (.lload_n 1, 1) := by decide +kernel
theorem dX5_causesOfAny_19 : decode cX5_causesOfAny 19 = .ok (.land, 1) := by decide +kernel
theorem dX5_causesOfAny_20 : decode cX5_causesOfAny 20 = .ok (.lconst 0, 1) := by decide +kernel
theorem dX5_causesOfAny_21 : decode cX5_causesOfAny 21 = .ok (.lcmp, 1) := by decide +kernel
theorem dX5_causesOfAny_22 : decode cX5_causesOfAny 22 = .ok (.ifCond .eq 11, 3) := by decide +kernel
theorem dX5_causesOfAny_25 : decode cX5_causesOfAny 25 = .ok (.lload_n 3, 1) := by decide +kernel
theorem dX5_causesOfAny_26 : decode cX5_causesOfAny 26 = .ok (.iload 5, 2) := by decide +kernel
theorem dX5_causesOfAny_28 : decode cX5_causesOfAny 28 = .ok (.invokestatic 71, 3) := by decide +kernel
theorem dX5_causesOfAny_31 : decode cX5_causesOfAny 31 = .ok (.lor, 1) := by decide +kernel
theorem dX5_causesOfAny_32 : decode cX5_causesOfAny 32 = .ok (.lstore_n 3, 1) := by decide +kernel
theorem dX5_causesOfAny_33 : decode cX5_causesOfAny 33 = .ok (.iinc 5 1, 3) := by decide +kernel
theorem dX5_causesOfAny_36 : decode cX5_causesOfAny 36 = .ok (.goto (-31), 3) := by decide +kernel
theorem dX5_causesOfAny_39 : decode cX5_causesOfAny 39 = .ok (.lload_n 3, 1) := by decide +kernel
theorem dX5_causesOfAny_40 : decode cX5_causesOfAny 40 = .ok (.lreturn, 1) := by decide +kernel
theorem dX5_reachOf_0 : decode cX5_reachOf 0 = .ok (.lload_n 1, 1) := by decide +kernel
theorem dX5_reachOf_1 : decode cX5_reachOf 1 = .ok (.lstore_n 3, 1) := by decide +kernel
theorem dX5_reachOf_2 : decode cX5_reachOf 2 = .ok (.lload_n 1, 1) := by decide +kernel
theorem dX5_reachOf_3 : decode cX5_reachOf 3 = .ok (.lstore 5, 2) := by decide +kernel
theorem dX5_reachOf_5 : decode cX5_reachOf 5 = .ok (.iconst 0, 1) := by decide +kernel
theorem dX5_reachOf_6 : decode cX5_reachOf 6 = .ok (.istore 7, 2) := by decide +kernel
theorem dX5_reachOf_8 : decode cX5_reachOf 8 = .ok (.iload 7, 2) := by decide +kernel
theorem dX5_reachOf_10 : decode cX5_reachOf 10 = .ok (.bipush 40, 2) := by decide +kernel
theorem dX5_reachOf_12 : decode cX5_reachOf 12 = .ok (.if_icmp .ge 35, 3) := by decide +kernel
theorem dX5_reachOf_15 : decode cX5_reachOf 15 = .ok (.lload 5, 2) := by decide +kernel
theorem dX5_reachOf_17 : decode cX5_reachOf 17 = .ok (.lconst 0, 1) := by decide +kernel
theorem dX5_reachOf_18 : decode cX5_reachOf 18 = .ok (.lcmp, 1) := by decide +kernel
theorem dX5_reachOf_19 : decode cX5_reachOf 19 = .ok (.ifCond .eq 28, 3) := by decide +kernel
theorem dX5_reachOf_22 : decode cX5_reachOf 22 = .ok (.aload_n 0, 1) := by decide +kernel
theorem dX5_reachOf_23 : decode cX5_reachOf 23 = .ok (.lload 5, 2) := by decide +kernel
theorem dX5_reachOf_25 : decode cX5_reachOf 25 = .ok (.invokevirtual 74, 3) := by decide +kernel
theorem dX5_reachOf_28 : decode cX5_reachOf 28 = .ok (.lload_n 3, 1) := by decide +kernel
theorem dX5_reachOf_29 : decode cX5_reachOf 29 = .ok (.ldc2_w 78, 3) := by decide +kernel
theorem dX5_reachOf_32 : decode cX5_reachOf 32 = .ok (.lxor, 1) := by decide +kernel
theorem dX5_reachOf_33 : decode cX5_reachOf 33 = .ok (.land, 1) := by decide +kernel
theorem dX5_reachOf_34 : decode cX5_reachOf 34 = .ok (.lstore 5, 2) := by decide +kernel
theorem dX5_reachOf_36 : decode cX5_reachOf 36 = .ok (.lload_n 3, 1) := by decide +kernel
theorem dX5_reachOf_37 : decode cX5_reachOf 37 = .ok (.lload 5, 2) := by decide +kernel
theorem dX5_reachOf_39 : decode cX5_reachOf 39 = .ok (.lor, 1) := by decide +kernel
theorem dX5_reachOf_40 : decode cX5_reachOf 40 = .ok (.lstore_n 3, 1) := by decide +kernel
theorem dX5_reachOf_41 : decode cX5_reachOf 41 = .ok (.iinc 7 1, 3) := by decide +kernel
theorem dX5_reachOf_44 : decode cX5_reachOf 44 = .ok (.goto (-36), 3) := by decide +kernel
theorem dX5_reachOf_47 : decode cX5_reachOf 47 = .ok (.lload_n 3, 1) := by decide +kernel
theorem dX5_reachOf_48 : decode cX5_reachOf 48 = .ok (.lreturn, 1) := by decide +kernel
theorem dX5_weightRebuiltBy_0 : decode cX5_weightRebuiltBy 0 = .ok (.aload_n 0, 1) := by decide +kernel
theorem dX5_weightRebuiltBy_1 : decode cX5_weightRebuiltBy 1 = .ok (.iload_n 1, 1) := by decide +kernel
theorem dX5_weightRebuiltBy_2 : decode cX5_weightRebuiltBy 2 = .ok (.invokestatic 71, 3) := by decide +kernel
theorem dX5_weightRebuiltBy_5 : decode cX5_weightRebuiltBy 5 = .ok (.invokevirtual 80, 3) := by decide +kernel
theorem dX5_weightRebuiltBy_8 : decode cX5_weightRebuiltBy 8 = .ok (.iconst 1, 1) := by decide +kernel
theorem dX5_weightRebuiltBy_9 : decode cX5_weightRebuiltBy 9 = .ok (.invokestatic 83, 3) := by decide +kernel
theorem dX5_weightRebuiltBy_12 : decode cX5_weightRebuiltBy 12 = .ok (.istore_n 2, 1) := by decide +kernel
theorem dX5_weightRebuiltBy_13 : decode cX5_weightRebuiltBy 13 = .ok (.iconst 0, 1) := by decide +kernel
theorem dX5_weightRebuiltBy_14 : decode cX5_weightRebuiltBy 14 = .ok (.istore_n 3, 1) := by decide +kernel
theorem dX5_weightRebuiltBy_15 : decode cX5_weightRebuiltBy 15 = .ok (.iconst 0, 1) := by decide +kernel
theorem dX5_weightRebuiltBy_16 : decode cX5_weightRebuiltBy 16 = .ok (.istore 4, 2) := by decide +kernel
theorem dX5_weightRebuiltBy_18 : decode cX5_weightRebuiltBy 18 = .ok (.iload 4, 2) := by decide +kernel
theorem dX5_weightRebuiltBy_20 : decode cX5_weightRebuiltBy 20 = .ok (.bipush 20, 2) := by decide +kernel
theorem dX5_weightRebuiltBy_22 : decode cX5_weightRebuiltBy 22 = .ok (.if_icmp .ge 28, 3) := by decide +kernel
theorem dX5_weightRebuiltBy_25 : decode cX5_weightRebuiltBy 25 = .ok (.iload_n 2, 1) := by decide +kernel
theorem dX5_weightRebuiltBy_26 : decode cX5_weightRebuiltBy 26 = .ok (.iload 4, 2) := by decide +kernel
theorem dX5_weightRebuiltBy_28 : decode cX5_weightRebuiltBy 28 = .ok (.invokestatic 49, 3) := by decide +kernel
theorem dX5_weightRebuiltBy_31 : decode cX5_weightRebuiltBy 31 = .ok (.ifCond .eq 13, 3) := by decide +kernel
theorem dX5_weightRebuiltBy_34 : decode cX5_weightRebuiltBy 34 = .ok (.iload_n 3, 1) := by decide +kernel
theorem dX5_weightRebuiltBy_35 : decode cX5_weightRebuiltBy 35 = .ok (.aload_n 0, 1) := by decide +kernel
theorem dX5_weightRebuiltBy_36 : decode cX5_weightRebuiltBy 36 = .ok (.getfield 9, 3) := by decide +kernel
theorem dX5_weightRebuiltBy_39 : decode cX5_weightRebuiltBy 39 = .ok (.iload 4, 2) := by decide +kernel
theorem dX5_weightRebuiltBy_41 : decode cX5_weightRebuiltBy 41 = .ok (.iaload, 1) := by decide +kernel
theorem dX5_weightRebuiltBy_42 : decode cX5_weightRebuiltBy 42 = .ok (.iadd, 1) := by decide +kernel
theorem dX5_weightRebuiltBy_43 : decode cX5_weightRebuiltBy 43 = .ok (.istore_n 3, 1) := by decide +kernel
theorem dX5_weightRebuiltBy_44 : decode cX5_weightRebuiltBy 44 = .ok (.iinc 4 1, 3) := by decide +kernel
theorem dX5_weightRebuiltBy_47 : decode cX5_weightRebuiltBy 47 = .ok (.goto (-29), 3) := by decide +kernel
theorem dX5_weightRebuiltBy_50 : decode cX5_weightRebuiltBy 50 = .ok (.iload_n 3, 1) := by decide +kernel
theorem dX5_weightRebuiltBy_51 : decode cX5_weightRebuiltBy 51 = .ok (.ireturn, 1) := by decide +kernel
theorem dX5_heaviest_0 : decode cX5_heaviest 0 = .ok (.bipush (-10), 2) := by decide +kernel
theorem dX5_heaviest_2 : decode cX5_heaviest 2 = .ok (.istore_n 2, 1) := by decide +kernel
theorem dX5_heaviest_3 : decode cX5_heaviest 3 = .ok (.iconst 0, 1) := by decide +kernel
theorem dX5_heaviest_4 : decode cX5_heaviest 4 = .ok (.istore_n 3, 1) := by decide +kernel
theorem dX5_heaviest_5 : decode cX5_heaviest 5 = .ok (.iconst 0, 1) := by decide +kernel
theorem dX5_heaviest_6 : decode cX5_heaviest 6 = .ok (.istore 4, 2) := by decide +kernel
theorem dX5_heaviest_8 : decode cX5_heaviest 8 = .ok (.iload 4, 2) := by decide +kernel
theorem dX5_heaviest_10 : decode cX5_heaviest 10 = .ok (.bipush 20, 2) := by decide +kernel
theorem dX5_heaviest_12 : decode cX5_heaviest 12 = .ok (.if_icmp .ge 40, 3) := by decide +kernel
theorem dX5_heaviest_15 : decode cX5_heaviest 15 = .ok (.iload_n 1, 1) := by decide +kernel
theorem dX5_heaviest_16 : decode cX5_heaviest 16 = .ok (.iload 4, 2) := by decide +kernel
theorem dX5_heaviest_18 : decode cX5_heaviest 18 = .ok (.invokestatic 49, 3) := by decide +kernel
theorem dX5_heaviest_21 : decode cX5_heaviest 21 = .ok (.ifCond .eq 25, 3) := by decide +kernel
theorem dX5_heaviest_24 : decode cX5_heaviest 24 = .ok (.aload_n 0, 1) := by decide +kernel
theorem dX5_heaviest_25 : decode cX5_heaviest 25 = .ok (.getfield 9, 3) := by decide +kernel
theorem dX5_heaviest_28 : decode cX5_heaviest 28 = .ok (.iload 4, 2) := by decide +kernel
theorem dX5_heaviest_30 : decode cX5_heaviest 30 = .ok (.iaload, 1) := by decide +kernel
theorem dX5_heaviest_31 : decode cX5_heaviest 31 = .ok (.iload_n 3, 1) := by decide +kernel
theorem dX5_heaviest_32 : decode cX5_heaviest 32 = .ok (.if_icmp .le 14, 3) := by decide +kernel
theorem dX5_heaviest_35 : decode cX5_heaviest 35 = .ok (.iload 4, 2) := by decide +kernel
theorem dX5_heaviest_37 : decode cX5_heaviest 37 = .ok (.istore_n 2, 1) := by decide +kernel
theorem dX5_heaviest_38 : decode cX5_heaviest 38 = .ok (.aload_n 0, 1) := by decide +kernel
theorem dX5_heaviest_39 : decode cX5_heaviest 39 = .ok (.getfield 9, 3) := by decide +kernel
theorem dX5_heaviest_42 : decode cX5_heaviest 42 = .ok (.iload 4, 2) := by decide +kernel
theorem dX5_heaviest_44 : decode cX5_heaviest 44 = .ok (.iaload, 1) := by decide +kernel
theorem dX5_heaviest_45 : decode cX5_heaviest 45 = .ok (.istore_n 3, 1) := by decide +kernel
theorem dX5_heaviest_46 : decode cX5_heaviest 46 = .ok (.iinc 4 1, 3) := by decide +kernel
theorem dX5_heaviest_49 : decode cX5_heaviest 49 = .ok (.goto (-41), 3) := by decide +kernel
theorem dX5_heaviest_52 : decode cX5_heaviest 52 = .ok (.iload_n 2, 1) := by decide +kernel
theorem dX5_heaviest_53 : decode cX5_heaviest 53 = .ok (.ireturn, 1) := by decide +kernel
end
section
theorem dX6_init_0 : decode cX6_init 0 = .ok (.aload_n 0, 1) := by decide +kernel
theorem dX6_init_1 : decode cX6_init 1 = .ok (.invokespecial 3, 3) := by decide +kernel
theorem dX6_init_4 : decode cX6_init 4 = .ok (.aload_n 0, 1) := by decide +kernel
theorem dX6_init_5 : decode cX6_init 5 = .ok (.new 9, 3) := by decide +kernel
theorem dX6_init_8 : decode cX6_init 8 = .ok (.dup, 1) := by decide +kernel
theorem dX6_init_9 : decode cX6_init 9 = .ok (.invokespecial 11, 3) := by decide +kernel
theorem dX6_init_12 : decode cX6_init 12 = .ok (.putfield 12, 3) := by decide +kernel
theorem dX6_init_15 : decode cX6_init 15 = .ok (.aload_n 0, 1) := by decide +kernel
theorem dX6_init_16 : decode cX6_init 16 = .ok (.iconst 2, 1) := by decide +kernel
theorem dX6_init_17 : decode cX6_init 17 = .ok (.anewarray 9, 3) := by decide +kernel
theorem dX6_init_20 : decode cX6_init 20 = .ok (.putfield 16, 3) := by decide +kernel
theorem dX6_init_23 : decode cX6_init 23 = .ok (.return_, 1) := by decide +kernel
theorem dX6_addTarget_0 : decode cX6_addTarget 0 = .ok (.aload_n 0, 1) := by decide +kernel
theorem dX6_addTarget_1 : decode cX6_addTarget 1 = .ok (.getfield 12, 3) := by decide +kernel
theorem dX6_addTarget_4 : decode cX6_addTarget 4 = .ok (.getfield 20, 3) := by decide +kernel
theorem dX6_addTarget_7 : decode cX6_addTarget 7 = .ok (.astore_n 3, 1) := by decide +kernel
theorem dX6_addTarget_8 : decode cX6_addTarget 8 = .ok (.iload_n 1, 1) := by decide +kernel
theorem dX6_addTarget_9 : decode cX6_addTarget 9 = .ok (.iconst 3, 1) := by decide +kernel
theorem dX6_addTarget_10 : decode cX6_addTarget 10 = .ok (.invokestatic 24, 3) := by decide +kernel
theorem dX6_addTarget_13 : decode cX6_addTarget 13 = .ok (.ifCond .eq 14, 3) := by decide +kernel
theorem dX6_addTarget_16 : decode cX6_addTarget 16 = .ok (.iload_n 2, 1) := by decide +kernel
theorem dX6_addTarget_17 : decode cX6_addTarget 17 = .ok (.iconst 1, 1) := by decide +kernel
theorem dX6_addTarget_18 : decode cX6_addTarget 18 = .ok (.if_icmp .lt 9, 3) := by decide +kernel
theorem dX6_addTarget_21 : decode cX6_addTarget 21 = .ok (.iload_n 2, 1) := by decide +kernel
theorem dX6_addTarget_22 : decode cX6_addTarget 22 = .ok (.bipush 100, 2) := by decide +kernel
theorem dX6_addTarget_24 : decode cX6_addTarget 24 = .ok (.if_icmp .le 6, 3) := by decide +kernel
theorem dX6_addTarget_27 : decode cX6_addTarget 27 = .ok (.bipush (-3), 2) := by decide +kernel
theorem dX6_addTarget_29 : decode cX6_addTarget 29 = .ok (.ireturn, 1) := by decide +kernel
theorem dX6_addTarget_30 : decode cX6_addTarget 30 = .ok (.aload_n 3, 1) := by decide +kernel
theorem dX6_addTarget_31 : decode cX6_addTarget 31 = .ok (.getfield 28, 3) := by decide +kernel
theorem dX6_addTarget_34 : decode cX6_addTarget 34 = .ok (.bipush 20, 2) := by decide +kernel
theorem dX6_addTarget_36 : decode cX6_addTarget 36 = .ok (.if_icmp .ge 17, 3) := by decide +kernel
theorem dX6_addTarget_39 : decode cX6_addTarget 39 = .ok (.iload_n 1, 1) := by decide +kernel
theorem dX6_addTarget_40 : decode cX6_addTarget 40 = .ok (.iconst 2, 1) := by decide +kernel
theorem dX6_addTarget_41 : decode cX6_addTarget 41 = .ok (.if_icmp .ne 15, 3) := by decide +kernel
theorem dX6_addTarget_44 : decode cX6_addTarget 44 = .ok (.aload_n 3, 1) := by decide +kernel
theorem dX6_addTarget_45 : decode cX6_addTarget 45 = .ok (.invokevirtual 34, 3) := by decide +kernel
theorem dX6_addTarget_48 : decode cX6_addTarget 48 = .ok (.bipush 10, 2) := by decide +kernel
theorem dX6_addTarget_50 : decode cX6_addTarget 50 = .ok (.if_icmp .lt 6, 3) := by decide +kernel
theorem dX6_addTarget_53 : decode cX6_addTarget 53 = .ok (.bipush (-8), 2) := by decide +kernel
theorem dX6_addTarget_55 : decode cX6_addTarget 55 = .ok (.ireturn, 1) := by decide +kernel
theorem dX6_addTarget_56 : decode cX6_addTarget 56 = .ok (.aload_n 3, 1) := by decide +kernel
theorem dX6_addTarget_57 : decode cX6_addTarget 57 = .ok (.iload_n 1, 1) := by decide +kernel
theorem dX6_addTarget_58 : decode cX6_addTarget 58 = .ok (.iload_n 2, 1) := by decide +kernel
theorem dX6_addTarget_59 : decode cX6_addTarget 59 = .ok (.invokevirtual 38, 3) := by decide +kernel
theorem dX6_addTarget_62 : decode cX6_addTarget 62 = .ok (.ireturn, 1) := by decide +kernel
theorem dX6_targetCount_0 : decode cX6_targetCount 0 = .ok (.aload_n 0, 1) := by decide +kernel
theorem dX6_targetCount_1 : decode cX6_targetCount 1 = .ok (.getfield 12, 3) := by decide +kernel
theorem dX6_targetCount_4 : decode cX6_targetCount 4 = .ok (.getfield 20, 3) := by decide +kernel
theorem dX6_targetCount_7 : decode cX6_targetCount 7 = .ok (.getfield 28, 3) := by decide +kernel
theorem dX6_targetCount_10 : decode cX6_targetCount 10 = .ok (.ireturn, 1) := by decide +kernel
theorem dX6_addDependency_0 : decode cX6_addDependency 0 = .ok (.aload_n 0, 1) := by decide +kernel
theorem dX6_addDependency_1 : decode cX6_addDependency 1 = .ok (.getfield 12, 3) := by decide +kernel
theorem dX6_addDependency_4 : decode cX6_addDependency 4 = .ok (.getfield 20, 3) := by decide +kernel
theorem dX6_addDependency_7 : decode cX6_addDependency 7 = .ok (.astore 4, 2) := by decide +kernel
theorem dX6_addDependency_9 : decode cX6_addDependency 9 = .ok (.aload 4, 2) := by decide +kernel
theorem dX6_addDependency_11 : decode cX6_addDependency 11 = .ok (.iload_n 1, 1) := by decide +kernel
theorem dX6_addDependency_12 : decode cX6_addDependency 12 = .ok (.invokevirtual 42, 3) := by decide +kernel
theorem dX6_addDependency_15 : decode cX6_addDependency 15 = .ok (.ifCond .eq 12, 3) := by decide +kernel
theorem dX6_addDependency_18 : decode cX6_addDependency 18 = .ok (.aload 4, 2) := by decide +kernel
theorem dX6_addDependency_20 : decode cX6_addDependency 20 = .ok (.iload_n 2, 1) := by decide +kernel
theorem dX6_addDependency_21 : decode cX6_addDependency 21 = .ok (.invokevirtual 42, 3) := by decide +kernel
theorem dX6_addDependency_24 : decode cX6_addDependency 24 = .ok (.ifCond .ne 5, 3) := by decide +kernel
theorem dX6_addDependency_27 : decode cX6_addDependency 27 = .ok (.iconst (-1), 1) := by decide +kernel
theorem dX6_addDependency_28 : decode cX6_addDependency 28 = .ok (.ireturn, 1) := by decide +kernel
theorem dX6_addDependency_29 : decode cX6_addDependency 29 = .ok (.iload_n 1, 1) := by decide +kernel
theorem dX6_addDependency_30 : decode cX6_addDependency 30 = .ok (.iload_n 2, 1) := by decide +kernel
theorem dX6_addDependency_31 : decode cX6_addDependency 31 = .ok (.if_icmp .ne 6, 3) := by decide +kernel
theorem dX6_addDependency_34 : decode cX6_addDependency 34 = .ok (.bipush (-4), 2) := by decide +kernel
theorem dX6_addDependency_36 : decode cX6_addDependency 36 = .ok (.ireturn, 1) := by decide +kernel
theorem dX6_addDependency_37 : decode cX6_addDependency 37 = .ok (.iload_n 3, 1) := by decide +kernel
theorem dX6_addDependency_38 : decode cX6_addDependency 38 = .ok (.iconst 4, 1) := by decide +kernel
theorem dX6_addDependency_39 : decode cX6_addDependency 39 = .ok (.invokestatic 24, 3) := by decide +kernel
theorem dX6_addDependency_42 : decode cX6_addDependency 42 = .ok (.ifCond .ne 6, 3) := by decide +kernel
theorem dX6_addDependency_45 : decode cX6_addDependency 45 = .ok (.bipush (-3), 2) := by decide +kernel
theorem dX6_addDependency_47 : decode cX6_addDependency 47 = .ok (.ireturn, 1) := by decide +kernel
theorem dX6_addDependency_48 : decode cX6_addDependency 48 = .ok (.aload 4, 2) := by decide +kernel
theorem dX6_addDependency_50 : decode cX6_addDependency 50 = .ok (.iload_n 1, 1) := by decide +kernel
theorem dX6_addDependency_51 : decode cX6_addDependency 51 = .ok (.iload_n 2, 1) := by decide +kernel
theorem dX6_addDependency_52 : decode cX6_addDependency 52 = .ok (.iload_n 3, 1) := by decide +kernel
theorem dX6_addDependency_53 : decode cX6_addDependency 53 = .ok (.invokevirtual 46, 3) := by decide +kernel
theorem dX6_addDependency_56 : decode cX6_addDependency 56 = .ok (.ifCond .ne 6, 3) := by decide +kernel
theorem dX6_addDependency_59 : decode cX6_addDependency 59 = .ok (.bipush (-5), 2) := by decide +kernel
theorem dX6_addDependency_61 : decode cX6_addDependency 61 = .ok (.ireturn, 1) := by decide +kernel
theorem dX6_addDependency_62 : decode cX6_addDependency 62 = .ok (.aload 4, 2) := by decide +kernel
theorem dX6_addDependency_64 : decode cX6_addDependency 64 = .ok (.iload_n 1, 1) := by decide +kernel
theorem dX6_addDependency_65 : decode cX6_addDependency 65 = .ok (.iload_n 2, 1) := by decide +kernel
theorem dX6_addDependency_66 : decode cX6_addDependency 66 = .ok (.invokevirtual 50, 3) := by decide +kernel
theorem dX6_addDependency_69 : decode cX6_addDependency 69 = .ok (.bipush (-10), 2) := by decide +kernel
theorem dX6_addDependency_71 : decode cX6_addDependency 71 = .ok (.if_icmp .eq 6, 3) := by decide +kernel
theorem dX6_addDependency_74 : decode cX6_addDependency 74 = .ok (.bipush (-6), 2) := by decide +kernel
theorem dX6_addDependency_76 : decode cX6_addDependency 76 = .ok (.ireturn, 1) := by decide +kernel
theorem dX6_addDependency_77 : decode cX6_addDependency 77 = .ok (.aload 4, 2) := by decide +kernel
theorem dX6_addDependency_79 : decode cX6_addDependency 79 = .ok (.iload_n 1, 1) := by decide +kernel
theorem dX6_addDependency_80 : decode cX6_addDependency 80 = .ok (.invokestatic 53, 3) := by decide +kernel
theorem dX6_addDependency_83 : decode cX6_addDependency 83 = .ok (.bipush 15, 2) := by decide +kernel
theorem dX6_addDependency_85 : decode cX6_addDependency 85 = .ok (.invokevirtual 57, 3) := by decide +kernel
theorem dX6_addDependency_88 : decode cX6_addDependency 88 = .ok (.iload_n 2, 1) := by decide +kernel
theorem dX6_addDependency_89 : decode cX6_addDependency 89 = .ok (.invokestatic 60, 3) := by decide +kernel
theorem dX6_addDependency_92 : decode cX6_addDependency 92 = .ok (.ifCond .eq 6, 3) := by decide +kernel
theorem dX6_addDependency_95 : decode cX6_addDependency 95 = .ok (.bipush (-7), 2) := by decide +kernel
theorem dX6_addDependency_97 : decode cX6_addDependency 97 = .ok (.ireturn, 1) := by decide +kernel
theorem dX6_addDependency_98 : decode cX6_addDependency 98 = .ok (.aload 4, 2) := by decide +kernel
theorem dX6_addDependency_100 : decode cX6_addDependency 100 = .ok (.getfield 63, 3) := by decide +kernel
theorem dX6_addDependency_103 : decode cX6_addDependency 103 = .ok (.bipush 60, 2) := by decide +kernel
theorem dX6_addDependency_105 : decode cX6_addDependency 105 = .ok (.if_icmp .lt 6, 3) := by decide +kernel
theorem dX6_addDependency_108 : decode cX6_addDependency 108 = .ok (.bipush (-8), 2) := by decide +kernel
theorem dX6_addDependency_110 : decode cX6_addDependency 110 = .ok (.ireturn, 1) := by decide +kernel
theorem dX6_addDependency_111 : decode cX6_addDependency 111 = .ok (.aload 4, 2) := by decide +kernel
theorem dX6_addDependency_113 : decode cX6_addDependency 113 = .ok (.iload_n 1, 1) := by decide +kernel
theorem dX6_addDependency_114 : decode cX6_addDependency 114 = .ok (.iload_n 2, 1) := by decide +kernel
theorem dX6_addDependency_115 : decode cX6_addDependency 115 = .ok (.iload_n 3, 1) := by decide +kernel
theorem dX6_addDependency_116 : decode cX6_addDependency 116 = .ok (.invokevirtual 66, 3) := by decide +kernel
theorem dX6_addDependency_119 : decode cX6_addDependency 119 = .ok (.aload 4, 2) := by decide +kernel
theorem dX6_addDependency_121 : decode cX6_addDependency 121 = .ok (.getfield 63, 3) := by decide +kernel
theorem dX6_addDependency_124 : decode cX6_addDependency 124 = .ok (.ireturn, 1) := by decide +kernel
theorem dX6_removeDependency_0 : decode cX6_removeDependency 0 = .ok (.aload_n 0, 1) := by decide +kernel
theorem dX6_removeDependency_1 : decode cX6_removeDependency 1 = .ok (.getfield 12, 3) := by decide +kernel
theorem dX6_removeDependency_4 : decode cX6_removeDependency 4 = .ok (.getfield 20, 3) := by decide +kernel
theorem dX6_removeDependency_7 : decode cX6_removeDependency 7 = .ok (.astore_n 3, 1) := by decide +kernel
theorem dX6_removeDependency_8 : decode cX6_removeDependency 8 = .ok (.aload_n 3, 1) := by decide +kernel
theorem dX6_removeDependency_9 : decode cX6_removeDependency 9 = .ok (.iload_n 1, 1) := by decide +kernel
theorem dX6_removeDependency_10 : decode cX6_removeDependency 10 = .ok (.invokevirtual 42, 3) := by decide +kernel
theorem dX6_removeDependency_13 : decode cX6_removeDependency 13 = .ok (.ifCond .eq 11, 3) := by decide +kernel
theorem dX6_removeDependency_16 : decode cX6_removeDependency 16 = .ok (.aload_n 3, 1) := by decide +kernel
theorem dX6_removeDependency_17 : decode cX6_removeDependency 17 = .ok (.iload_n 2, 1) := by decide +kernel
theorem dX6_removeDependency_18 : decode cX6_removeDependency 18 = .ok (.invokevirtual 42, 3) := by decide +kernel
theorem dX6_removeDependency_21 : decode cX6_removeDependency 21 = .ok (.ifCond .ne 5, 3) := by decide +kernel
theorem dX6_removeDependency_24 : decode cX6_removeDependency 24 = .ok (.iconst (-1), 1) := by decide +kernel
theorem dX6_removeDependency_25 : decode cX6_removeDependency 25 = .ok (.ireturn, 1) := by decide +kernel
theorem dX6_removeDependency_26 : decode cX6_removeDependency 26 = .ok (.aload_n 3, 1) := by decide +kernel
theorem dX6_removeDependency_27 : decode cX6_removeDependency 27 = .ok (.iload_n 1, 1) := by decide +kernel
theorem dX6_removeDependency_28 : decode cX6_removeDependency 28 = .ok (.iload_n 2, 1) := by decide +kernel
theorem dX6_removeDependency_29 : decode cX6_removeDependency 29 = .ok (.invokevirtual 50, 3) := by decide +kernel
theorem dX6_removeDependency_32 : decode cX6_removeDependency 32 = .ok (.istore 4, 2) := by decide +kernel
theorem dX6_removeDependency_34 : decode cX6_removeDependency 34 = .ok (.iload 4, 2) := by decide +kernel
theorem dX6_removeDependency_36 : decode cX6_removeDependency 36 = .ok (.bipush (-10), 2) := by decide +kernel
theorem dX6_removeDependency_38 : decode cX6_removeDependency 38 = .ok (.if_icmp .eq 11, 3) := by decide +kernel
theorem dX6_removeDependency_41 : decode cX6_removeDependency 41 = .ok (.aload_n 3, 1) := by decide +kernel
theorem dX6_removeDependency_42 : decode cX6_removeDependency 42 = .ok (.iload_n 1, 1) := by decide +kernel
theorem dX6_removeDependency_43 : decode cX6_removeDependency 43 = .ok (.iload_n 2, 1) := by decide +kernel
theorem dX6_removeDependency_44 : decode cX6_removeDependency 44 = .ok (.iload 4, 2) := by decide +kernel
theorem dX6_removeDependency_46 : decode cX6_removeDependency 46 = .ok (.invokevirtual 70, 3) := by decide +kernel
theorem dX6_removeDependency_49 : decode cX6_removeDependency 49 = .ok (.iload 4, 2) := by decide +kernel
theorem dX6_removeDependency_51 : decode cX6_removeDependency 51 = .ok (.ireturn, 1) := by decide +kernel
theorem dX6_addFile_0 : decode cX6_addFile 0 = .ok (.aload_n 0, 1) := by decide +kernel
theorem dX6_addFile_1 : decode cX6_addFile 1 = .ok (.getfield 12, 3) := by decide +kernel
theorem dX6_addFile_4 : decode cX6_addFile 4 = .ok (.getfield 73, 3) := by decide +kernel
theorem dX6_addFile_7 : decode cX6_addFile 7 = .ok (.astore 4, 2) := by decide +kernel
theorem dX6_addFile_9 : decode cX6_addFile 9 = .ok (.aload_n 0, 1) := by decide +kernel
theorem dX6_addFile_10 : decode cX6_addFile 10 = .ok (.getfield 12, 3) := by decide +kernel
theorem dX6_addFile_13 : decode cX6_addFile 13 = .ok (.getfield 20, 3) := by decide +kernel
theorem dX6_addFile_16 : decode cX6_addFile 16 = .ok (.iload_n 1, 1) := by decide +kernel
theorem dX6_addFile_17 : decode cX6_addFile 17 = .ok (.invokevirtual 42, 3) := by decide +kernel
theorem dX6_addFile_20 : decode cX6_addFile 20 = .ok (.ifCond .ne 5, 3) := by decide +kernel
theorem dX6_addFile_23 : decode cX6_addFile 23 = .ok (.iconst (-1), 1) := by decide +kernel
theorem dX6_addFile_24 : decode cX6_addFile 24 = .ok (.ireturn, 1) := by decide +kernel
theorem dX6_addFile_25 : decode cX6_addFile 25 = .ok (.iload_n 3, 1) := by decide +kernel
theorem dX6_addFile_26 : decode cX6_addFile 26 = .ok (.bipush 100, 2) := by decide +kernel
theorem dX6_addFile_28 : decode cX6_addFile 28 = .ok (.invokestatic 24, 3) := by decide +kernel
theorem dX6_addFile_31 : decode cX6_addFile 31 = .ok (.ifCond .ne 6, 3) := by decide +kernel
theorem dX6_addFile_34 : decode cX6_addFile 34 = .ok (.bipush (-3), 2) := by decide +kernel
theorem dX6_addFile_36 : decode cX6_addFile 36 = .ok (.ireturn, 1) := by decide +kernel
theorem dX6_addFile_37 : decode cX6_addFile 37 = .ok (.aload 4, 2) := by decide +kernel
theorem dX6_addFile_39 : decode cX6_addFile 39 = .ok (.iload_n 3, 1) := by decide +kernel
theorem dX6_addFile_40 : decode cX6_addFile 40 = .ok (.invokevirtual 77, 3) := by decide +kernel
theorem dX6_addFile_43 : decode cX6_addFile 43 = .ok (.ifCond .eq 6, 3) := by decide +kernel
theorem dX6_addFile_46 : decode cX6_addFile 46 = .ok (.bipush (-9), 2) := by decide +kernel
theorem dX6_addFile_48 : decode cX6_addFile 48 = .ok (.ireturn, 1) := by decide +kernel
theorem dX6_addFile_49 : decode cX6_addFile 49 = .ok (.aload 4, 2) := by decide +kernel
theorem dX6_addFile_51 : decode cX6_addFile 51 = .ok (.getfield 82, 3) := by decide +kernel
theorem dX6_addFile_54 : decode cX6_addFile 54 = .ok (.bipush 40, 2) := by decide +kernel
theorem dX6_addFile_56 : decode cX6_addFile 56 = .ok (.if_icmp .lt 6, 3) := by decide +kernel
theorem dX6_addFile_59 : decode cX6_addFile 59 = .ok (.bipush (-8), 2) := by decide +kernel
theorem dX6_addFile_61 : decode cX6_addFile 61 = .ok (.ireturn, 1) := by decide +kernel
theorem dX6_addFile_62 : decode cX6_addFile 62 = .ok (.aload 4, 2) := by decide +kernel
theorem dX6_addFile_64 : decode cX6_addFile 64 = .ok (.iload_n 1, 1) := by decide +kernel
theorem dX6_addFile_65 : decode cX6_addFile 65 = .ok (.iload_n 2, 1) := by decide +kernel
theorem dX6_addFile_66 : decode cX6_addFile 66 = .ok (.iload_n 3, 1) := by decide +kernel
theorem dX6_addFile_67 : decode cX6_addFile 67 = .ok (.invokevirtual 83, 3) := by decide +kernel
theorem dX6_addFile_70 : decode cX6_addFile 70 = .ok (.istore 5, 2) := by decide +kernel
theorem dX6_addFile_72 : decode cX6_addFile 72 = .ok (.aload_n 0, 1) := by decide +kernel
theorem dX6_addFile_73 : decode cX6_addFile 73 = .ok (.getfield 12, 3) := by decide +kernel
theorem dX6_addFile_76 : decode cX6_addFile 76 = .ok (.iload 5, 2) := by decide +kernel
theorem dX6_addFile_78 : decode cX6_addFile 78 = .ok (.invokevirtual 86, 3) := by decide +kernel
theorem dX6_addFile_81 : decode cX6_addFile 81 = .ok (.iload 5, 2) := by decide +kernel
theorem dX6_addFile_83 : decode cX6_addFile 83 = .ok (.ireturn, 1) := by decide +kernel
theorem dX6_edit_0 : decode cX6_edit 0 = .ok (.aload_n 0, 1) := by decide +kernel
theorem dX6_edit_1 : decode cX6_edit 1 = .ok (.getfield 12, 3) := by decide +kernel
theorem dX6_edit_4 : decode cX6_edit 4 = .ok (.getfield 73, 3) := by decide +kernel
theorem dX6_edit_7 : decode cX6_edit 7 = .ok (.iload_n 1, 1) := by decide +kernel
theorem dX6_edit_8 : decode cX6_edit 8 = .ok (.invokevirtual 90, 3) := by decide +kernel
theorem dX6_edit_11 : decode cX6_edit 11 = .ok (.ifCond .ne 6, 3) := by decide +kernel
theorem dX6_edit_14 : decode cX6_edit 14 = .ok (.bipush (-2), 2) := by decide +kernel
theorem dX6_edit_16 : decode cX6_edit 16 = .ok (.ireturn, 1) := by decide +kernel
theorem dX6_edit_17 : decode cX6_edit 17 = .ok (.aload_n 0, 1) := by decide +kernel
theorem dX6_edit_18 : decode cX6_edit 18 = .ok (.getfield 12, 3) := by decide +kernel
theorem dX6_edit_21 : decode cX6_edit 21 = .ok (.iload_n 1, 1) := by decide +kernel
theorem dX6_edit_22 : decode cX6_edit 22 = .ok (.invokevirtual 86, 3) := by decide +kernel
theorem dX6_edit_25 : decode cX6_edit 25 = .ok (.aload_n 0, 1) := by decide +kernel
theorem dX6_edit_26 : decode cX6_edit 26 = .ok (.getfield 12, 3) := by decide +kernel
theorem dX6_edit_29 : decode cX6_edit 29 = .ok (.getfield 73, 3) := by decide +kernel
theorem dX6_edit_32 : decode cX6_edit 32 = .ok (.getfield 91, 3) := by decide +kernel
theorem dX6_edit_35 : decode cX6_edit 35 = .ok (.iload_n 1, 1) := by decide +kernel
theorem dX6_edit_36 : decode cX6_edit 36 = .ok (.iaload, 1) := by decide +kernel
theorem dX6_edit_37 : decode cX6_edit 37 = .ok (.ireturn, 1) := by decide +kernel
theorem dX6_rename_0 : decode cX6_rename 0 = .ok (.aload_n 0, 1) := by decide +kernel
theorem dX6_rename_1 : decode cX6_rename 1 = .ok (.getfield 12, 3) := by decide +kernel
theorem dX6_rename_4 : decode cX6_rename 4 = .ok (.getfield 73, 3) := by decide +kernel
theorem dX6_rename_7 : decode cX6_rename 7 = .ok (.astore_n 3, 1) := by decide +kernel
theorem dX6_rename_8 : decode cX6_rename 8 = .ok (.aload_n 3, 1) := by decide +kernel
theorem dX6_rename_9 : decode cX6_rename 9 = .ok (.iload_n 1, 1) := by decide +kernel
theorem dX6_rename_10 : decode cX6_rename 10 = .ok (.invokevirtual 90, 3) := by decide +kernel
theorem dX6_rename_13 : decode cX6_rename 13 = .ok (.ifCond .ne 6, 3) := by decide +kernel
theorem dX6_rename_16 : decode cX6_rename 16 = .ok (.bipush (-2), 2) := by decide +kernel
theorem dX6_rename_18 : decode cX6_rename 18 = .ok (.ireturn, 1) := by decide +kernel
theorem dX6_rename_19 : decode cX6_rename 19 = .ok (.iload_n 2, 1) := by decide +kernel
theorem dX6_rename_20 : decode cX6_rename 20 = .ok (.bipush 100, 2) := by decide +kernel
theorem dX6_rename_22 : decode cX6_rename 22 = .ok (.invokestatic 24, 3) := by decide +kernel
theorem dX6_rename_25 : decode cX6_rename 25 = .ok (.ifCond .ne 6, 3) := by decide +kernel
theorem dX6_rename_28 : decode cX6_rename 28 = .ok (.bipush (-3), 2) := by decide +kernel
theorem dX6_rename_30 : decode cX6_rename 30 = .ok (.ireturn, 1) := by decide +kernel
theorem dX6_rename_31 : decode cX6_rename 31 = .ok (.aload_n 3, 1) := by decide +kernel
theorem dX6_rename_32 : decode cX6_rename 32 = .ok (.iload_n 2, 1) := by decide +kernel
theorem dX6_rename_33 : decode cX6_rename 33 = .ok (.invokevirtual 77, 3) := by decide +kernel
theorem dX6_rename_36 : decode cX6_rename 36 = .ok (.ifCond .eq 6, 3) := by decide +kernel
theorem dX6_rename_39 : decode cX6_rename 39 = .ok (.bipush (-9), 2) := by decide +kernel
theorem dX6_rename_41 : decode cX6_rename 41 = .ok (.ireturn, 1) := by decide +kernel
theorem dX6_rename_42 : decode cX6_rename 42 = .ok (.aload_n 3, 1) := by decide +kernel
theorem dX6_rename_43 : decode cX6_rename 43 = .ok (.getfield 95, 3) := by decide +kernel
theorem dX6_rename_46 : decode cX6_rename 46 = .ok (.iload_n 1, 1) := by decide +kernel
theorem dX6_rename_47 : decode cX6_rename 47 = .ok (.iaload, 1) := by decide +kernel
theorem dX6_rename_48 : decode cX6_rename 48 = .ok (.istore 4, 2) := by decide +kernel
theorem dX6_rename_50 : decode cX6_rename 50 = .ok (.aload_n 3, 1) := by decide +kernel
theorem dX6_rename_51 : decode cX6_rename 51 = .ok (.iload_n 1, 1) := by decide +kernel
theorem dX6_rename_52 : decode cX6_rename 52 = .ok (.iload_n 2, 1) := by decide +kernel
theorem dX6_rename_53 : decode cX6_rename 53 = .ok (.invokevirtual 98, 3) := by decide +kernel
theorem dX6_rename_56 : decode cX6_rename 56 = .ok (.aload_n 3, 1) := by decide +kernel
theorem dX6_rename_57 : decode cX6_rename 57 = .ok (.getfield 102, 3) := by decide +kernel
theorem dX6_rename_60 : decode cX6_rename 60 = .ok (.iload_n 1, 1) := by decide +kernel
theorem dX6_rename_61 : decode cX6_rename 61 = .ok (.baload, 1) := by decide +kernel
theorem dX6_rename_62 : decode cX6_rename 62 = .ok (.ifCond .eq 11, 3) := by decide +kernel
theorem dX6_rename_65 : decode cX6_rename 65 = .ok (.aload_n 0, 1) := by decide +kernel
theorem dX6_rename_66 : decode cX6_rename 66 = .ok (.getfield 12, 3) := by decide +kernel
theorem dX6_rename_69 : decode cX6_rename 69 = .ok (.iload_n 1, 1) := by decide +kernel
theorem dX6_rename_70 : decode cX6_rename 70 = .ok (.invokevirtual 86, 3) := by decide +kernel
theorem dX6_rename_73 : decode cX6_rename 73 = .ok (.iload 4, 2) := by decide +kernel
theorem dX6_rename_75 : decode cX6_rename 75 = .ok (.ireturn, 1) := by decide +kernel
theorem dX6_move_0 : decode cX6_move 0 = .ok (.aload_n 0, 1) := by decide +kernel
theorem dX6_move_1 : decode cX6_move 1 = .ok (.getfield 12, 3) := by decide +kernel
theorem dX6_move_4 : decode cX6_move 4 = .ok (.getfield 73, 3) := by decide +kernel
theorem dX6_move_7 : decode cX6_move 7 = .ok (.astore_n 3, 1) := by decide +kernel
theorem dX6_move_8 : decode cX6_move 8 = .ok (.aload_n 3, 1) := by decide +kernel
theorem dX6_move_9 : decode cX6_move 9 = .ok (.iload_n 1, 1) := by decide +kernel
theorem dX6_move_10 : decode cX6_move 10 = .ok (.invokevirtual 90, 3) := by decide +kernel
theorem dX6_move_13 : decode cX6_move 13 = .ok (.ifCond .ne 6, 3) := by decide +kernel
theorem dX6_move_16 : decode cX6_move 16 = .ok (.bipush (-2), 2) := by decide +kernel
theorem dX6_move_18 : decode cX6_move 18 = .ok (.ireturn, 1) := by decide +kernel
theorem dX6_move_19 : decode cX6_move 19 = .ok (.aload_n 0, 1) := by decide +kernel
theorem dX6_move_20 : decode cX6_move 20 = .ok (.getfield 12, 3) := by decide +kernel
theorem dX6_move_23 : decode cX6_move 23 = .ok (.getfield 20, 3) := by decide +kernel
theorem dX6_move_26 : decode cX6_move 26 = .ok (.iload_n 2, 1) := by decide +kernel
theorem dX6_move_27 : decode cX6_move 27 = .ok (.invokevirtual 42, 3) := by decide +kernel
theorem dX6_move_30 : decode cX6_move 30 = .ok (.ifCond .ne 5, 3) := by decide +kernel
theorem dX6_move_33 : decode cX6_move 33 = .ok (.iconst (-1), 1) := by decide +kernel
theorem dX6_move_34 : decode cX6_move 34 = .ok (.ireturn, 1) := by decide +kernel
theorem dX6_move_35 : decode cX6_move 35 = .ok (.aload_n 3, 1) := by decide +kernel
theorem dX6_move_36 : decode cX6_move 36 = .ok (.getfield 91, 3) := by decide +kernel
theorem dX6_move_39 : decode cX6_move 39 = .ok (.iload_n 1, 1) := by decide +kernel
theorem dX6_move_40 : decode cX6_move 40 = .ok (.iaload, 1) := by decide +kernel
theorem dX6_move_41 : decode cX6_move 41 = .ok (.istore 4, 2) := by decide +kernel
theorem dX6_move_43 : decode cX6_move 43 = .ok (.iload 4, 2) := by decide +kernel
theorem dX6_move_45 : decode cX6_move 45 = .ok (.iload_n 2, 1) := by decide +kernel
theorem dX6_move_46 : decode cX6_move 46 = .ok (.if_icmp .ne 6, 3) := by decide +kernel
theorem dX6_move_49 : decode cX6_move 49 = .ok (.bipush (-4), 2) := by decide +kernel
theorem dX6_move_51 : decode cX6_move 51 = .ok (.ireturn, 1) := by decide +kernel
theorem dX6_move_52 : decode cX6_move 52 = .ok (.aload_n 0, 1) := by decide +kernel
theorem dX6_move_53 : decode cX6_move 53 = .ok (.getfield 12, 3) := by decide +kernel
theorem dX6_move_56 : decode cX6_move 56 = .ok (.iload_n 1, 1) := by decide +kernel
theorem dX6_move_57 : decode cX6_move 57 = .ok (.invokevirtual 86, 3) := by decide +kernel
theorem dX6_move_60 : decode cX6_move 60 = .ok (.aload_n 3, 1) := by decide +kernel
theorem dX6_move_61 : decode cX6_move 61 = .ok (.getfield 91, 3) := by decide +kernel
theorem dX6_move_64 : decode cX6_move 64 = .ok (.iload_n 1, 1) := by decide +kernel
theorem dX6_move_65 : decode cX6_move 65 = .ok (.iload_n 2, 1) := by decide +kernel
theorem dX6_move_66 : decode cX6_move 66 = .ok (.iastore, 1) := by decide +kernel
theorem dX6_move_67 : decode cX6_move 67 = .ok (.aload_n 0, 1) := by decide +kernel
theorem dX6_move_68 : decode cX6_move 68 = .ok (.getfield 12, 3) := by decide +kernel
theorem dX6_move_71 : decode cX6_move 71 = .ok (.iload_n 1, 1) := by decide +kernel
theorem dX6_move_72 : decode cX6_move 72 = .ok (.invokevirtual 86, 3) := by decide +kernel
theorem dX6_move_75 : decode cX6_move 75 = .ok (.iload 4, 2) := by decide +kernel
theorem dX6_move_77 : decode cX6_move 77 = .ok (.ireturn, 1) := by decide +kernel
theorem dX6_deleteFile_0 : decode cX6_deleteFile 0 = .ok (.aload_n 0, 1) := by decide +kernel
theorem dX6_deleteFile_1 : decode cX6_deleteFile 1 = .ok (.getfield 12, 3) := by decide +kernel
theorem dX6_deleteFile_4 : decode cX6_deleteFile 4 = .ok (.getfield 73, 3) := by decide +kernel
theorem dX6_deleteFile_7 : decode cX6_deleteFile 7 = .ok (.astore_n 2, 1) := by decide +kernel
theorem dX6_deleteFile_8 : decode cX6_deleteFile 8 = .ok (.aload_n 2, 1) := by decide +kernel
theorem dX6_deleteFile_9 : decode cX6_deleteFile 9 = .ok (.iload_n 1, 1) := by decide +kernel
theorem dX6_deleteFile_10 : decode cX6_deleteFile 10 = .ok (.invokevirtual 90, 3) := by decide +kernel
theorem dX6_deleteFile_13 : decode cX6_deleteFile 13 = .ok (.ifCond .ne 6, 3) := by decide +kernel
theorem dX6_deleteFile_16 : decode cX6_deleteFile 16 = .ok (.bipush (-2), 2) := by decide +kernel
theorem dX6_deleteFile_18 : decode cX6_deleteFile 18 = .ok (.ireturn, 1) := by decide +kernel
theorem dX6_deleteFile_19 : decode cX6_deleteFile 19 = .ok (.aload_n 0, 1) := by decide +kernel
theorem dX6_deleteFile_20 : decode cX6_deleteFile 20 = .ok (.getfield 12, 3) := by decide +kernel
theorem dX6_deleteFile_23 : decode cX6_deleteFile 23 = .ok (.iload_n 1, 1) := by decide +kernel
theorem dX6_deleteFile_24 : decode cX6_deleteFile 24 = .ok (.invokevirtual 86, 3) := by decide +kernel
theorem dX6_deleteFile_27 : decode cX6_deleteFile 27 = .ok (.aload_n 2, 1) := by decide +kernel
theorem dX6_deleteFile_28 : decode cX6_deleteFile 28 = .ok (.getfield 106, 3) := by decide +kernel
theorem dX6_deleteFile_31 : decode cX6_deleteFile 31 = .ok (.iload_n 1, 1) := by decide +kernel
theorem dX6_deleteFile_32 : decode cX6_deleteFile 32 = .ok (.iconst 0, 1) := by decide +kernel
theorem dX6_deleteFile_33 : decode cX6_deleteFile 33 = .ok (.bastore, 1) := by decide +kernel
theorem dX6_deleteFile_34 : decode cX6_deleteFile 34 = .ok (.aload_n 2, 1) := by decide +kernel
theorem dX6_deleteFile_35 : decode cX6_deleteFile 35 = .ok (.getfield 95, 3) := by decide +kernel
theorem dX6_deleteFile_38 : decode cX6_deleteFile 38 = .ok (.iload_n 1, 1) := by decide +kernel
theorem dX6_deleteFile_39 : decode cX6_deleteFile 39 = .ok (.iaload, 1) := by decide +kernel
theorem dX6_deleteFile_40 : decode cX6_deleteFile 40 = .ok (.ireturn, 1) := by decide +kernel
theorem dX6_targetOf_0 : decode cX6_targetOf 0 = .ok (.aload_n 0, 1) := by decide +kernel
theorem dX6_targetOf_1 : decode cX6_targetOf 1 = .ok (.getfield 12, 3) := by decide +kernel
theorem dX6_targetOf_4 : decode cX6_targetOf 4 = .ok (.getfield 73, 3) := by decide +kernel
theorem dX6_targetOf_7 : decode cX6_targetOf 7 = .ok (.iload_n 1, 1) := by decide +kernel
theorem dX6_targetOf_8 : decode cX6_targetOf 8 = .ok (.invokevirtual 90, 3) := by decide +kernel
theorem dX6_targetOf_11 : decode cX6_targetOf 11 = .ok (.ifCond .eq 18, 3) := by decide +kernel
theorem dX6_targetOf_14 : decode cX6_targetOf 14 = .ok (.aload_n 0, 1) := by decide +kernel
theorem dX6_targetOf_15 : decode cX6_targetOf 15 = .ok (.getfield 12, 3) := by decide +kernel
theorem dX6_targetOf_18 : decode cX6_targetOf 18 = .ok (.getfield 73, 3) := by decide +kernel
theorem dX6_targetOf_21 : decode cX6_targetOf 21 = .ok (.getfield 91, 3) := by decide +kernel
theorem dX6_targetOf_24 : decode cX6_targetOf 24 = .ok (.iload_n 1, 1) := by decide +kernel
theorem dX6_targetOf_25 : decode cX6_targetOf 25 = .ok (.iaload, 1) := by decide +kernel
theorem dX6_targetOf_26 : decode cX6_targetOf 26 = .ok (.goto 5, 3) := by decide +kernel
theorem dX6_targetOf_29 : decode cX6_targetOf 29 = .ok (.bipush (-2), 2) := by decide +kernel
theorem dX6_targetOf_31 : decode cX6_targetOf 31 = .ok (.ireturn, 1) := by decide +kernel
theorem dX6_nameOf_0 : decode cX6_nameOf 0 = .ok (.aload_n 0, 1) := by decide +kernel
theorem dX6_nameOf_1 : decode cX6_nameOf 1 = .ok (.getfield 12, 3) := by decide +kernel
theorem dX6_nameOf_4 : decode cX6_nameOf 4 = .ok (.getfield 73, 3) := by decide +kernel
theorem dX6_nameOf_7 : decode cX6_nameOf 7 = .ok (.iload_n 1, 1) := by decide +kernel
theorem dX6_nameOf_8 : decode cX6_nameOf 8 = .ok (.invokevirtual 90, 3) := by decide +kernel
theorem dX6_nameOf_11 : decode cX6_nameOf 11 = .ok (.ifCond .eq 18, 3) := by decide +kernel
theorem dX6_nameOf_14 : decode cX6_nameOf 14 = .ok (.aload_n 0, 1) := by decide +kernel
theorem dX6_nameOf_15 : decode cX6_nameOf 15 = .ok (.getfield 12, 3) := by decide +kernel
theorem dX6_nameOf_18 : decode cX6_nameOf 18 = .ok (.getfield 73, 3) := by decide +kernel
theorem dX6_nameOf_21 : decode cX6_nameOf 21 = .ok (.getfield 95, 3) := by decide +kernel
theorem dX6_nameOf_24 : decode cX6_nameOf 24 = .ok (.iload_n 1, 1) := by decide +kernel
theorem dX6_nameOf_25 : decode cX6_nameOf 25 = .ok (.iaload, 1) := by decide +kernel
theorem dX6_nameOf_26 : decode cX6_nameOf 26 = .ok (.goto 5, 3) := by decide +kernel
theorem dX6_nameOf_29 : decode cX6_nameOf 29 = .ok (.bipush (-2), 2) := by decide +kernel
theorem dX6_nameOf_31 : decode cX6_nameOf 31 = .ok (.ireturn, 1) := by decide +kernel
theorem dX6_follow_0 : decode cX6_follow 0 = .ok (.iload_n 1, 1) := by decide +kernel
theorem dX6_follow_1 : decode cX6_follow 1 = .ok (.bipush 100, 2) := by decide +kernel
theorem dX6_follow_3 : decode cX6_follow 3 = .ok (.invokestatic 24, 3) := by decide +kernel
theorem dX6_follow_6 : decode cX6_follow 6 = .ok (.ifCond .ne 6, 3) := by decide +kernel
theorem dX6_follow_9 : decode cX6_follow 9 = .ok (.bipush (-3), 2) := by decide +kernel
theorem dX6_follow_11 : decode cX6_follow 11 = .ok (.ireturn, 1) := by decide +kernel
theorem dX6_follow_12 : decode cX6_follow 12 = .ok (.aload_n 0, 1) := by decide +kernel
theorem dX6_follow_13 : decode cX6_follow 13 = .ok (.getfield 12, 3) := by decide +kernel
theorem dX6_follow_16 : decode cX6_follow 16 = .ok (.getfield 73, 3) := by decide +kernel
theorem dX6_follow_19 : decode cX6_follow 19 = .ok (.getfield 109, 3) := by decide +kernel
theorem dX6_follow_22 : decode cX6_follow 22 = .ok (.iload_n 1, 1) := by decide +kernel
theorem dX6_follow_23 : decode cX6_follow 23 = .ok (.iaload, 1) := by decide +kernel
theorem dX6_follow_24 : decode cX6_follow 24 = .ok (.istore_n 2, 1) := by decide +kernel
theorem dX6_follow_25 : decode cX6_follow 25 = .ok (.aload_n 0, 1) := by decide +kernel
theorem dX6_follow_26 : decode cX6_follow 26 = .ok (.getfield 12, 3) := by decide +kernel
theorem dX6_follow_29 : decode cX6_follow 29 = .ok (.getfield 73, 3) := by decide +kernel
theorem dX6_follow_32 : decode cX6_follow 32 = .ok (.iload_n 2, 1) := by decide +kernel
theorem dX6_follow_33 : decode cX6_follow 33 = .ok (.invokevirtual 90, 3) := by decide +kernel
theorem dX6_follow_36 : decode cX6_follow 36 = .ok (.ifCond .eq 7, 3) := by decide +kernel
theorem dX6_follow_39 : decode cX6_follow 39 = .ok (.iload_n 2, 1) := by decide +kernel
theorem dX6_follow_40 : decode cX6_follow 40 = .ok (.goto 5, 3) := by decide +kernel
theorem dX6_follow_43 : decode cX6_follow 43 = .ok (.bipush (-10), 2) := by decide +kernel
theorem dX6_follow_45 : decode cX6_follow 45 = .ok (.ireturn, 1) := by decide +kernel
theorem dX6_clearChanges_0 : decode cX6_clearChanges 0 = .ok (.aload_n 0, 1) := by decide +kernel
theorem dX6_clearChanges_1 : decode cX6_clearChanges 1 = .ok (.getfield 12, 3) := by decide +kernel
theorem dX6_clearChanges_4 : decode cX6_clearChanges 4 = .ok (.getfield 112, 3) := by decide +kernel
theorem dX6_clearChanges_7 : decode cX6_clearChanges 7 = .ok (.invokestatic 116, 3) := by decide +kernel
theorem dX6_clearChanges_10 : decode cX6_clearChanges 10 = .ok (.istore_n 1, 1) := by decide +kernel
theorem dX6_clearChanges_11 : decode cX6_clearChanges 11 = .ok (.aload_n 0, 1) := by decide +kernel
theorem dX6_clearChanges_12 : decode cX6_clearChanges 12 = .ok (.getfield 12, 3) := by decide +kernel
theorem dX6_clearChanges_15 : decode cX6_clearChanges 15 = .ok (.lconst 0, 1) := by decide +kernel
theorem dX6_clearChanges_16 : decode cX6_clearChanges 16 = .ok (.putfield 112, 3) := by decide +kernel
theorem dX6_clearChanges_19 : decode cX6_clearChanges 19 = .ok (.iload_n 1, 1) := by decide +kernel
theorem dX6_clearChanges_20 : decode cX6_clearChanges 20 = .ok (.ireturn, 1) := by decide +kernel
theorem dX6_directlyChanged_0 : decode cX6_directlyChanged 0 = .ok (.iload_n 1, 1) := by decide +kernel
theorem dX6_directlyChanged_1 : decode cX6_directlyChanged 1 = .ok (.iconst 2, 1) := by decide +kernel
theorem dX6_directlyChanged_2 : decode cX6_directlyChanged 2 = .ok (.invokestatic 24, 3) := by decide +kernel
theorem dX6_directlyChanged_5 : decode cX6_directlyChanged 5 = .ok (.ifCond .eq 17, 3) := by decide +kernel
theorem dX6_directlyChanged_8 : decode cX6_directlyChanged 8 = .ok (.aload_n 0, 1) := by decide +kernel
theorem dX6_directlyChanged_9 : decode cX6_directlyChanged 9 = .ok (.getfield 12, 3) := by decide +kernel
theorem dX6_directlyChanged_12 : decode cX6_directlyChanged 12 = .ok (.getfield 112, 3) := by decide +kernel
theorem dX6_directlyChanged_15 : decode cX6_directlyChanged 15 = .ok (.iload_n 1, 1) := by decide +kernel
theorem dX6_directlyChanged_16 : decode cX6_directlyChanged 16 = .ok (.invokestatic 122, 3) := by decide +kernel
theorem dX6_directlyChanged_19 : decode cX6_directlyChanged 19 = .ok (.goto 5, 3) := by decide +kernel
theorem dX6_directlyChanged_22 : decode cX6_directlyChanged 22 = .ok (.bipush (-3), 2) := by decide +kernel
theorem dX6_directlyChanged_24 : decode cX6_directlyChanged 24 = .ok (.ireturn, 1) := by decide +kernel
theorem dX6_changed_0 : decode cX6_changed 0 = .ok (.iload_n 1, 1) := by decide +kernel
theorem dX6_changed_1 : decode cX6_changed 1 = .ok (.iconst 2, 1) := by decide +kernel
theorem dX6_changed_2 : decode cX6_changed 2 = .ok (.invokestatic 24, 3) := by decide +kernel
theorem dX6_changed_5 : decode cX6_changed 5 = .ok (.ifCond .eq 27, 3) := by decide +kernel
theorem dX6_changed_8 : decode cX6_changed 8 = .ok (.aload_n 0, 1) := by decide +kernel
theorem dX6_changed_9 : decode cX6_changed 9 = .ok (.getfield 12, 3) := by decide +kernel
theorem dX6_changed_12 : decode cX6_changed 12 = .ok (.getfield 20, 3) := by decide +kernel
theorem dX6_changed_15 : decode cX6_changed 15 = .ok (.aload_n 0, 1) := by decide +kernel
theorem dX6_changed_16 : decode cX6_changed 16 = .ok (.getfield 12, 3) := by decide +kernel
theorem dX6_changed_19 : decode cX6_changed 19 = .ok (.getfield 112, 3) := by decide +kernel
theorem dX6_changed_22 : decode cX6_changed 22 = .ok (.invokevirtual 126, 3) := by decide +kernel
theorem dX6_changed_25 : decode cX6_changed 25 = .ok (.iload_n 1, 1) := by decide +kernel
theorem dX6_changed_26 : decode cX6_changed 26 = .ok (.invokestatic 122, 3) := by decide +kernel
theorem dX6_changed_29 : decode cX6_changed 29 = .ok (.goto 5, 3) := by decide +kernel
theorem dX6_changed_32 : decode cX6_changed 32 = .ok (.bipush (-3), 2) := by decide +kernel
theorem dX6_changed_34 : decode cX6_changed 34 = .ok (.ireturn, 1) := by decide +kernel
theorem dX6_affectedTests_0 : decode cX6_affectedTests 0 = .ok (.aload_n 0, 1) := by decide +kernel
theorem dX6_affectedTests_1 : decode cX6_affectedTests 1 = .ok (.getfield 12, 3) := by decide +kernel
theorem dX6_affectedTests_4 : decode cX6_affectedTests 4 = .ok (.invokevirtual 130, 3) := by decide +kernel
theorem dX6_affectedTests_7 : decode cX6_affectedTests 7 = .ok (.ireturn, 1) := by decide +kernel
theorem dX6_chain_0 : decode cX6_chain 0 = .ok (.aload_n 0, 1) := by decide +kernel
theorem dX6_chain_1 : decode cX6_chain 1 = .ok (.getfield 12, 3) := by decide +kernel
theorem dX6_chain_4 : decode cX6_chain 4 = .ok (.getfield 20, 3) := by decide +kernel
theorem dX6_chain_7 : decode cX6_chain 7 = .ok (.iload_n 1, 1) := by decide +kernel
theorem dX6_chain_8 : decode cX6_chain 8 = .ok (.invokevirtual 42, 3) := by decide +kernel
theorem dX6_chain_11 : decode cX6_chain 11 = .ok (.ifCond .ne 5, 3) := by decide +kernel
theorem dX6_chain_14 : decode cX6_chain 14 = .ok (.iconst (-1), 1) := by decide +kernel
theorem dX6_chain_15 : decode cX6_chain 15 = .ok (.ireturn, 1) := by decide +kernel
theorem dX6_chain_16 : decode cX6_chain 16 = .ok (.iload_n 2, 1) := by decide +kernel
theorem dX6_chain_17 : decode cX6_chain 17 = .ok (.iconst 2, 1) := by decide +kernel
theorem dX6_chain_18 : decode cX6_chain 18 = .ok (.invokestatic 24, 3) := by decide +kernel
theorem dX6_chain_21 : decode cX6_chain 21 = .ok (.ifCond .ne 6, 3) := by decide +kernel
theorem dX6_chain_24 : decode cX6_chain 24 = .ok (.bipush (-3), 2) := by decide +kernel
theorem dX6_chain_26 : decode cX6_chain 26 = .ok (.ireturn, 1) := by decide +kernel
theorem dX6_chain_27 : decode cX6_chain 27 = .ok (.new 133, 3) := by decide +kernel
theorem dX6_chain_30 : decode cX6_chain 30 = .ok (.dup, 1) := by decide +kernel
theorem dX6_chain_31 : decode cX6_chain 31 = .ok (.aload_n 0, 1) := by decide +kernel
theorem dX6_chain_32 : decode cX6_chain 32 = .ok (.getfield 12, 3) := by decide +kernel
theorem dX6_chain_35 : decode cX6_chain 35 = .ok (.getfield 20, 3) := by decide +kernel
theorem dX6_chain_38 : decode cX6_chain 38 = .ok (.aload_n 0, 1) := by decide +kernel
theorem dX6_chain_39 : decode cX6_chain 39 = .ok (.getfield 12, 3) := by decide +kernel
theorem dX6_chain_42 : decode cX6_chain 42 = .ok (.getfield 112, 3) := by decide +kernel
theorem dX6_chain_45 : decode cX6_chain 45 = .ok (.iload_n 1, 1) := by decide +kernel
theorem dX6_chain_46 : decode cX6_chain 46 = .ok (.iload_n 2, 1) := by decide +kernel
theorem dX6_chain_47 : decode cX6_chain 47 = .ok (.invokestatic 135, 3) := by decide +kernel
theorem dX6_chain_50 : decode cX6_chain 50 = .ok (.invokespecial 138, 3) := by decide +kernel
theorem dX6_chain_53 : decode cX6_chain 53 = .ok (.astore 4, 2) := by decide +kernel
theorem dX6_chain_55 : decode cX6_chain 55 = .ok (.iload_n 3, 1) := by decide +kernel
theorem dX6_chain_56 : decode cX6_chain 56 = .ok (.iconst (-1), 1) := by decide +kernel
theorem dX6_chain_57 : decode cX6_chain 57 = .ok (.if_icmp .ne 17, 3) := by decide +kernel
theorem dX6_chain_60 : decode cX6_chain 60 = .ok (.aload 4, 2) := by decide +kernel
theorem dX6_chain_62 : decode cX6_chain 62 = .ok (.getfield 141, 3) := by decide +kernel
theorem dX6_chain_65 : decode cX6_chain 65 = .ok (.ifCond .le 9, 3) := by decide +kernel
theorem dX6_chain_68 : decode cX6_chain 68 = .ok (.aload 4, 2) := by decide +kernel
theorem dX6_chain_70 : decode cX6_chain 70 = .ok (.getfield 141, 3) := by decide +kernel
theorem dX6_chain_73 : decode cX6_chain 73 = .ok (.ireturn, 1) := by decide +kernel
theorem dX6_chain_74 : decode cX6_chain 74 = .ok (.iload_n 3, 1) := by decide +kernel
theorem dX6_chain_75 : decode cX6_chain 75 = .ok (.aload 4, 2) := by decide +kernel
theorem dX6_chain_77 : decode cX6_chain 77 = .ok (.getfield 141, 3) := by decide +kernel
theorem dX6_chain_80 : decode cX6_chain 80 = .ok (.invokestatic 24, 3) := by decide +kernel
theorem dX6_chain_83 : decode cX6_chain 83 = .ok (.ifCond .eq 13, 3) := by decide +kernel
theorem dX6_chain_86 : decode cX6_chain 86 = .ok (.aload 4, 2) := by decide +kernel
theorem dX6_chain_88 : decode cX6_chain 88 = .ok (.getfield 144, 3) := by decide +kernel
theorem dX6_chain_91 : decode cX6_chain 91 = .ok (.iload_n 3, 1) := by decide +kernel
theorem dX6_chain_92 : decode cX6_chain 92 = .ok (.iaload, 1) := by decide +kernel
theorem dX6_chain_93 : decode cX6_chain 93 = .ok (.goto 5, 3) := by decide +kernel
theorem dX6_chain_96 : decode cX6_chain 96 = .ok (.bipush (-10), 2) := by decide +kernel
theorem dX6_chain_98 : decode cX6_chain 98 = .ok (.ireturn, 1) := by decide +kernel
theorem dX6_impact_0 : decode cX6_impact 0 = .ok (.aload_n 0, 1) := by decide +kernel
theorem dX6_impact_1 : decode cX6_impact 1 = .ok (.getfield 12, 3) := by decide +kernel
theorem dX6_impact_4 : decode cX6_impact 4 = .ok (.getfield 20, 3) := by decide +kernel
theorem dX6_impact_7 : decode cX6_impact 7 = .ok (.iload_n 1, 1) := by decide +kernel
theorem dX6_impact_8 : decode cX6_impact 8 = .ok (.invokevirtual 42, 3) := by decide +kernel
theorem dX6_impact_11 : decode cX6_impact 11 = .ok (.ifCond .ne 5, 3) := by decide +kernel
theorem dX6_impact_14 : decode cX6_impact 14 = .ok (.iconst (-1), 1) := by decide +kernel
theorem dX6_impact_15 : decode cX6_impact 15 = .ok (.ireturn, 1) := by decide +kernel
theorem dX6_impact_16 : decode cX6_impact 16 = .ok (.iload_n 2, 1) := by decide +kernel
theorem dX6_impact_17 : decode cX6_impact 17 = .ok (.iconst 2, 1) := by decide +kernel
theorem dX6_impact_18 : decode cX6_impact 18 = .ok (.invokestatic 24, 3) := by decide +kernel
theorem dX6_impact_21 : decode cX6_impact 21 = .ok (.ifCond .ne 6, 3) := by decide +kernel
theorem dX6_impact_24 : decode cX6_impact 24 = .ok (.bipush (-3), 2) := by decide +kernel
theorem dX6_impact_26 : decode cX6_impact 26 = .ok (.ireturn, 1) := by decide +kernel
theorem dX6_impact_27 : decode cX6_impact 27 = .ok (.aload_n 0, 1) := by decide +kernel
theorem dX6_impact_28 : decode cX6_impact 28 = .ok (.getfield 12, 3) := by decide +kernel
theorem dX6_impact_31 : decode cX6_impact 31 = .ok (.getfield 20, 3) := by decide +kernel
theorem dX6_impact_34 : decode cX6_impact 34 = .ok (.iload_n 1, 1) := by decide +kernel
theorem dX6_impact_35 : decode cX6_impact 35 = .ok (.iload_n 2, 1) := by decide +kernel
theorem dX6_impact_36 : decode cX6_impact 36 = .ok (.invokestatic 135, 3) := by decide +kernel
theorem dX6_impact_39 : decode cX6_impact 39 = .ok (.invokevirtual 147, 3) := by decide +kernel
theorem dX6_impact_42 : decode cX6_impact 42 = .ok (.ireturn, 1) := by decide +kernel
theorem dX6_mostCritical_0 : decode cX6_mostCritical 0 = .ok (.iload_n 1, 1) := by decide +kernel
theorem dX6_mostCritical_1 : decode cX6_mostCritical 1 = .ok (.iconst 2, 1) := by decide +kernel
theorem dX6_mostCritical_2 : decode cX6_mostCritical 2 = .ok (.invokestatic 24, 3) := by decide +kernel
theorem dX6_mostCritical_5 : decode cX6_mostCritical 5 = .ok (.ifCond .ne 6, 3) := by decide +kernel
theorem dX6_mostCritical_8 : decode cX6_mostCritical 8 = .ok (.bipush (-3), 2) := by decide +kernel
theorem dX6_mostCritical_10 : decode cX6_mostCritical 10 = .ok (.ireturn, 1) := by decide +kernel
theorem dX6_mostCritical_11 : decode cX6_mostCritical 11 = .ok (.bipush (-10), 2) := by decide +kernel
theorem dX6_mostCritical_13 : decode cX6_mostCritical 13 = .ok (.istore_n 2, 1) := by decide +kernel
theorem dX6_mostCritical_14 : decode cX6_mostCritical 14 = .ok (.iconst 0, 1) := by decide +kernel
theorem dX6_mostCritical_15 : decode cX6_mostCritical 15 = .ok (.istore_n 3, 1) := by decide +kernel
theorem dX6_mostCritical_16 : decode cX6_mostCritical 16 = .ok (.iconst 0, 1) := by decide +kernel
theorem dX6_mostCritical_17 : decode cX6_mostCritical 17 = .ok (.istore 4, 2) := by decide +kernel
theorem dX6_mostCritical_19 : decode cX6_mostCritical 19 = .ok (.iload 4, 2) := by decide +kernel
theorem dX6_mostCritical_21 : decode cX6_mostCritical 21 = .ok (.aload_n 0, 1) := by decide +kernel
theorem dX6_mostCritical_22 : decode cX6_mostCritical 22 = .ok (.getfield 12, 3) := by decide +kernel
theorem dX6_mostCritical_25 : decode cX6_mostCritical 25 = .ok (.getfield 20, 3) := by decide +kernel
theorem dX6_mostCritical_28 : decode cX6_mostCritical 28 = .ok (.getfield 28, 3) := by decide +kernel
theorem dX6_mostCritical_31 : decode cX6_mostCritical 31 = .ok (.if_icmp .ge 39, 3) := by decide +kernel
theorem dX6_mostCritical_34 : decode cX6_mostCritical 34 = .ok (.aload_n 0, 1) := by decide +kernel
theorem dX6_mostCritical_35 : decode cX6_mostCritical 35 = .ok (.getfield 12, 3) := by decide +kernel
theorem dX6_mostCritical_38 : decode cX6_mostCritical 38 = .ok (.getfield 20, 3) := by decide +kernel
theorem dX6_mostCritical_41 : decode cX6_mostCritical 41 = .ok (.iload 4, 2) := by decide +kernel
theorem dX6_mostCritical_43 : decode cX6_mostCritical 43 = .ok (.iload_n 1, 1) := by decide +kernel
theorem dX6_mostCritical_44 : decode cX6_mostCritical 44 = .ok (.invokestatic 135, 3) := by decide +kernel
theorem dX6_mostCritical_47 : decode cX6_mostCritical 47 = .ok (.invokevirtual 147, 3) := by decide +kernel
theorem dX6_mostCritical_50 : decode cX6_mostCritical 50 = .ok (.istore 5, 2) := by decide +kernel
theorem dX6_mostCritical_52 : decode cX6_mostCritical 52 = .ok (.iload 5, 2) := by decide +kernel
theorem dX6_mostCritical_54 : decode cX6_mostCritical 54 = .ok (.iload_n 3, 1) := by decide +kernel
theorem dX6_mostCritical_55 : decode cX6_mostCritical 55 = .ok (.if_icmp .le 9, 3) := by decide +kernel
theorem dX6_mostCritical_58 : decode cX6_mostCritical 58 = .ok (.iload 4, 2) := by decide +kernel
theorem dX6_mostCritical_60 : decode cX6_mostCritical 60 = .ok (.istore_n 2, 1) := by decide +kernel
theorem dX6_mostCritical_61 : decode cX6_mostCritical 61 = .ok (.iload 5, 2) := by decide +kernel
theorem dX6_mostCritical_63 : decode cX6_mostCritical 63 = .ok (.istore_n 3, 1) := by decide +kernel
theorem dX6_mostCritical_64 : decode cX6_mostCritical 64 = .ok (.iinc 4 1, 3) := by decide +kernel
theorem dX6_mostCritical_67 : decode cX6_mostCritical 67 = .ok (.goto (-48), 3) := by decide +kernel
theorem dX6_mostCritical_70 : decode cX6_mostCritical 70 = .ok (.iload_n 2, 1) := by decide +kernel
theorem dX6_mostCritical_71 : decode cX6_mostCritical 71 = .ok (.ireturn, 1) := by decide +kernel
theorem dX6_rebuildOrder_0 : decode cX6_rebuildOrder 0 = .ok (.new 150, 3) := by decide +kernel
theorem dX6_rebuildOrder_3 : decode cX6_rebuildOrder 3 = .ok (.dup, 1) := by decide +kernel
theorem dX6_rebuildOrder_4 : decode cX6_rebuildOrder 4 = .ok (.aload_n 0, 1) := by decide +kernel
theorem dX6_rebuildOrder_5 : decode cX6_rebuildOrder 5 = .ok (.getfield 12, 3) := by decide +kernel
theorem dX6_rebuildOrder_8 : decode cX6_rebuildOrder 8 = .ok (.getfield 20, 3) := by decide +kernel
theorem dX6_rebuildOrder_11 : decode cX6_rebuildOrder 11 = .ok (.aload_n 0, 1) := by decide +kernel
theorem dX6_rebuildOrder_12 : decode cX6_rebuildOrder 12 = .ok (.getfield 12, 3) := by decide +kernel
theorem dX6_rebuildOrder_15 : decode cX6_rebuildOrder 15 = .ok (.invokevirtual 152, 3) := by decide +kernel
theorem dX6_rebuildOrder_18 : decode cX6_rebuildOrder 18 = .ok (.invokespecial 155, 3) := by decide +kernel
theorem dX6_rebuildOrder_21 : decode cX6_rebuildOrder 21 = .ok (.astore_n 2, 1) := by decide +kernel
theorem dX6_rebuildOrder_22 : decode cX6_rebuildOrder 22 = .ok (.iload_n 1, 1) := by decide +kernel
theorem dX6_rebuildOrder_23 : decode cX6_rebuildOrder 23 = .ok (.iconst (-1), 1) := by decide +kernel
theorem dX6_rebuildOrder_24 : decode cX6_rebuildOrder 24 = .ok (.if_icmp .ne 8, 3) := by decide +kernel
theorem dX6_rebuildOrder_27 : decode cX6_rebuildOrder 27 = .ok (.aload_n 2, 1) := by decide +kernel
theorem dX6_rebuildOrder_28 : decode cX6_rebuildOrder 28 = .ok (.getfield 158, 3) := by decide +kernel
theorem dX6_rebuildOrder_31 : decode cX6_rebuildOrder 31 = .ok (.ireturn, 1) := by decide +kernel
theorem dX6_rebuildOrder_32 : decode cX6_rebuildOrder 32 = .ok (.iload_n 1, 1) := by decide +kernel
theorem dX6_rebuildOrder_33 : decode cX6_rebuildOrder 33 = .ok (.aload_n 2, 1) := by decide +kernel
theorem dX6_rebuildOrder_34 : decode cX6_rebuildOrder 34 = .ok (.getfield 158, 3) := by decide +kernel
theorem dX6_rebuildOrder_37 : decode cX6_rebuildOrder 37 = .ok (.invokestatic 24, 3) := by decide +kernel
theorem dX6_rebuildOrder_40 : decode cX6_rebuildOrder 40 = .ok (.ifCond .eq 12, 3) := by decide +kernel
theorem dX6_rebuildOrder_43 : decode cX6_rebuildOrder 43 = .ok (.aload_n 2, 1) := by decide +kernel
theorem dX6_rebuildOrder_44 : decode cX6_rebuildOrder 44 = .ok (.getfield 159, 3) := by decide +kernel
theorem dX6_rebuildOrder_47 : decode cX6_rebuildOrder 47 = .ok (.iload_n 1, 1) := by decide +kernel
theorem dX6_rebuildOrder_48 : decode cX6_rebuildOrder 48 = .ok (.iaload, 1) := by decide +kernel
theorem dX6_rebuildOrder_49 : decode cX6_rebuildOrder 49 = .ok (.goto 5, 3) := by decide +kernel
theorem dX6_rebuildOrder_52 : decode cX6_rebuildOrder 52 = .ok (.bipush (-10), 2) := by decide +kernel
theorem dX6_rebuildOrder_54 : decode cX6_rebuildOrder 54 = .ok (.ireturn, 1) := by decide +kernel
theorem dX6_rebuildTime_0 : decode cX6_rebuildTime 0 = .ok (.new 150, 3) := by decide +kernel
theorem dX6_rebuildTime_3 : decode cX6_rebuildTime 3 = .ok (.dup, 1) := by decide +kernel
theorem dX6_rebuildTime_4 : decode cX6_rebuildTime 4 = .ok (.aload_n 0, 1) := by decide +kernel
theorem dX6_rebuildTime_5 : decode cX6_rebuildTime 5 = .ok (.getfield 12, 3) := by decide +kernel
theorem dX6_rebuildTime_8 : decode cX6_rebuildTime 8 = .ok (.getfield 20, 3) := by decide +kernel
theorem dX6_rebuildTime_11 : decode cX6_rebuildTime 11 = .ok (.aload_n 0, 1) := by decide +kernel
theorem dX6_rebuildTime_12 : decode cX6_rebuildTime 12 = .ok (.getfield 12, 3) := by decide +kernel
theorem dX6_rebuildTime_15 : decode cX6_rebuildTime 15 = .ok (.invokevirtual 152, 3) := by decide +kernel
theorem dX6_rebuildTime_18 : decode cX6_rebuildTime 18 = .ok (.invokespecial 155, 3) := by decide +kernel
theorem dX6_rebuildTime_21 : decode cX6_rebuildTime 21 = .ok (.invokevirtual 162, 3) := by decide +kernel
theorem dX6_rebuildTime_24 : decode cX6_rebuildTime 24 = .ok (.ireturn, 1) := by decide +kernel
theorem dX6_shardOf_0 : decode cX6_shardOf 0 = .ok (.aload_n 0, 1) := by decide +kernel
theorem dX6_shardOf_1 : decode cX6_shardOf 1 = .ok (.getfield 12, 3) := by decide +kernel
theorem dX6_shardOf_4 : decode cX6_shardOf 4 = .ok (.getfield 20, 3) := by decide +kernel
theorem dX6_shardOf_7 : decode cX6_shardOf 7 = .ok (.iload_n 1, 1) := by decide +kernel
theorem dX6_shardOf_8 : decode cX6_shardOf 8 = .ok (.invokevirtual 42, 3) := by decide +kernel
theorem dX6_shardOf_11 : decode cX6_shardOf 11 = .ok (.ifCond .ne 5, 3) := by decide +kernel
theorem dX6_shardOf_14 : decode cX6_shardOf 14 = .ok (.iconst (-1), 1) := by decide +kernel
theorem dX6_shardOf_15 : decode cX6_shardOf 15 = .ok (.ireturn, 1) := by decide +kernel
theorem dX6_shardOf_16 : decode cX6_shardOf 16 = .ok (.iload_n 2, 1) := by decide +kernel
theorem dX6_shardOf_17 : decode cX6_shardOf 17 = .ok (.invokestatic 165, 3) := by decide +kernel
theorem dX6_shardOf_20 : decode cX6_shardOf 20 = .ok (.ifCond .ne 6, 3) := by decide +kernel
theorem dX6_shardOf_23 : decode cX6_shardOf 23 = .ok (.bipush (-3), 2) := by decide +kernel
theorem dX6_shardOf_25 : decode cX6_shardOf 25 = .ok (.ireturn, 1) := by decide +kernel
theorem dX6_shardOf_26 : decode cX6_shardOf 26 = .ok (.aload_n 0, 1) := by decide +kernel
theorem dX6_shardOf_27 : decode cX6_shardOf 27 = .ok (.getfield 12, 3) := by decide +kernel
theorem dX6_shardOf_30 : decode cX6_shardOf 30 = .ok (.invokevirtual 130, 3) := by decide +kernel
theorem dX6_shardOf_33 : decode cX6_shardOf 33 = .ok (.istore_n 3, 1) := by decide +kernel
theorem dX6_shardOf_34 : decode cX6_shardOf 34 = .ok (.iload_n 3, 1) := by decide +kernel
theorem dX6_shardOf_35 : decode cX6_shardOf 35 = .ok (.iload_n 1, 1) := by decide +kernel
theorem dX6_shardOf_36 : decode cX6_shardOf 36 = .ok (.invokestatic 60, 3) := by decide +kernel
theorem dX6_shardOf_39 : decode cX6_shardOf 39 = .ok (.ifCond .eq 27, 3) := by decide +kernel
theorem dX6_shardOf_42 : decode cX6_shardOf 42 = .ok (.new 168, 3) := by decide +kernel
theorem dX6_shardOf_45 : decode cX6_shardOf 45 = .ok (.dup, 1) := by decide +kernel
theorem dX6_shardOf_46 : decode cX6_shardOf 46 = .ok (.aload_n 0, 1) := by decide +kernel
theorem dX6_shardOf_47 : decode cX6_shardOf 47 = .ok (.getfield 12, 3) := by decide +kernel
theorem dX6_shardOf_50 : decode cX6_shardOf 50 = .ok (.getfield 20, 3) := by decide +kernel
theorem dX6_shardOf_53 : decode cX6_shardOf 53 = .ok (.iload_n 3, 1) := by decide +kernel
theorem dX6_shardOf_54 : decode cX6_shardOf 54 = .ok (.iload_n 2, 1) := by decide +kernel
theorem dX6_shardOf_55 : decode cX6_shardOf 55 = .ok (.invokespecial 170, 3) := by decide +kernel
theorem dX6_shardOf_58 : decode cX6_shardOf 58 = .ok (.getfield 173, 3) := by decide +kernel
theorem dX6_shardOf_61 : decode cX6_shardOf 61 = .ok (.iload_n 1, 1) := by decide +kernel
theorem dX6_shardOf_62 : decode cX6_shardOf 62 = .ok (.iaload, 1) := by decide +kernel
theorem dX6_shardOf_63 : decode cX6_shardOf 63 = .ok (.goto 5, 3) := by decide +kernel
theorem dX6_shardOf_66 : decode cX6_shardOf 66 = .ok (.bipush (-10), 2) := by decide +kernel
theorem dX6_shardOf_68 : decode cX6_shardOf 68 = .ok (.ireturn, 1) := by decide +kernel
theorem dX6_shardLoad_0 : decode cX6_shardLoad 0 = .ok (.iload_n 1, 1) := by decide +kernel
theorem dX6_shardLoad_1 : decode cX6_shardLoad 1 = .ok (.invokestatic 165, 3) := by decide +kernel
theorem dX6_shardLoad_4 : decode cX6_shardLoad 4 = .ok (.ifCond .eq 11, 3) := by decide +kernel
theorem dX6_shardLoad_7 : decode cX6_shardLoad 7 = .ok (.iload_n 2, 1) := by decide +kernel
theorem dX6_shardLoad_8 : decode cX6_shardLoad 8 = .ok (.iload_n 1, 1) := by decide +kernel
theorem dX6_shardLoad_9 : decode cX6_shardLoad 9 = .ok (.invokestatic 24, 3) := by decide +kernel
theorem dX6_shardLoad_12 : decode cX6_shardLoad 12 = .ok (.ifCond .ne 6, 3) := by decide +kernel
theorem dX6_shardLoad_15 : decode cX6_shardLoad 15 = .ok (.bipush (-3), 2) := by decide +kernel
theorem dX6_shardLoad_17 : decode cX6_shardLoad 17 = .ok (.ireturn, 1) := by decide +kernel
theorem dX6_shardLoad_18 : decode cX6_shardLoad 18 = .ok (.new 168, 3) := by decide +kernel
theorem dX6_shardLoad_21 : decode cX6_shardLoad 21 = .ok (.dup, 1) := by decide +kernel
theorem dX6_shardLoad_22 : decode cX6_shardLoad 22 = .ok (.aload_n 0, 1) := by decide +kernel
theorem dX6_shardLoad_23 : decode cX6_shardLoad 23 = .ok (.getfield 12, 3) := by decide +kernel
theorem dX6_shardLoad_26 : decode cX6_shardLoad 26 = .ok (.getfield 20, 3) := by decide +kernel
theorem dX6_shardLoad_29 : decode cX6_shardLoad 29 = .ok (.aload_n 0, 1) := by decide +kernel
theorem dX6_shardLoad_30 : decode cX6_shardLoad 30 = .ok (.getfield 12, 3) := by decide +kernel
theorem dX6_shardLoad_33 : decode cX6_shardLoad 33 = .ok (.invokevirtual 130, 3) := by decide +kernel
theorem dX6_shardLoad_36 : decode cX6_shardLoad 36 = .ok (.iload_n 1, 1) := by decide +kernel
theorem dX6_shardLoad_37 : decode cX6_shardLoad 37 = .ok (.invokespecial 170, 3) := by decide +kernel
theorem dX6_shardLoad_40 : decode cX6_shardLoad 40 = .ok (.getfield 176, 3) := by decide +kernel
theorem dX6_shardLoad_43 : decode cX6_shardLoad 43 = .ok (.iload_n 2, 1) := by decide +kernel
theorem dX6_shardLoad_44 : decode cX6_shardLoad 44 = .ok (.iaload, 1) := by decide +kernel
theorem dX6_shardLoad_45 : decode cX6_shardLoad 45 = .ok (.ireturn, 1) := by decide +kernel
theorem dX6_bestGreatestLoad_0 : decode cX6_bestGreatestLoad 0 = .ok (.iload_n 1, 1) := by decide +kernel
theorem dX6_bestGreatestLoad_1 : decode cX6_bestGreatestLoad 1 = .ok (.invokestatic 165, 3) := by decide +kernel
theorem dX6_bestGreatestLoad_4 : decode cX6_bestGreatestLoad 4 = .ok (.ifCond .ne 6, 3) := by decide +kernel
theorem dX6_bestGreatestLoad_7 : decode cX6_bestGreatestLoad 7 = .ok (.bipush (-3), 2) := by decide +kernel
theorem dX6_bestGreatestLoad_9 : decode cX6_bestGreatestLoad 9 = .ok (.ireturn, 1) := by decide +kernel
theorem dX6_bestGreatestLoad_10 : decode cX6_bestGreatestLoad 10 = .ok (.new 168, 3) := by decide +kernel
theorem dX6_bestGreatestLoad_13 : decode cX6_bestGreatestLoad 13 = .ok (.dup, 1) := by decide +kernel
theorem dX6_bestGreatestLoad_14 : decode cX6_bestGreatestLoad 14 = .ok (.aload_n 0, 1) := by decide +kernel
theorem dX6_bestGreatestLoad_15 : decode cX6_bestGreatestLoad 15 = .ok (.getfield 12, 3) := by decide +kernel
theorem dX6_bestGreatestLoad_18 : decode cX6_bestGreatestLoad 18 = .ok (.getfield 20, 3) := by decide +kernel
theorem dX6_bestGreatestLoad_21 : decode cX6_bestGreatestLoad 21 = .ok (.aload_n 0, 1) := by decide +kernel
theorem dX6_bestGreatestLoad_22 : decode cX6_bestGreatestLoad 22 = .ok (.getfield 12, 3) := by decide +kernel
theorem dX6_bestGreatestLoad_25 : decode cX6_bestGreatestLoad 25 = .ok (.invokevirtual 130, 3) := by decide +kernel
theorem dX6_bestGreatestLoad_28 : decode cX6_bestGreatestLoad 28 = .ok (.iload_n 1, 1) := by decide +kernel
theorem dX6_bestGreatestLoad_29 : decode cX6_bestGreatestLoad 29 = .ok (.invokespecial 170, 3) := by decide +kernel
theorem dX6_bestGreatestLoad_32 : decode cX6_bestGreatestLoad 32 = .ok (.invokevirtual 179, 3) := by decide +kernel
theorem dX6_bestGreatestLoad_35 : decode cX6_bestGreatestLoad 35 = .ok (.ireturn, 1) := by decide +kernel
theorem dX6_save_0 : decode cX6_save 0 = .ok (.iload_n 1, 1) := by decide +kernel
theorem dX6_save_1 : decode cX6_save 1 = .ok (.iconst 2, 1) := by decide +kernel
theorem dX6_save_2 : decode cX6_save 2 = .ok (.invokestatic 24, 3) := by decide +kernel
theorem dX6_save_5 : decode cX6_save 5 = .ok (.ifCond .ne 6, 3) := by decide +kernel
theorem dX6_save_8 : decode cX6_save 8 = .ok (.bipush (-3), 2) := by decide +kernel
theorem dX6_save_10 : decode cX6_save 10 = .ok (.ireturn, 1) := by decide +kernel
theorem dX6_save_11 : decode cX6_save 11 = .ok (.aload_n 0, 1) := by decide +kernel
theorem dX6_save_12 : decode cX6_save 12 = .ok (.getfield 16, 3) := by decide +kernel
theorem dX6_save_15 : decode cX6_save 15 = .ok (.iload_n 1, 1) := by decide +kernel
theorem dX6_save_16 : decode cX6_save 16 = .ok (.aaload, 1) := by decide +kernel
theorem dX6_save_17 : decode cX6_save 17 = .ok (.astore_n 2, 1) := by decide +kernel
theorem dX6_save_18 : decode cX6_save 18 = .ok (.aload_n 2, 1) := by decide +kernel
theorem dX6_save_19 : decode cX6_save 19 = .ok (.ifnonnull 18, 3) := by decide +kernel
theorem dX6_save_22 : decode cX6_save 22 = .ok (.new 9, 3) := by decide +kernel
theorem dX6_save_25 : decode cX6_save 25 = .ok (.dup, 1) := by decide +kernel
theorem dX6_save_26 : decode cX6_save 26 = .ok (.invokespecial 11, 3) := by decide +kernel
theorem dX6_save_29 : decode cX6_save 29 = .ok (.astore_n 2, 1) := by decide +kernel
theorem dX6_save_30 : decode cX6_save 30 = .ok (.aload_n 0, 1) := by decide +kernel
theorem dX6_save_31 : decode cX6_save 31 = .ok (.getfield 16, 3) := by decide +kernel
theorem dX6_save_34 : decode cX6_save 34 = .ok (.iload_n 1, 1) := by decide +kernel
theorem dX6_save_35 : decode cX6_save 35 = .ok (.aload_n 2, 1) := by decide +kernel
theorem dX6_save_36 : decode cX6_save 36 = .ok (.aastore, 1) := by decide +kernel
theorem dX6_save_37 : decode cX6_save 37 = .ok (.aload_n 2, 1) := by decide +kernel
theorem dX6_save_38 : decode cX6_save 38 = .ok (.aload_n 0, 1) := by decide +kernel
theorem dX6_save_39 : decode cX6_save 39 = .ok (.getfield 12, 3) := by decide +kernel
theorem dX6_save_42 : decode cX6_save 42 = .ok (.invokevirtual 182, 3) := by decide +kernel
theorem dX6_save_45 : decode cX6_save 45 = .ok (.aload_n 0, 1) := by decide +kernel
theorem dX6_save_46 : decode cX6_save 46 = .ok (.getfield 12, 3) := by decide +kernel
theorem dX6_save_49 : decode cX6_save 49 = .ok (.getfield 20, 3) := by decide +kernel
theorem dX6_save_52 : decode cX6_save 52 = .ok (.getfield 28, 3) := by decide +kernel
theorem dX6_save_55 : decode cX6_save 55 = .ok (.ireturn, 1) := by decide +kernel
theorem dX6_restore_0 : decode cX6_restore 0 = .ok (.iload_n 1, 1) := by decide +kernel
theorem dX6_restore_1 : decode cX6_restore 1 = .ok (.iconst 2, 1) := by decide +kernel
theorem dX6_restore_2 : decode cX6_restore 2 = .ok (.invokestatic 24, 3) := by decide +kernel
theorem dX6_restore_5 : decode cX6_restore 5 = .ok (.ifCond .ne 6, 3) := by decide +kernel
theorem dX6_restore_8 : decode cX6_restore 8 = .ok (.bipush (-3), 2) := by decide +kernel
theorem dX6_restore_10 : decode cX6_restore 10 = .ok (.ireturn, 1) := by decide +kernel
theorem dX6_restore_11 : decode cX6_restore 11 = .ok (.aload_n 0, 1) := by decide +kernel
theorem dX6_restore_12 : decode cX6_restore 12 = .ok (.getfield 16, 3) := by decide +kernel
theorem dX6_restore_15 : decode cX6_restore 15 = .ok (.iload_n 1, 1) := by decide +kernel
theorem dX6_restore_16 : decode cX6_restore 16 = .ok (.aaload, 1) := by decide +kernel
theorem dX6_restore_17 : decode cX6_restore 17 = .ok (.astore_n 2, 1) := by decide +kernel
theorem dX6_restore_18 : decode cX6_restore 18 = .ok (.aload_n 2, 1) := by decide +kernel
theorem dX6_restore_19 : decode cX6_restore 19 = .ok (.ifnonnull 6, 3) := by decide +kernel
theorem dX6_restore_22 : decode cX6_restore 22 = .ok (.bipush (-11), 2) := by decide +kernel
theorem dX6_restore_24 : decode cX6_restore 24 = .ok (.ireturn, 1) := by decide +kernel
theorem dX6_restore_25 : decode cX6_restore 25 = .ok (.aload_n 0, 1) := by decide +kernel
theorem dX6_restore_26 : decode cX6_restore 26 = .ok (.getfield 12, 3) := by decide +kernel
theorem dX6_restore_29 : decode cX6_restore 29 = .ok (.aload_n 2, 1) := by decide +kernel
theorem dX6_restore_30 : decode cX6_restore 30 = .ok (.invokevirtual 182, 3) := by decide +kernel
theorem dX6_restore_33 : decode cX6_restore 33 = .ok (.aload_n 0, 1) := by decide +kernel
theorem dX6_restore_34 : decode cX6_restore 34 = .ok (.getfield 12, 3) := by decide +kernel
theorem dX6_restore_37 : decode cX6_restore 37 = .ok (.getfield 20, 3) := by decide +kernel
theorem dX6_restore_40 : decode cX6_restore 40 = .ok (.getfield 28, 3) := by decide +kernel
theorem dX6_restore_43 : decode cX6_restore 43 = .ok (.ireturn, 1) := by decide +kernel
theorem dX6_inRange_0 : decode cX6_inRange 0 = .ok (.iload_n 0, 1) := by decide +kernel
theorem dX6_inRange_1 : decode cX6_inRange 1 = .ok (.ifCond .lt 12, 3) := by decide +kernel
theorem dX6_inRange_4 : decode cX6_inRange 4 = .ok (.iload_n 0, 1) := by decide +kernel
theorem dX6_inRange_5 : decode cX6_inRange 5 = .ok (.iload_n 1, 1) := by decide +kernel
theorem dX6_inRange_6 : decode cX6_inRange 6 = .ok (.if_icmp .ge 7, 3) := by decide +kernel
theorem dX6_inRange_9 : decode cX6_inRange 9 = .ok (.iconst 1, 1) := by decide +kernel
theorem dX6_inRange_10 : decode cX6_inRange 10 = .ok (.goto 4, 3) := by decide +kernel
theorem dX6_inRange_13 : decode cX6_inRange 13 = .ok (.iconst 0, 1) := by decide +kernel
theorem dX6_inRange_14 : decode cX6_inRange 14 = .ok (.ireturn, 1) := by decide +kernel
theorem dX6_isShardCount_0 : decode cX6_isShardCount 0 = .ok (.iload_n 0, 1) := by decide +kernel
theorem dX6_isShardCount_1 : decode cX6_isShardCount 1 = .ok (.iconst 1, 1) := by decide +kernel
theorem dX6_isShardCount_2 : decode cX6_isShardCount 2 = .ok (.if_icmp .lt 12, 3) := by decide +kernel
theorem dX6_isShardCount_5 : decode cX6_isShardCount 5 = .ok (.iload_n 0, 1) := by decide +kernel
theorem dX6_isShardCount_6 : decode cX6_isShardCount 6 = .ok (.iconst 4, 1) := by decide +kernel
theorem dX6_isShardCount_7 : decode cX6_isShardCount 7 = .ok (.if_icmp .gt 7, 3) := by decide +kernel
theorem dX6_isShardCount_10 : decode cX6_isShardCount 10 = .ok (.iconst 1, 1) := by decide +kernel
theorem dX6_isShardCount_11 : decode cX6_isShardCount 11 = .ok (.goto 4, 3) := by decide +kernel
theorem dX6_isShardCount_14 : decode cX6_isShardCount 14 = .ok (.iconst 0, 1) := by decide +kernel
theorem dX6_isShardCount_15 : decode cX6_isShardCount 15 = .ok (.ireturn, 1) := by decide +kernel
theorem dX6_setOf_0 : decode cX6_setOf 0 = .ok (.iconst 1, 1) := by decide +kernel
theorem dX6_setOf_1 : decode cX6_setOf 1 = .ok (.iload_n 0, 1) := by decide +kernel
theorem dX6_setOf_2 : decode cX6_setOf 2 = .ok (.ishl, 1) := by decide +kernel
theorem dX6_setOf_3 : decode cX6_setOf 3 = .ok (.ireturn, 1) := by decide +kernel
theorem dX6_contains_0 : decode cX6_contains 0 = .ok (.iload_n 0, 1) := by decide +kernel
theorem dX6_contains_1 : decode cX6_contains 1 = .ok (.iload_n 1, 1) := by decide +kernel
theorem dX6_contains_2 : decode cX6_contains 2 = .ok (.iushr, 1) := by decide +kernel
theorem dX6_contains_3 : decode cX6_contains 3 = .ok (.iconst 1, 1) := by decide +kernel
theorem dX6_contains_4 : decode cX6_contains 4 = .ok (.iand, 1) := by decide +kernel
theorem dX6_contains_5 : decode cX6_contains 5 = .ok (.ifCond .eq 7, 3) := by decide +kernel
theorem dX6_contains_8 : decode cX6_contains 8 = .ok (.iconst 1, 1) := by decide +kernel
theorem dX6_contains_9 : decode cX6_contains 9 = .ok (.goto 4, 3) := by decide +kernel
theorem dX6_contains_12 : decode cX6_contains 12 = .ok (.iconst 0, 1) := by decide +kernel
theorem dX6_contains_13 : decode cX6_contains 13 = .ok (.ireturn, 1) := by decide +kernel
theorem dX6_smallestTarget_0 : decode cX6_smallestTarget 0 = .ok (.iconst 0, 1) := by decide +kernel
theorem dX6_smallestTarget_1 : decode cX6_smallestTarget 1 = .ok (.istore_n 1, 1) := by decide +kernel
theorem dX6_smallestTarget_2 : decode cX6_smallestTarget 2 = .ok (.iload_n 1, 1) := by decide +kernel
theorem dX6_smallestTarget_3 : decode cX6_smallestTarget 3 = .ok (.bipush 20, 2) := by decide +kernel
theorem dX6_smallestTarget_5 : decode cX6_smallestTarget 5 = .ok (.if_icmp .ge 19, 3) := by decide +kernel
theorem dX6_smallestTarget_8 : decode cX6_smallestTarget 8 = .ok (.iload_n 0, 1) := by decide +kernel
theorem dX6_smallestTarget_9 : decode cX6_smallestTarget 9 = .ok (.iload_n 1, 1) := by decide +kernel
theorem dX6_smallestTarget_10 : decode cX6_smallestTarget 10 = .ok (.invokestatic 60, 3) := by decide +kernel
theorem dX6_smallestTarget_13 : decode cX6_smallestTarget 13 = .ok (.ifCond .eq 5, 3) := by decide +kernel
theorem dX6_smallestTarget_16 : decode cX6_smallestTarget 16 = .ok (.iload_n 1, 1) := by decide +kernel
theorem dX6_smallestTarget_17 : decode cX6_smallestTarget 17 = .ok (.ireturn, 1) := by decide +kernel
theorem dX6_smallestTarget_18 : decode cX6_smallestTarget 18 = .ok (.iinc 1 1, 3) := by decide +kernel
theorem dX6_smallestTarget_21 : decode cX6_smallestTarget 21 = .ok (.goto (-19), 3) := by decide +kernel
theorem dX6_smallestTarget_24 : decode cX6_smallestTarget 24 = .ok (.bipush (-10), 2) := by decide +kernel
theorem dX6_smallestTarget_26 : decode cX6_smallestTarget 26 = .ok (.ireturn, 1) := by decide +kernel
theorem dX6_pairOf_0 : decode cX6_pairOf 0 = .ok (.iconst 2, 1) := by decide +kernel
theorem dX6_pairOf_1 : decode cX6_pairOf 1 = .ok (.iload_n 0, 1) := by decide +kernel
theorem dX6_pairOf_2 : decode cX6_pairOf 2 = .ok (.imul, 1) := by decide +kernel
theorem dX6_pairOf_3 : decode cX6_pairOf 3 = .ok (.iload_n 1, 1) := by decide +kernel
theorem dX6_pairOf_4 : decode cX6_pairOf 4 = .ok (.iadd, 1) := by decide +kernel
theorem dX6_pairOf_5 : decode cX6_pairOf 5 = .ok (.ireturn, 1) := by decide +kernel
theorem dX6_pairsWith_0 : decode cX6_pairsWith 0 = .ok (.iload_n 0, 1) := by decide +kernel
theorem dX6_pairsWith_1 : decode cX6_pairsWith 1 = .ok (.i2l, 1) := by decide +kernel
theorem dX6_pairsWith_2 : decode cX6_pairsWith 2 = .ok (.iload_n 1, 1) := by decide +kernel
theorem dX6_pairsWith_3 : decode cX6_pairsWith 3 = .ok (.bipush 32, 2) := by decide +kernel
theorem dX6_pairsWith_5 : decode cX6_pairsWith 5 = .ok (.imul, 1) := by decide +kernel
theorem dX6_pairsWith_6 : decode cX6_pairsWith 6 = .ok (.lshl, 1) := by decide +kernel
theorem dX6_pairsWith_7 : decode cX6_pairsWith 7 = .ok (.lreturn, 1) := by decide +kernel
theorem dX6_targetsWith_0 : decode cX6_targetsWith 0 = .ok (.lload_n 0, 1) := by decide +kernel
theorem dX6_targetsWith_1 : decode cX6_targetsWith 1 = .ok (.iload_n 2, 1) := by decide +kernel
theorem dX6_targetsWith_2 : decode cX6_targetsWith 2 = .ok (.bipush 32, 2) := by decide +kernel
theorem dX6_targetsWith_4 : decode cX6_targetsWith 4 = .ok (.imul, 1) := by decide +kernel
theorem dX6_targetsWith_5 : decode cX6_targetsWith 5 = .ok (.lushr, 1) := by decide +kernel
theorem dX6_targetsWith_6 : decode cX6_targetsWith 6 = .ok (.l2i, 1) := by decide +kernel
theorem dX6_targetsWith_7 : decode cX6_targetsWith 7 = .ok (.ireturn, 1) := by decide +kernel
theorem dX6_setOfPair_0 : decode cX6_setOfPair 0 = .ok (.lconst 1, 1) := by decide +kernel
theorem dX6_setOfPair_1 : decode cX6_setOfPair 1 = .ok (.iload_n 0, 1) := by decide +kernel
theorem dX6_setOfPair_2 : decode cX6_setOfPair 2 = .ok (.iconst 2, 1) := by decide +kernel
theorem dX6_setOfPair_3 : decode cX6_setOfPair 3 = .ok (.irem, 1) := by decide +kernel
theorem dX6_setOfPair_4 : decode cX6_setOfPair 4 = .ok (.bipush 32, 2) := by decide +kernel
theorem dX6_setOfPair_6 : decode cX6_setOfPair 6 = .ok (.imul, 1) := by decide +kernel
theorem dX6_setOfPair_7 : decode cX6_setOfPair 7 = .ok (.iload_n 0, 1) := by decide +kernel
theorem dX6_setOfPair_8 : decode cX6_setOfPair 8 = .ok (.iconst 2, 1) := by decide +kernel
theorem dX6_setOfPair_9 : decode cX6_setOfPair 9 = .ok (.idiv, 1) := by decide +kernel
theorem dX6_setOfPair_10 : decode cX6_setOfPair 10 = .ok (.iadd, 1) := by decide +kernel
theorem dX6_setOfPair_11 : decode cX6_setOfPair 11 = .ok (.lshl, 1) := by decide +kernel
theorem dX6_setOfPair_12 : decode cX6_setOfPair 12 = .ok (.lreturn, 1) := by decide +kernel
theorem dX6_containsPair_0 : decode cX6_containsPair 0 = .ok (.lload_n 0, 1) := by decide +kernel
theorem dX6_containsPair_1 : decode cX6_containsPair 1 = .ok (.iload_n 2, 1) := by decide +kernel
theorem dX6_containsPair_2 : decode cX6_containsPair 2 = .ok (.invokestatic 186, 3) := by decide +kernel
theorem dX6_containsPair_5 : decode cX6_containsPair 5 = .ok (.land, 1) := by decide +kernel
theorem dX6_containsPair_6 : decode cX6_containsPair 6 = .ok (.lconst 0, 1) := by decide +kernel
theorem dX6_containsPair_7 : decode cX6_containsPair 7 = .ok (.lcmp, 1) := by decide +kernel
theorem dX6_containsPair_8 : decode cX6_containsPair 8 = .ok (.ifCond .eq 7, 3) := by decide +kernel
theorem dX6_containsPair_11 : decode cX6_containsPair 11 = .ok (.iconst 1, 1) := by decide +kernel
theorem dX6_containsPair_12 : decode cX6_containsPair 12 = .ok (.goto 4, 3) := by decide +kernel
theorem dX6_containsPair_15 : decode cX6_containsPair 15 = .ok (.iconst 0, 1) := by decide +kernel
theorem dX6_containsPair_16 : decode cX6_containsPair 16 = .ok (.ireturn, 1) := by decide +kernel
theorem dX6_smallestPair_0 : decode cX6_smallestPair 0 = .ok (.iconst 0, 1) := by decide +kernel
theorem dX6_smallestPair_1 : decode cX6_smallestPair 1 = .ok (.istore_n 2, 1) := by decide +kernel
theorem dX6_smallestPair_2 : decode cX6_smallestPair 2 = .ok (.iload_n 2, 1) := by decide +kernel
theorem dX6_smallestPair_3 : decode cX6_smallestPair 3 = .ok (.bipush 40, 2) := by decide +kernel
theorem dX6_smallestPair_5 : decode cX6_smallestPair 5 = .ok (.if_icmp .ge 19, 3) := by decide +kernel
theorem dX6_smallestPair_8 : decode cX6_smallestPair 8 = .ok (.lload_n 0, 1) := by decide +kernel
theorem dX6_smallestPair_9 : decode cX6_smallestPair 9 = .ok (.iload_n 2, 1) := by decide +kernel
theorem dX6_smallestPair_10 : decode cX6_smallestPair 10 = .ok (.invokestatic 190, 3) := by decide +kernel
theorem dX6_smallestPair_13 : decode cX6_smallestPair 13 = .ok (.ifCond .eq 5, 3) := by decide +kernel
theorem dX6_smallestPair_16 : decode cX6_smallestPair 16 = .ok (.iload_n 2, 1) := by decide +kernel
theorem dX6_smallestPair_17 : decode cX6_smallestPair 17 = .ok (.ireturn, 1) := by decide +kernel
theorem dX6_smallestPair_18 : decode cX6_smallestPair 18 = .ok (.iinc 2 1, 3) := by decide +kernel
theorem dX6_smallestPair_21 : decode cX6_smallestPair 21 = .ok (.goto (-19), 3) := by decide +kernel
theorem dX6_smallestPair_24 : decode cX6_smallestPair 24 = .ok (.bipush (-10), 2) := by decide +kernel
theorem dX6_smallestPair_26 : decode cX6_smallestPair 26 = .ok (.ireturn, 1) := by decide +kernel
end
section
theorem dX7_init_0 : decode cX7_init 0 = .ok (.aload_n 0, 1) := by decide +kernel
theorem dX7_init_1 : decode cX7_init 1 = .ok (.invokespecial 1, 3) := by decide +kernel
theorem dX7_init_4 : decode cX7_init 4 = .ok (.aload_n 0, 1) := by decide +kernel
theorem dX7_init_5 : decode cX7_init 5 = .ok (.sipush 703, 3) := by decide +kernel
theorem dX7_init_8 : decode cX7_init 8 = .ok (.newarray .int, 2) := by decide +kernel
theorem dX7_init_10 : decode cX7_init 10 = .ok (.putfield 7, 3) := by decide +kernel
theorem dX7_init_13 : decode cX7_init 13 = .ok (.aload_n 0, 1) := by decide +kernel
theorem dX7_init_14 : decode cX7_init 14 = .ok (.sipush 1406, 3) := by decide +kernel
theorem dX7_init_17 : decode cX7_init 17 = .ok (.newarray .int, 2) := by decide +kernel
theorem dX7_init_19 : decode cX7_init 19 = .ok (.putfield 13, 3) := by decide +kernel
theorem dX7_init_22 : decode cX7_init 22 = .ok (.aload_n 0, 1) := by decide +kernel
theorem dX7_init_23 : decode cX7_init 23 = .ok (.iconst 2, 1) := by decide +kernel
theorem dX7_init_24 : decode cX7_init 24 = .ok (.newarray .boolean, 2) := by decide +kernel
theorem dX7_init_26 : decode cX7_init 26 = .ok (.putfield 16, 3) := by decide +kernel
theorem dX7_init_29 : decode cX7_init 29 = .ok (.aload_n 0, 1) := by decide +kernel
theorem dX7_init_30 : decode cX7_init 30 = .ok (.bipush 40, 2) := by decide +kernel
theorem dX7_init_32 : decode cX7_init 32 = .ok (.newarray .boolean, 2) := by decide +kernel
theorem dX7_init_34 : decode cX7_init 34 = .ok (.putfield 20, 3) := by decide +kernel
theorem dX7_init_37 : decode cX7_init 37 = .ok (.aload_n 0, 1) := by decide +kernel
theorem dX7_init_38 : decode cX7_init 38 = .ok (.bipush 40, 2) := by decide +kernel
theorem dX7_init_40 : decode cX7_init 40 = .ok (.newarray .int, 2) := by decide +kernel
theorem dX7_init_42 : decode cX7_init 42 = .ok (.putfield 23, 3) := by decide +kernel
theorem dX7_init_45 : decode cX7_init 45 = .ok (.aload_n 0, 1) := by decide +kernel
theorem dX7_init_46 : decode cX7_init 46 = .ok (.bipush 20, 2) := by decide +kernel
theorem dX7_init_48 : decode cX7_init 48 = .ok (.newarray .int, 2) := by decide +kernel
theorem dX7_init_50 : decode cX7_init 50 = .ok (.putfield 26, 3) := by decide +kernel
theorem dX7_init_53 : decode cX7_init 53 = .ok (.aload_n 0, 1) := by decide +kernel
theorem dX7_init_54 : decode cX7_init 54 = .ok (.bipush 20, 2) := by decide +kernel
theorem dX7_init_56 : decode cX7_init 56 = .ok (.newarray .int, 2) := by decide +kernel
theorem dX7_init_58 : decode cX7_init 58 = .ok (.putfield 29, 3) := by decide +kernel
theorem dX7_init_61 : decode cX7_init 61 = .ok (.aload_n 0, 1) := by decide +kernel
theorem dX7_init_62 : decode cX7_init 62 = .ok (.iconst 4, 1) := by decide +kernel
theorem dX7_init_63 : decode cX7_init 63 = .ok (.newarray .int, 2) := by decide +kernel
theorem dX7_init_65 : decode cX7_init 65 = .ok (.putfield 32, 3) := by decide +kernel
theorem dX7_init_68 : decode cX7_init 68 = .ok (.aload_n 0, 1) := by decide +kernel
theorem dX7_init_69 : decode cX7_init 69 = .ok (.bipush 20, 2) := by decide +kernel
theorem dX7_init_71 : decode cX7_init 71 = .ok (.newarray .int, 2) := by decide +kernel
theorem dX7_init_73 : decode cX7_init 73 = .ok (.putfield 35, 3) := by decide +kernel
theorem dX7_init_76 : decode cX7_init 76 = .ok (.aload_n 0, 1) := by decide +kernel
theorem dX7_init_77 : decode cX7_init 77 = .ok (.bipush 10, 2) := by decide +kernel
theorem dX7_init_79 : decode cX7_init 79 = .ok (.newarray .int, 2) := by decide +kernel
theorem dX7_init_81 : decode cX7_init 81 = .ok (.putfield 38, 3) := by decide +kernel
theorem dX7_init_84 : decode cX7_init 84 = .ok (.return_, 1) := by decide +kernel
theorem dX7_in_0 : decode cX7_in 0 = .ok (.iload_n 0, 1) := by decide +kernel
theorem dX7_in_1 : decode cX7_in 1 = .ok (.iload_n 1, 1) := by decide +kernel
theorem dX7_in_2 : decode cX7_in 2 = .ok (.if_icmp .lt 12, 3) := by decide +kernel
theorem dX7_in_5 : decode cX7_in 5 = .ok (.iload_n 0, 1) := by decide +kernel
theorem dX7_in_6 : decode cX7_in 6 = .ok (.iload_n 2, 1) := by decide +kernel
theorem dX7_in_7 : decode cX7_in 7 = .ok (.if_icmp .gt 7, 3) := by decide +kernel
theorem dX7_in_10 : decode cX7_in 10 = .ok (.iconst 1, 1) := by decide +kernel
theorem dX7_in_11 : decode cX7_in 11 = .ok (.goto 4, 3) := by decide +kernel
theorem dX7_in_14 : decode cX7_in 14 = .ok (.iconst 0, 1) := by decide +kernel
theorem dX7_in_15 : decode cX7_in 15 = .ok (.ireturn, 1) := by decide +kernel
theorem dX7_isTarget_0 : decode cX7_isTarget 0 = .ok (.iload_n 1, 1) := by decide +kernel
theorem dX7_isTarget_1 : decode cX7_isTarget 1 = .ok (.iconst 0, 1) := by decide +kernel
theorem dX7_isTarget_2 : decode cX7_isTarget 2 = .ok (.aload_n 0, 1) := by decide +kernel
theorem dX7_isTarget_3 : decode cX7_isTarget 3 = .ok (.getfield 7, 3) := by decide +kernel
theorem dX7_isTarget_6 : decode cX7_isTarget 6 = .ok (.iconst 0, 1) := by decide +kernel
theorem dX7_isTarget_7 : decode cX7_isTarget 7 = .ok (.iaload, 1) := by decide +kernel
theorem dX7_isTarget_8 : decode cX7_isTarget 8 = .ok (.iconst 1, 1) := by decide +kernel
theorem dX7_isTarget_9 : decode cX7_isTarget 9 = .ok (.isub, 1) := by decide +kernel
theorem dX7_isTarget_10 : decode cX7_isTarget 10 = .ok (.invokestatic 41, 3) := by decide +kernel
theorem dX7_isTarget_13 : decode cX7_isTarget 13 = .ok (.ireturn, 1) := by decide +kernel
theorem dX7_kindOf_0 : decode cX7_kindOf 0 = .ok (.aload_n 0, 1) := by decide +kernel
theorem dX7_kindOf_1 : decode cX7_kindOf 1 = .ok (.getfield 7, 3) := by decide +kernel
theorem dX7_kindOf_4 : decode cX7_kindOf 4 = .ok (.iconst 3, 1) := by decide +kernel
theorem dX7_kindOf_5 : decode cX7_kindOf 5 = .ok (.iload_n 1, 1) := by decide +kernel
theorem dX7_kindOf_6 : decode cX7_kindOf 6 = .ok (.iadd, 1) := by decide +kernel
theorem dX7_kindOf_7 : decode cX7_kindOf 7 = .ok (.iaload, 1) := by decide +kernel
theorem dX7_kindOf_8 : decode cX7_kindOf 8 = .ok (.ireturn, 1) := by decide +kernel
theorem dX7_weightOf_0 : decode cX7_weightOf 0 = .ok (.aload_n 0, 1) := by decide +kernel
theorem dX7_weightOf_1 : decode cX7_weightOf 1 = .ok (.getfield 7, 3) := by decide +kernel
theorem dX7_weightOf_4 : decode cX7_weightOf 4 = .ok (.bipush 23, 2) := by decide +kernel
theorem dX7_weightOf_6 : decode cX7_weightOf 6 = .ok (.iload_n 1, 1) := by decide +kernel
theorem dX7_weightOf_7 : decode cX7_weightOf 7 = .ok (.iadd, 1) := by decide +kernel
theorem dX7_weightOf_8 : decode cX7_weightOf 8 = .ok (.iaload, 1) := by decide +kernel
theorem dX7_weightOf_9 : decode cX7_weightOf 9 = .ok (.ireturn, 1) := by decide +kernel
theorem dX7_linkOf_0 : decode cX7_linkOf 0 = .ok (.aload_n 0, 1) := by decide +kernel
theorem dX7_linkOf_1 : decode cX7_linkOf 1 = .ok (.getfield 7, 3) := by decide +kernel
theorem dX7_linkOf_4 : decode cX7_linkOf 4 = .ok (.bipush 43, 2) := by decide +kernel
theorem dX7_linkOf_6 : decode cX7_linkOf 6 = .ok (.bipush 20, 2) := by decide +kernel
theorem dX7_linkOf_8 : decode cX7_linkOf 8 = .ok (.iload_n 1, 1) := by decide +kernel
theorem dX7_linkOf_9 : decode cX7_linkOf 9 = .ok (.imul, 1) := by decide +kernel
theorem dX7_linkOf_10 : decode cX7_linkOf 10 = .ok (.iadd, 1) := by decide +kernel
theorem dX7_linkOf_11 : decode cX7_linkOf 11 = .ok (.iload_n 2, 1) := by decide +kernel
theorem dX7_linkOf_12 : decode cX7_linkOf 12 = .ok (.iadd, 1) := by decide +kernel
theorem dX7_linkOf_13 : decode cX7_linkOf 13 = .ok (.iaload, 1) := by decide +kernel
theorem dX7_linkOf_14 : decode cX7_linkOf 14 = .ok (.iconst 1, 1) := by decide +kernel
theorem dX7_linkOf_15 : decode cX7_linkOf 15 = .ok (.isub, 1) := by decide +kernel
theorem dX7_linkOf_16 : decode cX7_linkOf 16 = .ok (.ireturn, 1) := by decide +kernel
theorem dX7_tests_0 : decode cX7_tests 0 = .ok (.iconst 0, 1) := by decide +kernel
theorem dX7_tests_1 : decode cX7_tests 1 = .ok (.istore_n 1, 1) := by decide +kernel
theorem dX7_tests_2 : decode cX7_tests 2 = .ok (.iconst 0, 1) := by decide +kernel
theorem dX7_tests_3 : decode cX7_tests 3 = .ok (.istore_n 2, 1) := by decide +kernel
theorem dX7_tests_4 : decode cX7_tests 4 = .ok (.iload_n 2, 1) := by decide +kernel
theorem dX7_tests_5 : decode cX7_tests 5 = .ok (.aload_n 0, 1) := by decide +kernel
theorem dX7_tests_6 : decode cX7_tests 6 = .ok (.getfield 7, 3) := by decide +kernel
theorem dX7_tests_9 : decode cX7_tests 9 = .ok (.iconst 0, 1) := by decide +kernel
theorem dX7_tests_10 : decode cX7_tests 10 = .ok (.iaload, 1) := by decide +kernel
theorem dX7_tests_11 : decode cX7_tests 11 = .ok (.if_icmp .ge 26, 3) := by decide +kernel
theorem dX7_tests_14 : decode cX7_tests 14 = .ok (.iload_n 1, 1) := by decide +kernel
theorem dX7_tests_15 : decode cX7_tests 15 = .ok (.aload_n 0, 1) := by decide +kernel
theorem dX7_tests_16 : decode cX7_tests 16 = .ok (.iload_n 2, 1) := by decide +kernel
theorem dX7_tests_17 : decode cX7_tests 17 = .ok (.invokevirtual 45, 3) := by decide +kernel
theorem dX7_tests_20 : decode cX7_tests 20 = .ok (.iconst 2, 1) := by decide +kernel
theorem dX7_tests_21 : decode cX7_tests 21 = .ok (.if_icmp .ne 7, 3) := by decide +kernel
theorem dX7_tests_24 : decode cX7_tests 24 = .ok (.iconst 1, 1) := by decide +kernel
theorem dX7_tests_25 : decode cX7_tests 25 = .ok (.goto 4, 3) := by decide +kernel
theorem dX7_tests_28 : decode cX7_tests 28 = .ok (.iconst 0, 1) := by decide +kernel
theorem dX7_tests_29 : decode cX7_tests 29 = .ok (.iadd, 1) := by decide +kernel
theorem dX7_tests_30 : decode cX7_tests 30 = .ok (.istore_n 1, 1) := by decide +kernel
theorem dX7_tests_31 : decode cX7_tests 31 = .ok (.iinc 2 1, 3) := by decide +kernel
theorem dX7_tests_34 : decode cX7_tests 34 = .ok (.goto (-30), 3) := by decide +kernel
theorem dX7_tests_37 : decode cX7_tests 37 = .ok (.iload_n 1, 1) := by decide +kernel
theorem dX7_tests_38 : decode cX7_tests 38 = .ok (.ireturn, 1) := by decide +kernel
theorem dX7_addTarget_0 : decode cX7_addTarget 0 = .ok (.iload_n 1, 1) := by decide +kernel
theorem dX7_addTarget_1 : decode cX7_addTarget 1 = .ok (.iconst 0, 1) := by decide +kernel
theorem dX7_addTarget_2 : decode cX7_addTarget 2 = .ok (.iconst 2, 1) := by decide +kernel
theorem dX7_addTarget_3 : decode cX7_addTarget 3 = .ok (.invokestatic 41, 3) := by decide +kernel
theorem dX7_addTarget_6 : decode cX7_addTarget 6 = .ok (.ifCond .eq 13, 3) := by decide +kernel
theorem dX7_addTarget_9 : decode cX7_addTarget 9 = .ok (.iload_n 2, 1) := by decide +kernel
theorem dX7_addTarget_10 : decode cX7_addTarget 10 = .ok (.iconst 1, 1) := by decide +kernel
theorem dX7_addTarget_11 : decode cX7_addTarget 11 = .ok (.bipush 100, 2) := by decide +kernel
theorem dX7_addTarget_13 : decode cX7_addTarget 13 = .ok (.invokestatic 41, 3) := by decide +kernel
theorem dX7_addTarget_16 : decode cX7_addTarget 16 = .ok (.ifCond .ne 6, 3) := by decide +kernel
theorem dX7_addTarget_19 : decode cX7_addTarget 19 = .ok (.bipush (-3), 2) := by decide +kernel
theorem dX7_addTarget_21 : decode cX7_addTarget 21 = .ok (.ireturn, 1) := by decide +kernel
theorem dX7_addTarget_22 : decode cX7_addTarget 22 = .ok (.aload_n 0, 1) := by decide +kernel
theorem dX7_addTarget_23 : decode cX7_addTarget 23 = .ok (.getfield 7, 3) := by decide +kernel
theorem dX7_addTarget_26 : decode cX7_addTarget 26 = .ok (.iconst 0, 1) := by decide +kernel
theorem dX7_addTarget_27 : decode cX7_addTarget 27 = .ok (.iaload, 1) := by decide +kernel
theorem dX7_addTarget_28 : decode cX7_addTarget 28 = .ok (.bipush 20, 2) := by decide +kernel
theorem dX7_addTarget_30 : decode cX7_addTarget 30 = .ok (.if_icmp .eq 17, 3) := by decide +kernel
theorem dX7_addTarget_33 : decode cX7_addTarget 33 = .ok (.iload_n 1, 1) := by decide +kernel
theorem dX7_addTarget_34 : decode cX7_addTarget 34 = .ok (.iconst 2, 1) := by decide +kernel
theorem dX7_addTarget_35 : decode cX7_addTarget 35 = .ok (.if_icmp .ne 15, 3) := by decide +kernel
theorem dX7_addTarget_38 : decode cX7_addTarget 38 = .ok (.aload_n 0, 1) := by decide +kernel
theorem dX7_addTarget_39 : decode cX7_addTarget 39 = .ok (.invokevirtual 49, 3) := by decide +kernel
theorem dX7_addTarget_42 : decode cX7_addTarget 42 = .ok (.bipush 10, 2) := by decide +kernel
theorem dX7_addTarget_44 : decode cX7_addTarget 44 = .ok (.if_icmp .ne 6, 3) := by decide +kernel
theorem dX7_addTarget_47 : decode cX7_addTarget 47 = .ok (.bipush (-8), 2) := by decide +kernel
theorem dX7_addTarget_49 : decode cX7_addTarget 49 = .ok (.ireturn, 1) := by decide +kernel
theorem dX7_addTarget_50 : decode cX7_addTarget 50 = .ok (.aload_n 0, 1) := by decide +kernel
theorem dX7_addTarget_51 : decode cX7_addTarget 51 = .ok (.getfield 7, 3) := by decide +kernel
theorem dX7_addTarget_54 : decode cX7_addTarget 54 = .ok (.iconst 0, 1) := by decide +kernel
theorem dX7_addTarget_55 : decode cX7_addTarget 55 = .ok (.iaload, 1) := by decide +kernel
theorem dX7_addTarget_56 : decode cX7_addTarget 56 = .ok (.istore_n 3, 1) := by decide +kernel
theorem dX7_addTarget_57 : decode cX7_addTarget 57 = .ok (.aload_n 0, 1) := by decide +kernel
theorem dX7_addTarget_58 : decode cX7_addTarget 58 = .ok (.getfield 7, 3) := by decide +kernel
theorem dX7_addTarget_61 : decode cX7_addTarget 61 = .ok (.iconst 3, 1) := by decide +kernel
theorem dX7_addTarget_62 : decode cX7_addTarget 62 = .ok (.iload_n 3, 1) := by decide +kernel
theorem dX7_addTarget_63 : decode cX7_addTarget 63 = .ok (.iadd, 1) := by decide +kernel
theorem dX7_addTarget_64 : decode cX7_addTarget 64 = .ok (.iload_n 1, 1) := by decide +kernel
theorem dX7_addTarget_65 : decode cX7_addTarget 65 = .ok (.iastore, 1) := by decide +kernel
theorem dX7_addTarget_66 : decode cX7_addTarget 66 = .ok (.aload_n 0, 1) := by decide +kernel
theorem dX7_addTarget_67 : decode cX7_addTarget 67 = .ok (.getfield 7, 3) := by decide +kernel
theorem dX7_addTarget_70 : decode cX7_addTarget 70 = .ok (.bipush 23, 2) := by decide +kernel
theorem dX7_addTarget_72 : decode cX7_addTarget 72 = .ok (.iload_n 3, 1) := by decide +kernel
theorem dX7_addTarget_73 : decode cX7_addTarget 73 = .ok (.iadd, 1) := by decide +kernel
theorem dX7_addTarget_74 : decode cX7_addTarget 74 = .ok (.iload_n 2, 1) := by decide +kernel
theorem dX7_addTarget_75 : decode cX7_addTarget 75 = .ok (.iastore, 1) := by decide +kernel
theorem dX7_addTarget_76 : decode cX7_addTarget 76 = .ok (.aload_n 0, 1) := by decide +kernel
theorem dX7_addTarget_77 : decode cX7_addTarget 77 = .ok (.getfield 7, 3) := by decide +kernel
theorem dX7_addTarget_80 : decode cX7_addTarget 80 = .ok (.iconst 0, 1) := by decide +kernel
theorem dX7_addTarget_81 : decode cX7_addTarget 81 = .ok (.dup2, 1) := by decide +kernel
theorem dX7_addTarget_82 : decode cX7_addTarget 82 = .ok (.iaload, 1) := by decide +kernel
theorem dX7_addTarget_83 : decode cX7_addTarget 83 = .ok (.iconst 1, 1) := by decide +kernel
theorem dX7_addTarget_84 : decode cX7_addTarget 84 = .ok (.iadd, 1) := by decide +kernel
theorem dX7_addTarget_85 : decode cX7_addTarget 85 = .ok (.iastore, 1) := by decide +kernel
theorem dX7_addTarget_86 : decode cX7_addTarget 86 = .ok (.iload_n 3, 1) := by decide +kernel
theorem dX7_addTarget_87 : decode cX7_addTarget 87 = .ok (.ireturn, 1) := by decide +kernel
theorem dX7_targetCount_0 : decode cX7_targetCount 0 = .ok (.aload_n 0, 1) := by decide +kernel
theorem dX7_targetCount_1 : decode cX7_targetCount 1 = .ok (.getfield 7, 3) := by decide +kernel
theorem dX7_targetCount_4 : decode cX7_targetCount 4 = .ok (.iconst 0, 1) := by decide +kernel
theorem dX7_targetCount_5 : decode cX7_targetCount 5 = .ok (.iaload, 1) := by decide +kernel
theorem dX7_targetCount_6 : decode cX7_targetCount 6 = .ok (.ireturn, 1) := by decide +kernel
theorem dX7_reachOf_0 : decode cX7_reachOf 0 = .ok (.iconst 1, 1) := by decide +kernel
theorem dX7_reachOf_1 : decode cX7_reachOf 1 = .ok (.iload_n 1, 1) := by decide +kernel
theorem dX7_reachOf_2 : decode cX7_reachOf 2 = .ok (.ishl, 1) := by decide +kernel
theorem dX7_reachOf_3 : decode cX7_reachOf 3 = .ok (.istore_n 3, 1) := by decide +kernel
theorem dX7_reachOf_4 : decode cX7_reachOf 4 = .ok (.iconst 1, 1) := by decide +kernel
theorem dX7_reachOf_5 : decode cX7_reachOf 5 = .ok (.istore 4, 2) := by decide +kernel
theorem dX7_reachOf_7 : decode cX7_reachOf 7 = .ok (.iload 4, 2) := by decide +kernel
theorem dX7_reachOf_9 : decode cX7_reachOf 9 = .ok (.ifCond .eq 131, 3) := by decide +kernel
theorem dX7_reachOf_12 : decode cX7_reachOf 12 = .ok (.iconst 0, 1) := by decide +kernel
theorem dX7_reachOf_13 : decode cX7_reachOf 13 = .ok (.istore 4, 2) := by decide +kernel
theorem dX7_reachOf_15 : decode cX7_reachOf 15 = .ok (.iconst 0, 1) := by decide +kernel
theorem dX7_reachOf_16 : decode cX7_reachOf 16 = .ok (.istore 5, 2) := by decide +kernel
theorem dX7_reachOf_18 : decode cX7_reachOf 18 = .ok (.iload 5, 2) := by decide +kernel
theorem dX7_reachOf_20 : decode cX7_reachOf 20 = .ok (.aload_n 0, 1) := by decide +kernel
theorem dX7_reachOf_21 : decode cX7_reachOf 21 = .ok (.getfield 7, 3) := by decide +kernel
theorem dX7_reachOf_24 : decode cX7_reachOf 24 = .ok (.iconst 0, 1) := by decide +kernel
theorem dX7_reachOf_25 : decode cX7_reachOf 25 = .ok (.iaload, 1) := by decide +kernel
theorem dX7_reachOf_26 : decode cX7_reachOf 26 = .ok (.if_icmp .ge 111, 3) := by decide +kernel
theorem dX7_reachOf_29 : decode cX7_reachOf 29 = .ok (.iconst 0, 1) := by decide +kernel
theorem dX7_reachOf_30 : decode cX7_reachOf 30 = .ok (.istore 6, 2) := by decide +kernel
theorem dX7_reachOf_32 : decode cX7_reachOf 32 = .ok (.iload 6, 2) := by decide +kernel
theorem dX7_reachOf_34 : decode cX7_reachOf 34 = .ok (.aload_n 0, 1) := by decide +kernel
theorem dX7_reachOf_35 : decode cX7_reachOf 35 = .ok (.getfield 7, 3) := by decide +kernel
theorem dX7_reachOf_38 : decode cX7_reachOf 38 = .ok (.iconst 0, 1) := by decide +kernel
theorem dX7_reachOf_39 : decode cX7_reachOf 39 = .ok (.iaload, 1) := by decide +kernel
theorem dX7_reachOf_40 : decode cX7_reachOf 40 = .ok (.if_icmp .ge 91, 3) := by decide +kernel
theorem dX7_reachOf_43 : decode cX7_reachOf 43 = .ok (.iload_n 3, 1) := by decide +kernel
theorem dX7_reachOf_44 : decode cX7_reachOf 44 = .ok (.iload 5, 2) := by decide +kernel
theorem dX7_reachOf_46 : decode cX7_reachOf 46 = .ok (.ishr, 1) := by decide +kernel
theorem dX7_reachOf_47 : decode cX7_reachOf 47 = .ok (.iconst 1, 1) := by decide +kernel
theorem dX7_reachOf_48 : decode cX7_reachOf 48 = .ok (.iand, 1) := by decide +kernel
theorem dX7_reachOf_49 : decode cX7_reachOf 49 = .ok (.iconst 1, 1) := by decide +kernel
theorem dX7_reachOf_50 : decode cX7_reachOf 50 = .ok (.if_icmp .ne 39, 3) := by decide +kernel
theorem dX7_reachOf_53 : decode cX7_reachOf 53 = .ok (.iload_n 3, 1) := by decide +kernel
theorem dX7_reachOf_54 : decode cX7_reachOf 54 = .ok (.iload 6, 2) := by decide +kernel
theorem dX7_reachOf_56 : decode cX7_reachOf 56 = .ok (.ishr, 1) := by decide +kernel
theorem dX7_reachOf_57 : decode cX7_reachOf 57 = .ok (.iconst 1, 1) := by decide +kernel
theorem dX7_reachOf_58 : decode cX7_reachOf 58 = .ok (.iand, 1) := by decide +kernel
theorem dX7_reachOf_59 : decode cX7_reachOf 59 = .ok (.ifCond .ne 30, 3) := by decide +kernel
theorem dX7_reachOf_62 : decode cX7_reachOf 62 = .ok (.aload_n 0, 1) := by decide +kernel
theorem dX7_reachOf_63 : decode cX7_reachOf 63 = .ok (.iload 5, 2) := by decide +kernel
theorem dX7_reachOf_65 : decode cX7_reachOf 65 = .ok (.iload 6, 2) := by decide +kernel
theorem dX7_reachOf_67 : decode cX7_reachOf 67 = .ok (.invokevirtual 53, 3) := by decide +kernel
theorem dX7_reachOf_70 : decode cX7_reachOf 70 = .ok (.ifCond .lt 19, 3) := by decide +kernel
theorem dX7_reachOf_73 : decode cX7_reachOf 73 = .ok (.aload_n 0, 1) := by decide +kernel
theorem dX7_reachOf_74 : decode cX7_reachOf 74 = .ok (.iload 5, 2) := by decide +kernel
theorem dX7_reachOf_76 : decode cX7_reachOf 76 = .ok (.iload 6, 2) := by decide +kernel
theorem dX7_reachOf_78 : decode cX7_reachOf 78 = .ok (.invokevirtual 53, 3) := by decide +kernel
theorem dX7_reachOf_81 : decode cX7_reachOf 81 = .ok (.iload_n 2, 1) := by decide +kernel
theorem dX7_reachOf_82 : decode cX7_reachOf 82 = .ok (.if_icmp .eq 7, 3) := by decide +kernel
theorem dX7_reachOf_85 : decode cX7_reachOf 85 = .ok (.iconst 1, 1) := by decide +kernel
theorem dX7_reachOf_86 : decode cX7_reachOf 86 = .ok (.goto 4, 3) := by decide +kernel
theorem dX7_reachOf_89 : decode cX7_reachOf 89 = .ok (.iconst 0, 1) := by decide +kernel
theorem dX7_reachOf_90 : decode cX7_reachOf 90 = .ok (.istore 7, 2) := by decide +kernel
theorem dX7_reachOf_92 : decode cX7_reachOf 92 = .ok (.iload_n 3, 1) := by decide +kernel
theorem dX7_reachOf_93 : decode cX7_reachOf 93 = .ok (.iload 7, 2) := by decide +kernel
theorem dX7_reachOf_95 : decode cX7_reachOf 95 = .ok (.ifCond .eq 10, 3) := by decide +kernel
theorem dX7_reachOf_98 : decode cX7_reachOf 98 = .ok (.iconst 1, 1) := by decide +kernel
theorem dX7_reachOf_99 : decode cX7_reachOf 99 = .ok (.iload 6, 2) := by decide +kernel
theorem dX7_reachOf_101 : decode cX7_reachOf 101 = .ok (.ishl, 1) := by decide +kernel
theorem dX7_reachOf_102 : decode cX7_reachOf 102 = .ok (.goto 4, 3) := by decide +kernel
theorem dX7_reachOf_105 : decode cX7_reachOf 105 = .ok (.iconst 0, 1) := by decide +kernel
theorem dX7_reachOf_106 : decode cX7_reachOf 106 = .ok (.ior, 1) := by decide +kernel
theorem dX7_reachOf_107 : decode cX7_reachOf 107 = .ok (.istore_n 3, 1) := by decide +kernel
theorem dX7_reachOf_108 : decode cX7_reachOf 108 = .ok (.iload 4, 2) := by decide +kernel
theorem dX7_reachOf_110 : decode cX7_reachOf 110 = .ok (.ifCond .ne 8, 3) := by decide +kernel
theorem dX7_reachOf_113 : decode cX7_reachOf 113 = .ok (.iload 7, 2) := by decide +kernel
theorem dX7_reachOf_115 : decode cX7_reachOf 115 = .ok (.ifCond .eq 7, 3) := by decide +kernel
theorem dX7_reachOf_118 : decode cX7_reachOf 118 = .ok (.iconst 1, 1) := by decide +kernel
theorem dX7_reachOf_119 : decode cX7_reachOf 119 = .ok (.goto 4, 3) := by decide +kernel
theorem dX7_reachOf_122 : decode cX7_reachOf 122 = .ok (.iconst 0, 1) := by decide +kernel
theorem dX7_reachOf_123 : decode cX7_reachOf 123 = .ok (.istore 4, 2) := by decide +kernel
theorem dX7_reachOf_125 : decode cX7_reachOf 125 = .ok (.iinc 6 1, 3) := by decide +kernel
theorem dX7_reachOf_128 : decode cX7_reachOf 128 = .ok (.goto (-96), 3) := by decide +kernel
theorem dX7_reachOf_131 : decode cX7_reachOf 131 = .ok (.iinc 5 1, 3) := by decide +kernel
theorem dX7_reachOf_134 : decode cX7_reachOf 134 = .ok (.goto (-116), 3) := by decide +kernel
theorem dX7_reachOf_137 : decode cX7_reachOf 137 = .ok (.goto (-130), 3) := by decide +kernel
theorem dX7_reachOf_140 : decode cX7_reachOf 140 = .ok (.iload_n 3, 1) := by decide +kernel
theorem dX7_reachOf_141 : decode cX7_reachOf 141 = .ok (.ireturn, 1) := by decide +kernel
theorem dX7_addDependency_0 : decode cX7_addDependency 0 = .ok (.aload_n 0, 1) := by decide +kernel
theorem dX7_addDependency_1 : decode cX7_addDependency 1 = .ok (.iload_n 1, 1) := by decide +kernel
theorem dX7_addDependency_2 : decode cX7_addDependency 2 = .ok (.invokevirtual 57, 3) := by decide +kernel
theorem dX7_addDependency_5 : decode cX7_addDependency 5 = .ok (.ifCond .eq 11, 3) := by decide +kernel
theorem dX7_addDependency_8 : decode cX7_addDependency 8 = .ok (.aload_n 0, 1) := by decide +kernel
theorem dX7_addDependency_9 : decode cX7_addDependency 9 = .ok (.iload_n 2, 1) := by decide +kernel
theorem dX7_addDependency_10 : decode cX7_addDependency 10 = .ok (.invokevirtual 57, 3) := by decide +kernel
theorem dX7_addDependency_13 : decode cX7_addDependency 13 = .ok (.ifCond .ne 5, 3) := by decide +kernel
theorem dX7_addDependency_16 : decode cX7_addDependency 16 = .ok (.iconst (-1), 1) := by decide +kernel
theorem dX7_addDependency_17 : decode cX7_addDependency 17 = .ok (.ireturn, 1) := by decide +kernel
theorem dX7_addDependency_18 : decode cX7_addDependency 18 = .ok (.iload_n 1, 1) := by decide +kernel
theorem dX7_addDependency_19 : decode cX7_addDependency 19 = .ok (.iload_n 2, 1) := by decide +kernel
theorem dX7_addDependency_20 : decode cX7_addDependency 20 = .ok (.if_icmp .ne 6, 3) := by decide +kernel
theorem dX7_addDependency_23 : decode cX7_addDependency 23 = .ok (.bipush (-4), 2) := by decide +kernel
theorem dX7_addDependency_25 : decode cX7_addDependency 25 = .ok (.ireturn, 1) := by decide +kernel
theorem dX7_addDependency_26 : decode cX7_addDependency 26 = .ok (.iload_n 3, 1) := by decide +kernel
theorem dX7_addDependency_27 : decode cX7_addDependency 27 = .ok (.iconst 0, 1) := by decide +kernel
theorem dX7_addDependency_28 : decode cX7_addDependency 28 = .ok (.iconst 3, 1) := by decide +kernel
theorem dX7_addDependency_29 : decode cX7_addDependency 29 = .ok (.invokestatic 41, 3) := by decide +kernel
theorem dX7_addDependency_32 : decode cX7_addDependency 32 = .ok (.ifCond .ne 6, 3) := by decide +kernel
theorem dX7_addDependency_35 : decode cX7_addDependency 35 = .ok (.bipush (-3), 2) := by decide +kernel
theorem dX7_addDependency_37 : decode cX7_addDependency 37 = .ok (.ireturn, 1) := by decide +kernel
theorem dX7_addDependency_38 : decode cX7_addDependency 38 = .ok (.aload_n 0, 1) := by decide +kernel
theorem dX7_addDependency_39 : decode cX7_addDependency 39 = .ok (.iload_n 2, 1) := by decide +kernel
theorem dX7_addDependency_40 : decode cX7_addDependency 40 = .ok (.invokevirtual 45, 3) := by decide +kernel
theorem dX7_addDependency_43 : decode cX7_addDependency 43 = .ok (.iconst 2, 1) := by decide +kernel
theorem dX7_addDependency_44 : decode cX7_addDependency 44 = .ok (.if_icmp .eq 31, 3) := by decide +kernel
theorem dX7_addDependency_47 : decode cX7_addDependency 47 = .ok (.iload_n 3, 1) := by decide +kernel
theorem dX7_addDependency_48 : decode cX7_addDependency 48 = .ok (.iconst 2, 1) := by decide +kernel
theorem dX7_addDependency_49 : decode cX7_addDependency 49 = .ok (.if_icmp .ne 12, 3) := by decide +kernel
theorem dX7_addDependency_52 : decode cX7_addDependency 52 = .ok (.aload_n 0, 1) := by decide +kernel
theorem dX7_addDependency_53 : decode cX7_addDependency 53 = .ok (.iload_n 2, 1) := by decide +kernel
theorem dX7_addDependency_54 : decode cX7_addDependency 54 = .ok (.invokevirtual 45, 3) := by decide +kernel
theorem dX7_addDependency_57 : decode cX7_addDependency 57 = .ok (.iconst 1, 1) := by decide +kernel
theorem dX7_addDependency_58 : decode cX7_addDependency 58 = .ok (.if_icmp .ne 17, 3) := by decide +kernel
theorem dX7_addDependency_61 : decode cX7_addDependency 61 = .ok (.iload_n 3, 1) := by decide +kernel
theorem dX7_addDependency_62 : decode cX7_addDependency 62 = .ok (.iconst 3, 1) := by decide +kernel
theorem dX7_addDependency_63 : decode cX7_addDependency 63 = .ok (.if_icmp .ne 15, 3) := by decide +kernel
theorem dX7_addDependency_66 : decode cX7_addDependency 66 = .ok (.aload_n 0, 1) := by decide +kernel
theorem dX7_addDependency_67 : decode cX7_addDependency 67 = .ok (.iload_n 1, 1) := by decide +kernel
theorem dX7_addDependency_68 : decode cX7_addDependency 68 = .ok (.invokevirtual 45, 3) := by decide +kernel
theorem dX7_addDependency_71 : decode cX7_addDependency 71 = .ok (.iconst 2, 1) := by decide +kernel
theorem dX7_addDependency_72 : decode cX7_addDependency 72 = .ok (.if_icmp .eq 6, 3) := by decide +kernel
theorem dX7_addDependency_75 : decode cX7_addDependency 75 = .ok (.bipush (-5), 2) := by decide +kernel
theorem dX7_addDependency_77 : decode cX7_addDependency 77 = .ok (.ireturn, 1) := by decide +kernel
theorem dX7_addDependency_78 : decode cX7_addDependency 78 = .ok (.aload_n 0, 1) := by decide +kernel
theorem dX7_addDependency_79 : decode cX7_addDependency 79 = .ok (.iload_n 1, 1) := by decide +kernel
theorem dX7_addDependency_80 : decode cX7_addDependency 80 = .ok (.iload_n 2, 1) := by decide +kernel
theorem dX7_addDependency_81 : decode cX7_addDependency 81 = .ok (.invokevirtual 53, 3) := by decide +kernel
theorem dX7_addDependency_84 : decode cX7_addDependency 84 = .ok (.ifCond .lt 6, 3) := by decide +kernel
theorem dX7_addDependency_87 : decode cX7_addDependency 87 = .ok (.bipush (-6), 2) := by decide +kernel
theorem dX7_addDependency_89 : decode cX7_addDependency 89 = .ok (.ireturn, 1) := by decide +kernel
theorem dX7_addDependency_90 : decode cX7_addDependency 90 = .ok (.aload_n 0, 1) := by decide +kernel
theorem dX7_addDependency_91 : decode cX7_addDependency 91 = .ok (.iload_n 2, 1) := by decide +kernel
theorem dX7_addDependency_92 : decode cX7_addDependency 92 = .ok (.bipush (-10), 2) := by decide +kernel
theorem dX7_addDependency_94 : decode cX7_addDependency 94 = .ok (.invokevirtual 61, 3) := by decide +kernel
theorem dX7_addDependency_97 : decode cX7_addDependency 97 = .ok (.iload_n 1, 1) := by decide +kernel
theorem dX7_addDependency_98 : decode cX7_addDependency 98 = .ok (.ishr, 1) := by decide +kernel
theorem dX7_addDependency_99 : decode cX7_addDependency 99 = .ok (.iconst 1, 1) := by decide +kernel
theorem dX7_addDependency_100 : decode cX7_addDependency 100 = .ok (.iand, 1) := by decide +kernel
theorem dX7_addDependency_101 : decode cX7_addDependency 101 = .ok (.iconst 1, 1) := by decide +kernel
theorem dX7_addDependency_102 : decode cX7_addDependency 102 = .ok (.if_icmp .ne 6, 3) := by decide +kernel
theorem dX7_addDependency_105 : decode cX7_addDependency 105 = .ok (.bipush (-7), 2) := by decide +kernel
theorem dX7_addDependency_107 : decode cX7_addDependency 107 = .ok (.ireturn, 1) := by decide +kernel
theorem dX7_addDependency_108 : decode cX7_addDependency 108 = .ok (.aload_n 0, 1) := by decide +kernel
theorem dX7_addDependency_109 : decode cX7_addDependency 109 = .ok (.getfield 7, 3) := by decide +kernel
theorem dX7_addDependency_112 : decode cX7_addDependency 112 = .ok (.iconst 1, 1) := by decide +kernel
theorem dX7_addDependency_113 : decode cX7_addDependency 113 = .ok (.iaload, 1) := by decide +kernel
theorem dX7_addDependency_114 : decode cX7_addDependency 114 = .ok (.bipush 60, 2) := by decide +kernel
theorem dX7_addDependency_116 : decode cX7_addDependency 116 = .ok (.if_icmp .ne 6, 3) := by decide +kernel
theorem dX7_addDependency_119 : decode cX7_addDependency 119 = .ok (.bipush (-8), 2) := by decide +kernel
theorem dX7_addDependency_121 : decode cX7_addDependency 121 = .ok (.ireturn, 1) := by decide +kernel
theorem dX7_addDependency_122 : decode cX7_addDependency 122 = .ok (.aload_n 0, 1) := by decide +kernel
theorem dX7_addDependency_123 : decode cX7_addDependency 123 = .ok (.getfield 7, 3) := by decide +kernel
theorem dX7_addDependency_126 : decode cX7_addDependency 126 = .ok (.bipush 43, 2) := by decide +kernel
theorem dX7_addDependency_128 : decode cX7_addDependency 128 = .ok (.bipush 20, 2) := by decide +kernel
theorem dX7_addDependency_130 : decode cX7_addDependency 130 = .ok (.iload_n 1, 1) := by decide +kernel
theorem dX7_addDependency_131 : decode cX7_addDependency 131 = .ok (.imul, 1) := by decide +kernel
theorem dX7_addDependency_132 : decode cX7_addDependency 132 = .ok (.iadd, 1) := by decide +kernel
theorem dX7_addDependency_133 : decode cX7_addDependency 133 = .ok (.iload_n 2, 1) := by decide +kernel
theorem dX7_addDependency_134 : decode cX7_addDependency 134 = .ok (.iadd, 1) := by decide +kernel
theorem dX7_addDependency_135 : decode cX7_addDependency 135 = .ok (.iload_n 3, 1) := by decide +kernel
theorem dX7_addDependency_136 : decode cX7_addDependency 136 = .ok (.iconst 1, 1) := by decide +kernel
theorem dX7_addDependency_137 : decode cX7_addDependency 137 = .ok (.iadd, 1) := by decide +kernel
theorem dX7_addDependency_138 : decode cX7_addDependency 138 = .ok (.iastore, 1) := by decide +kernel
theorem dX7_addDependency_139 : decode cX7_addDependency 139 = .ok (.aload_n 0, 1) := by decide +kernel
theorem dX7_addDependency_140 : decode cX7_addDependency 140 = .ok (.getfield 7, 3) := by decide +kernel
theorem dX7_addDependency_143 : decode cX7_addDependency 143 = .ok (.iconst 1, 1) := by decide +kernel
theorem dX7_addDependency_144 : decode cX7_addDependency 144 = .ok (.dup2, 1) := by decide +kernel
theorem dX7_addDependency_145 : decode cX7_addDependency 145 = .ok (.iaload, 1) := by decide +kernel
theorem dX7_addDependency_146 : decode cX7_addDependency 146 = .ok (.iconst 1, 1) := by decide +kernel
theorem dX7_addDependency_147 : decode cX7_addDependency 147 = .ok (.iadd, 1) := by decide +kernel
theorem dX7_addDependency_148 : decode cX7_addDependency 148 = .ok (.iastore, 1) := by decide +kernel
theorem dX7_addDependency_149 : decode cX7_addDependency 149 = .ok (.aload_n 0, 1) := by decide +kernel
theorem dX7_addDependency_150 : decode cX7_addDependency 150 = .ok (.getfield 7, 3) := by decide +kernel
theorem dX7_addDependency_153 : decode cX7_addDependency 153 = .ok (.iconst 1, 1) := by decide +kernel
theorem dX7_addDependency_154 : decode cX7_addDependency 154 = .ok (.iaload, 1) := by decide +kernel
theorem dX7_addDependency_155 : decode cX7_addDependency 155 = .ok (.ireturn, 1) := by decide +kernel
theorem dX7_removeDependency_0 : decode cX7_removeDependency 0 = .ok (.aload_n 0, 1) := by decide +kernel
theorem dX7_removeDependency_1 : decode cX7_removeDependency 1 = .ok (.iload_n 1, 1) := by decide +kernel
theorem dX7_removeDependency_2 : decode cX7_removeDependency 2 = .ok (.invokevirtual 57, 3) := by decide +kernel
theorem dX7_removeDependency_5 : decode cX7_removeDependency 5 = .ok (.ifCond .eq 11, 3) := by decide +kernel
theorem dX7_removeDependency_8 : decode cX7_removeDependency 8 = .ok (.aload_n 0, 1) := by decide +kernel
theorem dX7_removeDependency_9 : decode cX7_removeDependency 9 = .ok (.iload_n 2, 1) := by decide +kernel
theorem dX7_removeDependency_10 : decode cX7_removeDependency 10 = .ok (.invokevirtual 57, 3) := by decide +kernel
theorem dX7_removeDependency_13 : decode cX7_removeDependency 13 = .ok (.ifCond .ne 5, 3) := by decide +kernel
theorem dX7_removeDependency_16 : decode cX7_removeDependency 16 = .ok (.iconst (-1), 1) := by decide +kernel
theorem dX7_removeDependency_17 : decode cX7_removeDependency 17 = .ok (.ireturn, 1) := by decide +kernel
theorem dX7_removeDependency_18 : decode cX7_removeDependency 18 = .ok (.aload_n 0, 1) := by decide +kernel
theorem dX7_removeDependency_19 : decode cX7_removeDependency 19 = .ok (.iload_n 1, 1) := by decide +kernel
theorem dX7_removeDependency_20 : decode cX7_removeDependency 20 = .ok (.iload_n 2, 1) := by decide +kernel
theorem dX7_removeDependency_21 : decode cX7_removeDependency 21 = .ok (.invokevirtual 53, 3) := by decide +kernel
theorem dX7_removeDependency_24 : decode cX7_removeDependency 24 = .ok (.istore_n 3, 1) := by decide +kernel
theorem dX7_removeDependency_25 : decode cX7_removeDependency 25 = .ok (.iload_n 3, 1) := by decide +kernel
theorem dX7_removeDependency_26 : decode cX7_removeDependency 26 = .ok (.ifCond .ge 6, 3) := by decide +kernel
theorem dX7_removeDependency_29 : decode cX7_removeDependency 29 = .ok (.bipush (-10), 2) := by decide +kernel
theorem dX7_removeDependency_31 : decode cX7_removeDependency 31 = .ok (.ireturn, 1) := by decide +kernel
theorem dX7_removeDependency_32 : decode cX7_removeDependency 32 = .ok (.aload_n 0, 1) := by decide +kernel
theorem dX7_removeDependency_33 : decode cX7_removeDependency 33 = .ok (.getfield 7, 3) := by decide +kernel
theorem dX7_removeDependency_36 : decode cX7_removeDependency 36 = .ok (.bipush 43, 2) := by decide +kernel
theorem dX7_removeDependency_38 : decode cX7_removeDependency 38 = .ok (.bipush 20, 2) := by decide +kernel
theorem dX7_removeDependency_40 : decode cX7_removeDependency 40 = .ok (.iload_n 1, 1) := by decide +kernel
theorem dX7_removeDependency_41 : decode cX7_removeDependency 41 = .ok (.imul, 1) := by decide +kernel
theorem dX7_removeDependency_42 : decode cX7_removeDependency 42 = .ok (.iadd, 1) := by decide +kernel
theorem dX7_removeDependency_43 : decode cX7_removeDependency 43 = .ok (.iload_n 2, 1) := by decide +kernel
theorem dX7_removeDependency_44 : decode cX7_removeDependency 44 = .ok (.iadd, 1) := by decide +kernel
theorem dX7_removeDependency_45 : decode cX7_removeDependency 45 = .ok (.iconst 0, 1) := by decide +kernel
theorem dX7_removeDependency_46 : decode cX7_removeDependency 46 = .ok (.iastore, 1) := by decide +kernel
theorem dX7_removeDependency_47 : decode cX7_removeDependency 47 = .ok (.aload_n 0, 1) := by decide +kernel
theorem dX7_removeDependency_48 : decode cX7_removeDependency 48 = .ok (.getfield 7, 3) := by decide +kernel
theorem dX7_removeDependency_51 : decode cX7_removeDependency 51 = .ok (.iconst 1, 1) := by decide +kernel
theorem dX7_removeDependency_52 : decode cX7_removeDependency 52 = .ok (.dup2, 1) := by decide +kernel
theorem dX7_removeDependency_53 : decode cX7_removeDependency 53 = .ok (.iaload, 1) := by decide +kernel
theorem dX7_removeDependency_54 : decode cX7_removeDependency 54 = .ok (.iconst 1, 1) := by decide +kernel
theorem dX7_removeDependency_55 : decode cX7_removeDependency 55 = .ok (.isub, 1) := by decide +kernel
theorem dX7_removeDependency_56 : decode cX7_removeDependency 56 = .ok (.iastore, 1) := by decide +kernel
theorem dX7_removeDependency_57 : decode cX7_removeDependency 57 = .ok (.iload_n 3, 1) := by decide +kernel
theorem dX7_removeDependency_58 : decode cX7_removeDependency 58 = .ok (.ireturn, 1) := by decide +kernel
theorem dX7_at_0 : decode cX7_at 0 = .ok (.sipush 443, 3) := by decide +kernel
theorem dX7_at_3 : decode cX7_at 3 = .ok (.iconst 3, 1) := by decide +kernel
theorem dX7_at_4 : decode cX7_at 4 = .ok (.iload_n 0, 1) := by decide +kernel
theorem dX7_at_5 : decode cX7_at 5 = .ok (.imul, 1) := by decide +kernel
theorem dX7_at_6 : decode cX7_at 6 = .ok (.iadd, 1) := by decide +kernel
theorem dX7_at_7 : decode cX7_at 7 = .ok (.ireturn, 1) := by decide +kernel
theorem dX7_isFile_0 : decode cX7_isFile 0 = .ok (.iload_n 1, 1) := by decide +kernel
theorem dX7_isFile_1 : decode cX7_isFile 1 = .ok (.iconst 0, 1) := by decide +kernel
theorem dX7_isFile_2 : decode cX7_isFile 2 = .ok (.aload_n 0, 1) := by decide +kernel
theorem dX7_isFile_3 : decode cX7_isFile 3 = .ok (.getfield 7, 3) := by decide +kernel
theorem dX7_isFile_6 : decode cX7_isFile 6 = .ok (.iconst 2, 1) := by decide +kernel
theorem dX7_isFile_7 : decode cX7_isFile 7 = .ok (.iaload, 1) := by decide +kernel
theorem dX7_isFile_8 : decode cX7_isFile 8 = .ok (.iconst 1, 1) := by decide +kernel
theorem dX7_isFile_9 : decode cX7_isFile 9 = .ok (.isub, 1) := by decide +kernel
theorem dX7_isFile_10 : decode cX7_isFile 10 = .ok (.invokestatic 41, 3) := by decide +kernel
theorem dX7_isFile_13 : decode cX7_isFile 13 = .ok (.ifCond .eq 19, 3) := by decide +kernel
theorem dX7_isFile_16 : decode cX7_isFile 16 = .ok (.aload_n 0, 1) := by decide +kernel
theorem dX7_isFile_17 : decode cX7_isFile 17 = .ok (.getfield 7, 3) := by decide +kernel
theorem dX7_isFile_20 : decode cX7_isFile 20 = .ok (.iload_n 1, 1) := by decide +kernel
theorem dX7_isFile_21 : decode cX7_isFile 21 = .ok (.invokestatic 64, 3) := by decide +kernel
theorem dX7_isFile_24 : decode cX7_isFile 24 = .ok (.iaload, 1) := by decide +kernel
theorem dX7_isFile_25 : decode cX7_isFile 25 = .ok (.ifCond .lt 7, 3) := by decide +kernel
theorem dX7_isFile_28 : decode cX7_isFile 28 = .ok (.iconst 1, 1) := by decide +kernel
theorem dX7_isFile_29 : decode cX7_isFile 29 = .ok (.goto 4, 3) := by decide +kernel
theorem dX7_isFile_32 : decode cX7_isFile 32 = .ok (.iconst 0, 1) := by decide +kernel
theorem dX7_isFile_33 : decode cX7_isFile 33 = .ok (.ireturn, 1) := by decide +kernel
theorem dX7_isNamed_0 : decode cX7_isNamed 0 = .ok (.iconst 0, 1) := by decide +kernel
theorem dX7_isNamed_1 : decode cX7_isNamed 1 = .ok (.istore_n 2, 1) := by decide +kernel
theorem dX7_isNamed_2 : decode cX7_isNamed 2 = .ok (.iconst 0, 1) := by decide +kernel
theorem dX7_isNamed_3 : decode cX7_isNamed 3 = .ok (.istore_n 3, 1) := by decide +kernel
theorem dX7_isNamed_4 : decode cX7_isNamed 4 = .ok (.iload_n 3, 1) := by decide +kernel
theorem dX7_isNamed_5 : decode cX7_isNamed 5 = .ok (.aload_n 0, 1) := by decide +kernel
theorem dX7_isNamed_6 : decode cX7_isNamed 6 = .ok (.getfield 7, 3) := by decide +kernel
theorem dX7_isNamed_9 : decode cX7_isNamed 9 = .ok (.iconst 2, 1) := by decide +kernel
theorem dX7_isNamed_10 : decode cX7_isNamed 10 = .ok (.iaload, 1) := by decide +kernel
theorem dX7_isNamed_11 : decode cX7_isNamed 11 = .ok (.if_icmp .ge 42, 3) := by decide +kernel
theorem dX7_isNamed_14 : decode cX7_isNamed 14 = .ok (.iload_n 2, 1) := by decide +kernel
theorem dX7_isNamed_15 : decode cX7_isNamed 15 = .ok (.ifCond .ne 26, 3) := by decide +kernel
theorem dX7_isNamed_18 : decode cX7_isNamed 18 = .ok (.aload_n 0, 1) := by decide +kernel
theorem dX7_isNamed_19 : decode cX7_isNamed 19 = .ok (.iload_n 3, 1) := by decide +kernel
theorem dX7_isNamed_20 : decode cX7_isNamed 20 = .ok (.invokevirtual 67, 3) := by decide +kernel
theorem dX7_isNamed_23 : decode cX7_isNamed 23 = .ok (.ifCond .eq 22, 3) := by decide +kernel
theorem dX7_isNamed_26 : decode cX7_isNamed 26 = .ok (.aload_n 0, 1) := by decide +kernel
theorem dX7_isNamed_27 : decode cX7_isNamed 27 = .ok (.getfield 7, 3) := by decide +kernel
theorem dX7_isNamed_30 : decode cX7_isNamed 30 = .ok (.iload_n 3, 1) := by decide +kernel
theorem dX7_isNamed_31 : decode cX7_isNamed 31 = .ok (.invokestatic 64, 3) := by decide +kernel
theorem dX7_isNamed_34 : decode cX7_isNamed 34 = .ok (.iconst 2, 1) := by decide +kernel
theorem dX7_isNamed_35 : decode cX7_isNamed 35 = .ok (.iadd, 1) := by decide +kernel
theorem dX7_isNamed_36 : decode cX7_isNamed 36 = .ok (.iaload, 1) := by decide +kernel
theorem dX7_isNamed_37 : decode cX7_isNamed 37 = .ok (.iload_n 1, 1) := by decide +kernel
theorem dX7_isNamed_38 : decode cX7_isNamed 38 = .ok (.if_icmp .ne 7, 3) := by decide +kernel
theorem dX7_isNamed_41 : decode cX7_isNamed 41 = .ok (.iconst 1, 1) := by decide +kernel
theorem dX7_isNamed_42 : decode cX7_isNamed 42 = .ok (.goto 4, 3) := by decide +kernel
theorem dX7_isNamed_45 : decode cX7_isNamed 45 = .ok (.iconst 0, 1) := by decide +kernel
theorem dX7_isNamed_46 : decode cX7_isNamed 46 = .ok (.istore_n 2, 1) := by decide +kernel
theorem dX7_isNamed_47 : decode cX7_isNamed 47 = .ok (.iinc 3 1, 3) := by decide +kernel
theorem dX7_isNamed_50 : decode cX7_isNamed 50 = .ok (.goto (-46), 3) := by decide +kernel
theorem dX7_isNamed_53 : decode cX7_isNamed 53 = .ok (.iload_n 2, 1) := by decide +kernel
theorem dX7_isNamed_54 : decode cX7_isNamed 54 = .ok (.ireturn, 1) := by decide +kernel
theorem dX7_touch_0 : decode cX7_touch 0 = .ok (.aload_n 0, 1) := by decide +kernel
theorem dX7_touch_1 : decode cX7_touch 1 = .ok (.getfield 7, 3) := by decide +kernel
theorem dX7_touch_4 : decode cX7_touch 4 = .ok (.iload_n 2, 1) := by decide +kernel
theorem dX7_touch_5 : decode cX7_touch 5 = .ok (.invokestatic 64, 3) := by decide +kernel
theorem dX7_touch_8 : decode cX7_touch 8 = .ok (.iconst 1, 1) := by decide +kernel
theorem dX7_touch_9 : decode cX7_touch 9 = .ok (.iadd, 1) := by decide +kernel
theorem dX7_touch_10 : decode cX7_touch 10 = .ok (.iaload, 1) := by decide +kernel
theorem dX7_touch_11 : decode cX7_touch 11 = .ok (.iconst 1, 1) := by decide +kernel
theorem dX7_touch_12 : decode cX7_touch 12 = .ok (.if_icmp .ne 7, 3) := by decide +kernel
theorem dX7_touch_15 : decode cX7_touch 15 = .ok (.iconst 0, 1) := by decide +kernel
theorem dX7_touch_16 : decode cX7_touch 16 = .ok (.goto 4, 3) := by decide +kernel
theorem dX7_touch_19 : decode cX7_touch 19 = .ok (.iconst 1, 1) := by decide +kernel
theorem dX7_touch_20 : decode cX7_touch 20 = .ok (.istore_n 3, 1) := by decide +kernel
theorem dX7_touch_21 : decode cX7_touch 21 = .ok (.aload_n 0, 1) := by decide +kernel
theorem dX7_touch_22 : decode cX7_touch 22 = .ok (.getfield 7, 3) := by decide +kernel
theorem dX7_touch_25 : decode cX7_touch 25 = .ok (.sipush 663, 3) := by decide +kernel
theorem dX7_touch_28 : decode cX7_touch 28 = .ok (.iconst 2, 1) := by decide +kernel
theorem dX7_touch_29 : decode cX7_touch 29 = .ok (.iload_n 1, 1) := by decide +kernel
theorem dX7_touch_30 : decode cX7_touch 30 = .ok (.imul, 1) := by decide +kernel
theorem dX7_touch_31 : decode cX7_touch 31 = .ok (.iadd, 1) := by decide +kernel
theorem dX7_touch_32 : decode cX7_touch 32 = .ok (.iload_n 3, 1) := by decide +kernel
theorem dX7_touch_33 : decode cX7_touch 33 = .ok (.iadd, 1) := by decide +kernel
theorem dX7_touch_34 : decode cX7_touch 34 = .ok (.iconst 1, 1) := by decide +kernel
theorem dX7_touch_35 : decode cX7_touch 35 = .ok (.iastore, 1) := by decide +kernel
theorem dX7_touch_36 : decode cX7_touch 36 = .ok (.return_, 1) := by decide +kernel
theorem dX7_giveName_0 : decode cX7_giveName 0 = .ok (.aload_n 0, 1) := by decide +kernel
theorem dX7_giveName_1 : decode cX7_giveName 1 = .ok (.getfield 7, 3) := by decide +kernel
theorem dX7_giveName_4 : decode cX7_giveName 4 = .ok (.iload_n 1, 1) := by decide +kernel
theorem dX7_giveName_5 : decode cX7_giveName 5 = .ok (.invokestatic 64, 3) := by decide +kernel
theorem dX7_giveName_8 : decode cX7_giveName 8 = .ok (.iconst 2, 1) := by decide +kernel
theorem dX7_giveName_9 : decode cX7_giveName 9 = .ok (.iadd, 1) := by decide +kernel
theorem dX7_giveName_10 : decode cX7_giveName 10 = .ok (.iload_n 2, 1) := by decide +kernel
theorem dX7_giveName_11 : decode cX7_giveName 11 = .ok (.iastore, 1) := by decide +kernel
theorem dX7_giveName_12 : decode cX7_giveName 12 = .ok (.aload_n 0, 1) := by decide +kernel
theorem dX7_giveName_13 : decode cX7_giveName 13 = .ok (.getfield 7, 3) := by decide +kernel
theorem dX7_giveName_16 : decode cX7_giveName 16 = .ok (.sipush 563, 3) := by decide +kernel
theorem dX7_giveName_19 : decode cX7_giveName 19 = .ok (.iload_n 2, 1) := by decide +kernel
theorem dX7_giveName_20 : decode cX7_giveName 20 = .ok (.iadd, 1) := by decide +kernel
theorem dX7_giveName_21 : decode cX7_giveName 21 = .ok (.iload_n 1, 1) := by decide +kernel
theorem dX7_giveName_22 : decode cX7_giveName 22 = .ok (.iconst 1, 1) := by decide +kernel
theorem dX7_giveName_23 : decode cX7_giveName 23 = .ok (.iadd, 1) := by decide +kernel
theorem dX7_giveName_24 : decode cX7_giveName 24 = .ok (.iastore, 1) := by decide +kernel
theorem dX7_giveName_25 : decode cX7_giveName 25 = .ok (.return_, 1) := by decide +kernel
theorem dX7_addFile_0 : decode cX7_addFile 0 = .ok (.aload_n 0, 1) := by decide +kernel
theorem dX7_addFile_1 : decode cX7_addFile 1 = .ok (.iload_n 1, 1) := by decide +kernel
theorem dX7_addFile_2 : decode cX7_addFile 2 = .ok (.invokevirtual 57, 3) := by decide +kernel
theorem dX7_addFile_5 : decode cX7_addFile 5 = .ok (.ifCond .ne 5, 3) := by decide +kernel
theorem dX7_addFile_8 : decode cX7_addFile 8 = .ok (.iconst (-1), 1) := by decide +kernel
theorem dX7_addFile_9 : decode cX7_addFile 9 = .ok (.ireturn, 1) := by decide +kernel
theorem dX7_addFile_10 : decode cX7_addFile 10 = .ok (.iload_n 3, 1) := by decide +kernel
theorem dX7_addFile_11 : decode cX7_addFile 11 = .ok (.iconst 0, 1) := by decide +kernel
theorem dX7_addFile_12 : decode cX7_addFile 12 = .ok (.bipush 99, 2) := by decide +kernel
theorem dX7_addFile_14 : decode cX7_addFile 14 = .ok (.invokestatic 41, 3) := by decide +kernel
theorem dX7_addFile_17 : decode cX7_addFile 17 = .ok (.ifCond .ne 6, 3) := by decide +kernel
theorem dX7_addFile_20 : decode cX7_addFile 20 = .ok (.bipush (-3), 2) := by decide +kernel
theorem dX7_addFile_22 : decode cX7_addFile 22 = .ok (.ireturn, 1) := by decide +kernel
theorem dX7_addFile_23 : decode cX7_addFile 23 = .ok (.aload_n 0, 1) := by decide +kernel
theorem dX7_addFile_24 : decode cX7_addFile 24 = .ok (.iload_n 3, 1) := by decide +kernel
theorem dX7_addFile_25 : decode cX7_addFile 25 = .ok (.invokevirtual 70, 3) := by decide +kernel
theorem dX7_addFile_28 : decode cX7_addFile 28 = .ok (.ifCond .eq 6, 3) := by decide +kernel
theorem dX7_addFile_31 : decode cX7_addFile 31 = .ok (.bipush (-9), 2) := by decide +kernel
theorem dX7_addFile_33 : decode cX7_addFile 33 = .ok (.ireturn, 1) := by decide +kernel
theorem dX7_addFile_34 : decode cX7_addFile 34 = .ok (.aload_n 0, 1) := by decide +kernel
theorem dX7_addFile_35 : decode cX7_addFile 35 = .ok (.getfield 7, 3) := by decide +kernel
theorem dX7_addFile_38 : decode cX7_addFile 38 = .ok (.iconst 2, 1) := by decide +kernel
theorem dX7_addFile_39 : decode cX7_addFile 39 = .ok (.iaload, 1) := by decide +kernel
theorem dX7_addFile_40 : decode cX7_addFile 40 = .ok (.bipush 40, 2) := by decide +kernel
theorem dX7_addFile_42 : decode cX7_addFile 42 = .ok (.if_icmp .ne 6, 3) := by decide +kernel
theorem dX7_addFile_45 : decode cX7_addFile 45 = .ok (.bipush (-8), 2) := by decide +kernel
theorem dX7_addFile_47 : decode cX7_addFile 47 = .ok (.ireturn, 1) := by decide +kernel
theorem dX7_addFile_48 : decode cX7_addFile 48 = .ok (.aload_n 0, 1) := by decide +kernel
theorem dX7_addFile_49 : decode cX7_addFile 49 = .ok (.getfield 7, 3) := by decide +kernel
theorem dX7_addFile_52 : decode cX7_addFile 52 = .ok (.iconst 2, 1) := by decide +kernel
theorem dX7_addFile_53 : decode cX7_addFile 53 = .ok (.iaload, 1) := by decide +kernel
theorem dX7_addFile_54 : decode cX7_addFile 54 = .ok (.istore 4, 2) := by decide +kernel
theorem dX7_addFile_56 : decode cX7_addFile 56 = .ok (.aload_n 0, 1) := by decide +kernel
theorem dX7_addFile_57 : decode cX7_addFile 57 = .ok (.getfield 7, 3) := by decide +kernel
theorem dX7_addFile_60 : decode cX7_addFile 60 = .ok (.iconst 2, 1) := by decide +kernel
theorem dX7_addFile_61 : decode cX7_addFile 61 = .ok (.dup2, 1) := by decide +kernel
theorem dX7_addFile_62 : decode cX7_addFile 62 = .ok (.iaload, 1) := by decide +kernel
theorem dX7_addFile_63 : decode cX7_addFile 63 = .ok (.iconst 1, 1) := by decide +kernel
theorem dX7_addFile_64 : decode cX7_addFile 64 = .ok (.iadd, 1) := by decide +kernel
theorem dX7_addFile_65 : decode cX7_addFile 65 = .ok (.iastore, 1) := by decide +kernel
theorem dX7_addFile_66 : decode cX7_addFile 66 = .ok (.aload_n 0, 1) := by decide +kernel
theorem dX7_addFile_67 : decode cX7_addFile 67 = .ok (.getfield 7, 3) := by decide +kernel
theorem dX7_addFile_70 : decode cX7_addFile 70 = .ok (.iload 4, 2) := by decide +kernel
theorem dX7_addFile_72 : decode cX7_addFile 72 = .ok (.invokestatic 64, 3) := by decide +kernel
theorem dX7_addFile_75 : decode cX7_addFile 75 = .ok (.iload_n 1, 1) := by decide +kernel
theorem dX7_addFile_76 : decode cX7_addFile 76 = .ok (.iastore, 1) := by decide +kernel
theorem dX7_addFile_77 : decode cX7_addFile 77 = .ok (.aload_n 0, 1) := by decide +kernel
theorem dX7_addFile_78 : decode cX7_addFile 78 = .ok (.getfield 7, 3) := by decide +kernel
theorem dX7_addFile_81 : decode cX7_addFile 81 = .ok (.iload 4, 2) := by decide +kernel
theorem dX7_addFile_83 : decode cX7_addFile 83 = .ok (.invokestatic 64, 3) := by decide +kernel
theorem dX7_addFile_86 : decode cX7_addFile 86 = .ok (.iconst 1, 1) := by decide +kernel
theorem dX7_addFile_87 : decode cX7_addFile 87 = .ok (.iadd, 1) := by decide +kernel
theorem dX7_addFile_88 : decode cX7_addFile 88 = .ok (.iload_n 2, 1) := by decide +kernel
theorem dX7_addFile_89 : decode cX7_addFile 89 = .ok (.ifCond .eq 7, 3) := by decide +kernel
theorem dX7_addFile_92 : decode cX7_addFile 92 = .ok (.iconst 1, 1) := by decide +kernel
theorem dX7_addFile_93 : decode cX7_addFile 93 = .ok (.goto 4, 3) := by decide +kernel
theorem dX7_addFile_96 : decode cX7_addFile 96 = .ok (.iconst 0, 1) := by decide +kernel
theorem dX7_addFile_97 : decode cX7_addFile 97 = .ok (.iastore, 1) := by decide +kernel
theorem dX7_addFile_98 : decode cX7_addFile 98 = .ok (.aload_n 0, 1) := by decide +kernel
theorem dX7_addFile_99 : decode cX7_addFile 99 = .ok (.iload 4, 2) := by decide +kernel
theorem dX7_addFile_101 : decode cX7_addFile 101 = .ok (.iload_n 3, 1) := by decide +kernel
theorem dX7_addFile_102 : decode cX7_addFile 102 = .ok (.invokevirtual 73, 3) := by decide +kernel
theorem dX7_addFile_105 : decode cX7_addFile 105 = .ok (.aload_n 0, 1) := by decide +kernel
theorem dX7_addFile_106 : decode cX7_addFile 106 = .ok (.iload_n 1, 1) := by decide +kernel
theorem dX7_addFile_107 : decode cX7_addFile 107 = .ok (.iload 4, 2) := by decide +kernel
theorem dX7_addFile_109 : decode cX7_addFile 109 = .ok (.invokevirtual 77, 3) := by decide +kernel
theorem dX7_addFile_112 : decode cX7_addFile 112 = .ok (.iload 4, 2) := by decide +kernel
theorem dX7_addFile_114 : decode cX7_addFile 114 = .ok (.ireturn, 1) := by decide +kernel
theorem dX7_edit_0 : decode cX7_edit 0 = .ok (.aload_n 0, 1) := by decide +kernel
theorem dX7_edit_1 : decode cX7_edit 1 = .ok (.iload_n 1, 1) := by decide +kernel
theorem dX7_edit_2 : decode cX7_edit 2 = .ok (.invokevirtual 67, 3) := by decide +kernel
theorem dX7_edit_5 : decode cX7_edit 5 = .ok (.ifCond .ne 6, 3) := by decide +kernel
theorem dX7_edit_8 : decode cX7_edit 8 = .ok (.bipush (-2), 2) := by decide +kernel
theorem dX7_edit_10 : decode cX7_edit 10 = .ok (.ireturn, 1) := by decide +kernel
theorem dX7_edit_11 : decode cX7_edit 11 = .ok (.aload_n 0, 1) := by decide +kernel
theorem dX7_edit_12 : decode cX7_edit 12 = .ok (.aload_n 0, 1) := by decide +kernel
theorem dX7_edit_13 : decode cX7_edit 13 = .ok (.getfield 7, 3) := by decide +kernel
theorem dX7_edit_16 : decode cX7_edit 16 = .ok (.iload_n 1, 1) := by decide +kernel
theorem dX7_edit_17 : decode cX7_edit 17 = .ok (.invokestatic 64, 3) := by decide +kernel
theorem dX7_edit_20 : decode cX7_edit 20 = .ok (.iaload, 1) := by decide +kernel
theorem dX7_edit_21 : decode cX7_edit 21 = .ok (.iload_n 1, 1) := by decide +kernel
theorem dX7_edit_22 : decode cX7_edit 22 = .ok (.invokevirtual 77, 3) := by decide +kernel
theorem dX7_edit_25 : decode cX7_edit 25 = .ok (.aload_n 0, 1) := by decide +kernel
theorem dX7_edit_26 : decode cX7_edit 26 = .ok (.getfield 7, 3) := by decide +kernel
theorem dX7_edit_29 : decode cX7_edit 29 = .ok (.iload_n 1, 1) := by decide +kernel
theorem dX7_edit_30 : decode cX7_edit 30 = .ok (.invokestatic 64, 3) := by decide +kernel
theorem dX7_edit_33 : decode cX7_edit 33 = .ok (.iaload, 1) := by decide +kernel
theorem dX7_edit_34 : decode cX7_edit 34 = .ok (.ireturn, 1) := by decide +kernel
theorem dX7_rename_0 : decode cX7_rename 0 = .ok (.aload_n 0, 1) := by decide +kernel
theorem dX7_rename_1 : decode cX7_rename 1 = .ok (.iload_n 1, 1) := by decide +kernel
theorem dX7_rename_2 : decode cX7_rename 2 = .ok (.invokevirtual 67, 3) := by decide +kernel
theorem dX7_rename_5 : decode cX7_rename 5 = .ok (.ifCond .ne 6, 3) := by decide +kernel
theorem dX7_rename_8 : decode cX7_rename 8 = .ok (.bipush (-2), 2) := by decide +kernel
theorem dX7_rename_10 : decode cX7_rename 10 = .ok (.ireturn, 1) := by decide +kernel
theorem dX7_rename_11 : decode cX7_rename 11 = .ok (.iload_n 2, 1) := by decide +kernel
theorem dX7_rename_12 : decode cX7_rename 12 = .ok (.iconst 0, 1) := by decide +kernel
theorem dX7_rename_13 : decode cX7_rename 13 = .ok (.bipush 99, 2) := by decide +kernel
theorem dX7_rename_15 : decode cX7_rename 15 = .ok (.invokestatic 41, 3) := by decide +kernel
theorem dX7_rename_18 : decode cX7_rename 18 = .ok (.ifCond .ne 6, 3) := by decide +kernel
theorem dX7_rename_21 : decode cX7_rename 21 = .ok (.bipush (-3), 2) := by decide +kernel
theorem dX7_rename_23 : decode cX7_rename 23 = .ok (.ireturn, 1) := by decide +kernel
theorem dX7_rename_24 : decode cX7_rename 24 = .ok (.aload_n 0, 1) := by decide +kernel
theorem dX7_rename_25 : decode cX7_rename 25 = .ok (.iload_n 2, 1) := by decide +kernel
theorem dX7_rename_26 : decode cX7_rename 26 = .ok (.invokevirtual 70, 3) := by decide +kernel
theorem dX7_rename_29 : decode cX7_rename 29 = .ok (.ifCond .eq 6, 3) := by decide +kernel
theorem dX7_rename_32 : decode cX7_rename 32 = .ok (.bipush (-9), 2) := by decide +kernel
theorem dX7_rename_34 : decode cX7_rename 34 = .ok (.ireturn, 1) := by decide +kernel
theorem dX7_rename_35 : decode cX7_rename 35 = .ok (.aload_n 0, 1) := by decide +kernel
theorem dX7_rename_36 : decode cX7_rename 36 = .ok (.getfield 7, 3) := by decide +kernel
theorem dX7_rename_39 : decode cX7_rename 39 = .ok (.iload_n 1, 1) := by decide +kernel
theorem dX7_rename_40 : decode cX7_rename 40 = .ok (.invokestatic 64, 3) := by decide +kernel
theorem dX7_rename_43 : decode cX7_rename 43 = .ok (.iconst 2, 1) := by decide +kernel
theorem dX7_rename_44 : decode cX7_rename 44 = .ok (.iadd, 1) := by decide +kernel
theorem dX7_rename_45 : decode cX7_rename 45 = .ok (.iaload, 1) := by decide +kernel
theorem dX7_rename_46 : decode cX7_rename 46 = .ok (.istore_n 3, 1) := by decide +kernel
theorem dX7_rename_47 : decode cX7_rename 47 = .ok (.aload_n 0, 1) := by decide +kernel
theorem dX7_rename_48 : decode cX7_rename 48 = .ok (.iload_n 1, 1) := by decide +kernel
theorem dX7_rename_49 : decode cX7_rename 49 = .ok (.iload_n 2, 1) := by decide +kernel
theorem dX7_rename_50 : decode cX7_rename 50 = .ok (.invokevirtual 73, 3) := by decide +kernel
theorem dX7_rename_53 : decode cX7_rename 53 = .ok (.aload_n 0, 1) := by decide +kernel
theorem dX7_rename_54 : decode cX7_rename 54 = .ok (.getfield 7, 3) := by decide +kernel
theorem dX7_rename_57 : decode cX7_rename 57 = .ok (.iload_n 1, 1) := by decide +kernel
theorem dX7_rename_58 : decode cX7_rename 58 = .ok (.invokestatic 64, 3) := by decide +kernel
theorem dX7_rename_61 : decode cX7_rename 61 = .ok (.iconst 1, 1) := by decide +kernel
theorem dX7_rename_62 : decode cX7_rename 62 = .ok (.iadd, 1) := by decide +kernel
theorem dX7_rename_63 : decode cX7_rename 63 = .ok (.iaload, 1) := by decide +kernel
theorem dX7_rename_64 : decode cX7_rename 64 = .ok (.iconst 1, 1) := by decide +kernel
theorem dX7_rename_65 : decode cX7_rename 65 = .ok (.if_icmp .ne 17, 3) := by decide +kernel
theorem dX7_rename_68 : decode cX7_rename 68 = .ok (.aload_n 0, 1) := by decide +kernel
theorem dX7_rename_69 : decode cX7_rename 69 = .ok (.aload_n 0, 1) := by decide +kernel
theorem dX7_rename_70 : decode cX7_rename 70 = .ok (.getfield 7, 3) := by decide +kernel
theorem dX7_rename_73 : decode cX7_rename 73 = .ok (.iload_n 1, 1) := by decide +kernel
theorem dX7_rename_74 : decode cX7_rename 74 = .ok (.invokestatic 64, 3) := by decide +kernel
theorem dX7_rename_77 : decode cX7_rename 77 = .ok (.iaload, 1) := by decide +kernel
theorem dX7_rename_78 : decode cX7_rename 78 = .ok (.iload_n 1, 1) := by decide +kernel
theorem dX7_rename_79 : decode cX7_rename 79 = .ok (.invokevirtual 77, 3) := by decide +kernel
theorem dX7_rename_82 : decode cX7_rename 82 = .ok (.iload_n 3, 1) := by decide +kernel
theorem dX7_rename_83 : decode cX7_rename 83 = .ok (.ireturn, 1) := by decide +kernel
theorem dX7_move_0 : decode cX7_move 0 = .ok (.aload_n 0, 1) := by decide +kernel
theorem dX7_move_1 : decode cX7_move 1 = .ok (.iload_n 1, 1) := by decide +kernel
theorem dX7_move_2 : decode cX7_move 2 = .ok (.invokevirtual 67, 3) := by decide +kernel
theorem dX7_move_5 : decode cX7_move 5 = .ok (.ifCond .ne 6, 3) := by decide +kernel
theorem dX7_move_8 : decode cX7_move 8 = .ok (.bipush (-2), 2) := by decide +kernel
theorem dX7_move_10 : decode cX7_move 10 = .ok (.ireturn, 1) := by decide +kernel
theorem dX7_move_11 : decode cX7_move 11 = .ok (.aload_n 0, 1) := by decide +kernel
theorem dX7_move_12 : decode cX7_move 12 = .ok (.iload_n 2, 1) := by decide +kernel
theorem dX7_move_13 : decode cX7_move 13 = .ok (.invokevirtual 57, 3) := by decide +kernel
theorem dX7_move_16 : decode cX7_move 16 = .ok (.ifCond .ne 5, 3) := by decide +kernel
theorem dX7_move_19 : decode cX7_move 19 = .ok (.iconst (-1), 1) := by decide +kernel
theorem dX7_move_20 : decode cX7_move 20 = .ok (.ireturn, 1) := by decide +kernel
theorem dX7_move_21 : decode cX7_move 21 = .ok (.aload_n 0, 1) := by decide +kernel
theorem dX7_move_22 : decode cX7_move 22 = .ok (.getfield 7, 3) := by decide +kernel
theorem dX7_move_25 : decode cX7_move 25 = .ok (.iload_n 1, 1) := by decide +kernel
theorem dX7_move_26 : decode cX7_move 26 = .ok (.invokestatic 64, 3) := by decide +kernel
theorem dX7_move_29 : decode cX7_move 29 = .ok (.iaload, 1) := by decide +kernel
theorem dX7_move_30 : decode cX7_move 30 = .ok (.istore_n 3, 1) := by decide +kernel
theorem dX7_move_31 : decode cX7_move 31 = .ok (.iload_n 3, 1) := by decide +kernel
theorem dX7_move_32 : decode cX7_move 32 = .ok (.iload_n 2, 1) := by decide +kernel
theorem dX7_move_33 : decode cX7_move 33 = .ok (.if_icmp .ne 6, 3) := by decide +kernel
theorem dX7_move_36 : decode cX7_move 36 = .ok (.bipush (-4), 2) := by decide +kernel
theorem dX7_move_38 : decode cX7_move 38 = .ok (.ireturn, 1) := by decide +kernel
theorem dX7_move_39 : decode cX7_move 39 = .ok (.aload_n 0, 1) := by decide +kernel
theorem dX7_move_40 : decode cX7_move 40 = .ok (.iload_n 3, 1) := by decide +kernel
theorem dX7_move_41 : decode cX7_move 41 = .ok (.iload_n 1, 1) := by decide +kernel
theorem dX7_move_42 : decode cX7_move 42 = .ok (.invokevirtual 77, 3) := by decide +kernel
theorem dX7_move_45 : decode cX7_move 45 = .ok (.aload_n 0, 1) := by decide +kernel
theorem dX7_move_46 : decode cX7_move 46 = .ok (.iload_n 2, 1) := by decide +kernel
theorem dX7_move_47 : decode cX7_move 47 = .ok (.iload_n 1, 1) := by decide +kernel
theorem dX7_move_48 : decode cX7_move 48 = .ok (.invokevirtual 77, 3) := by decide +kernel
theorem dX7_move_51 : decode cX7_move 51 = .ok (.aload_n 0, 1) := by decide +kernel
theorem dX7_move_52 : decode cX7_move 52 = .ok (.getfield 7, 3) := by decide +kernel
theorem dX7_move_55 : decode cX7_move 55 = .ok (.iload_n 1, 1) := by decide +kernel
theorem dX7_move_56 : decode cX7_move 56 = .ok (.invokestatic 64, 3) := by decide +kernel
theorem dX7_move_59 : decode cX7_move 59 = .ok (.iload_n 2, 1) := by decide +kernel
theorem dX7_move_60 : decode cX7_move 60 = .ok (.iastore, 1) := by decide +kernel
theorem dX7_move_61 : decode cX7_move 61 = .ok (.iload_n 3, 1) := by decide +kernel
theorem dX7_move_62 : decode cX7_move 62 = .ok (.ireturn, 1) := by decide +kernel
theorem dX7_deleteFile_0 : decode cX7_deleteFile 0 = .ok (.aload_n 0, 1) := by decide +kernel
theorem dX7_deleteFile_1 : decode cX7_deleteFile 1 = .ok (.iload_n 1, 1) := by decide +kernel
theorem dX7_deleteFile_2 : decode cX7_deleteFile 2 = .ok (.invokevirtual 67, 3) := by decide +kernel
theorem dX7_deleteFile_5 : decode cX7_deleteFile 5 = .ok (.ifCond .ne 6, 3) := by decide +kernel
theorem dX7_deleteFile_8 : decode cX7_deleteFile 8 = .ok (.bipush (-2), 2) := by decide +kernel
theorem dX7_deleteFile_10 : decode cX7_deleteFile 10 = .ok (.ireturn, 1) := by decide +kernel
theorem dX7_deleteFile_11 : decode cX7_deleteFile 11 = .ok (.aload_n 0, 1) := by decide +kernel
theorem dX7_deleteFile_12 : decode cX7_deleteFile 12 = .ok (.aload_n 0, 1) := by decide +kernel
theorem dX7_deleteFile_13 : decode cX7_deleteFile 13 = .ok (.getfield 7, 3) := by decide +kernel
theorem dX7_deleteFile_16 : decode cX7_deleteFile 16 = .ok (.iload_n 1, 1) := by decide +kernel
theorem dX7_deleteFile_17 : decode cX7_deleteFile 17 = .ok (.invokestatic 64, 3) := by decide +kernel
theorem dX7_deleteFile_20 : decode cX7_deleteFile 20 = .ok (.iaload, 1) := by decide +kernel
theorem dX7_deleteFile_21 : decode cX7_deleteFile 21 = .ok (.iload_n 1, 1) := by decide +kernel
theorem dX7_deleteFile_22 : decode cX7_deleteFile 22 = .ok (.invokevirtual 77, 3) := by decide +kernel
theorem dX7_deleteFile_25 : decode cX7_deleteFile 25 = .ok (.aload_n 0, 1) := by decide +kernel
theorem dX7_deleteFile_26 : decode cX7_deleteFile 26 = .ok (.getfield 7, 3) := by decide +kernel
theorem dX7_deleteFile_29 : decode cX7_deleteFile 29 = .ok (.iload_n 1, 1) := by decide +kernel
theorem dX7_deleteFile_30 : decode cX7_deleteFile 30 = .ok (.invokestatic 64, 3) := by decide +kernel
theorem dX7_deleteFile_33 : decode cX7_deleteFile 33 = .ok (.iconst (-1), 1) := by decide +kernel
theorem dX7_deleteFile_34 : decode cX7_deleteFile 34 = .ok (.iastore, 1) := by decide +kernel
theorem dX7_deleteFile_35 : decode cX7_deleteFile 35 = .ok (.aload_n 0, 1) := by decide +kernel
theorem dX7_deleteFile_36 : decode cX7_deleteFile 36 = .ok (.getfield 7, 3) := by decide +kernel
theorem dX7_deleteFile_39 : decode cX7_deleteFile 39 = .ok (.iload_n 1, 1) := by decide +kernel
theorem dX7_deleteFile_40 : decode cX7_deleteFile 40 = .ok (.invokestatic 64, 3) := by decide +kernel
theorem dX7_deleteFile_43 : decode cX7_deleteFile 43 = .ok (.iconst 2, 1) := by decide +kernel
theorem dX7_deleteFile_44 : decode cX7_deleteFile 44 = .ok (.iadd, 1) := by decide +kernel
theorem dX7_deleteFile_45 : decode cX7_deleteFile 45 = .ok (.iaload, 1) := by decide +kernel
theorem dX7_deleteFile_46 : decode cX7_deleteFile 46 = .ok (.ireturn, 1) := by decide +kernel
theorem dX7_targetOf_0 : decode cX7_targetOf 0 = .ok (.aload_n 0, 1) := by decide +kernel
theorem dX7_targetOf_1 : decode cX7_targetOf 1 = .ok (.iload_n 1, 1) := by decide +kernel
theorem dX7_targetOf_2 : decode cX7_targetOf 2 = .ok (.invokevirtual 67, 3) := by decide +kernel
theorem dX7_targetOf_5 : decode cX7_targetOf 5 = .ok (.ifCond .eq 15, 3) := by decide +kernel
theorem dX7_targetOf_8 : decode cX7_targetOf 8 = .ok (.aload_n 0, 1) := by decide +kernel
theorem dX7_targetOf_9 : decode cX7_targetOf 9 = .ok (.getfield 7, 3) := by decide +kernel
theorem dX7_targetOf_12 : decode cX7_targetOf 12 = .ok (.iload_n 1, 1) := by decide +kernel
theorem dX7_targetOf_13 : decode cX7_targetOf 13 = .ok (.invokestatic 64, 3) := by decide +kernel
theorem dX7_targetOf_16 : decode cX7_targetOf 16 = .ok (.iaload, 1) := by decide +kernel
theorem dX7_targetOf_17 : decode cX7_targetOf 17 = .ok (.goto 5, 3) := by decide +kernel
theorem dX7_targetOf_20 : decode cX7_targetOf 20 = .ok (.bipush (-2), 2) := by decide +kernel
theorem dX7_targetOf_22 : decode cX7_targetOf 22 = .ok (.ireturn, 1) := by decide +kernel
theorem dX7_nameOf_0 : decode cX7_nameOf 0 = .ok (.aload_n 0, 1) := by decide +kernel
theorem dX7_nameOf_1 : decode cX7_nameOf 1 = .ok (.iload_n 1, 1) := by decide +kernel
theorem dX7_nameOf_2 : decode cX7_nameOf 2 = .ok (.invokevirtual 67, 3) := by decide +kernel
theorem dX7_nameOf_5 : decode cX7_nameOf 5 = .ok (.ifCond .eq 17, 3) := by decide +kernel
theorem dX7_nameOf_8 : decode cX7_nameOf 8 = .ok (.aload_n 0, 1) := by decide +kernel
theorem dX7_nameOf_9 : decode cX7_nameOf 9 = .ok (.getfield 7, 3) := by decide +kernel
theorem dX7_nameOf_12 : decode cX7_nameOf 12 = .ok (.iload_n 1, 1) := by decide +kernel
theorem dX7_nameOf_13 : decode cX7_nameOf 13 = .ok (.invokestatic 64, 3) := by decide +kernel
theorem dX7_nameOf_16 : decode cX7_nameOf 16 = .ok (.iconst 2, 1) := by decide +kernel
theorem dX7_nameOf_17 : decode cX7_nameOf 17 = .ok (.iadd, 1) := by decide +kernel
theorem dX7_nameOf_18 : decode cX7_nameOf 18 = .ok (.iaload, 1) := by decide +kernel
theorem dX7_nameOf_19 : decode cX7_nameOf 19 = .ok (.goto 5, 3) := by decide +kernel
theorem dX7_nameOf_22 : decode cX7_nameOf 22 = .ok (.bipush (-2), 2) := by decide +kernel
theorem dX7_nameOf_24 : decode cX7_nameOf 24 = .ok (.ireturn, 1) := by decide +kernel
theorem dX7_follow_0 : decode cX7_follow 0 = .ok (.iload_n 1, 1) := by decide +kernel
theorem dX7_follow_1 : decode cX7_follow 1 = .ok (.iconst 0, 1) := by decide +kernel
theorem dX7_follow_2 : decode cX7_follow 2 = .ok (.bipush 99, 2) := by decide +kernel
theorem dX7_follow_4 : decode cX7_follow 4 = .ok (.invokestatic 41, 3) := by decide +kernel
theorem dX7_follow_7 : decode cX7_follow 7 = .ok (.ifCond .ne 6, 3) := by decide +kernel
theorem dX7_follow_10 : decode cX7_follow 10 = .ok (.bipush (-3), 2) := by decide +kernel
theorem dX7_follow_12 : decode cX7_follow 12 = .ok (.ireturn, 1) := by decide +kernel
theorem dX7_follow_13 : decode cX7_follow 13 = .ok (.aload_n 0, 1) := by decide +kernel
theorem dX7_follow_14 : decode cX7_follow 14 = .ok (.getfield 7, 3) := by decide +kernel
theorem dX7_follow_17 : decode cX7_follow 17 = .ok (.sipush 563, 3) := by decide +kernel
theorem dX7_follow_20 : decode cX7_follow 20 = .ok (.iload_n 1, 1) := by decide +kernel
theorem dX7_follow_21 : decode cX7_follow 21 = .ok (.iadd, 1) := by decide +kernel
theorem dX7_follow_22 : decode cX7_follow 22 = .ok (.iaload, 1) := by decide +kernel
theorem dX7_follow_23 : decode cX7_follow 23 = .ok (.iconst 1, 1) := by decide +kernel
theorem dX7_follow_24 : decode cX7_follow 24 = .ok (.isub, 1) := by decide +kernel
theorem dX7_follow_25 : decode cX7_follow 25 = .ok (.istore_n 2, 1) := by decide +kernel
theorem dX7_follow_26 : decode cX7_follow 26 = .ok (.aload_n 0, 1) := by decide +kernel
theorem dX7_follow_27 : decode cX7_follow 27 = .ok (.iload_n 2, 1) := by decide +kernel
theorem dX7_follow_28 : decode cX7_follow 28 = .ok (.invokevirtual 67, 3) := by decide +kernel
theorem dX7_follow_31 : decode cX7_follow 31 = .ok (.ifCond .eq 7, 3) := by decide +kernel
theorem dX7_follow_34 : decode cX7_follow 34 = .ok (.iload_n 2, 1) := by decide +kernel
theorem dX7_follow_35 : decode cX7_follow 35 = .ok (.goto 5, 3) := by decide +kernel
theorem dX7_follow_38 : decode cX7_follow 38 = .ok (.bipush (-10), 2) := by decide +kernel
theorem dX7_follow_40 : decode cX7_follow 40 = .ok (.ireturn, 1) := by decide +kernel
theorem dX7_follows_0 : decode cX7_follows 0 = .ok (.iload_n 1, 1) := by decide +kernel
theorem dX7_follows_1 : decode cX7_follows 1 = .ok (.iconst 2, 1) := by decide +kernel
theorem dX7_follows_2 : decode cX7_follows 2 = .ok (.idiv, 1) := by decide +kernel
theorem dX7_follows_3 : decode cX7_follows 3 = .ok (.istore_n 3, 1) := by decide +kernel
theorem dX7_follows_4 : decode cX7_follows 4 = .ok (.iload_n 2, 1) := by decide +kernel
theorem dX7_follows_5 : decode cX7_follows 5 = .ok (.iconst 2, 1) := by decide +kernel
theorem dX7_follows_6 : decode cX7_follows 6 = .ok (.idiv, 1) := by decide +kernel
theorem dX7_follows_7 : decode cX7_follows 7 = .ok (.istore 4, 2) := by decide +kernel
theorem dX7_follows_9 : decode cX7_follows 9 = .ok (.iload_n 1, 1) := by decide +kernel
theorem dX7_follows_10 : decode cX7_follows 10 = .ok (.iconst 2, 1) := by decide +kernel
theorem dX7_follows_11 : decode cX7_follows 11 = .ok (.irem, 1) := by decide +kernel
theorem dX7_follows_12 : decode cX7_follows 12 = .ok (.ifCond .ne 7, 3) := by decide +kernel
theorem dX7_follows_15 : decode cX7_follows 15 = .ok (.iconst 1, 1) := by decide +kernel
theorem dX7_follows_16 : decode cX7_follows 16 = .ok (.goto 4, 3) := by decide +kernel
theorem dX7_follows_19 : decode cX7_follows 19 = .ok (.iconst 0, 1) := by decide +kernel
theorem dX7_follows_20 : decode cX7_follows 20 = .ok (.istore 5, 2) := by decide +kernel
theorem dX7_follows_22 : decode cX7_follows 22 = .ok (.iload_n 2, 1) := by decide +kernel
theorem dX7_follows_23 : decode cX7_follows 23 = .ok (.iconst 2, 1) := by decide +kernel
theorem dX7_follows_24 : decode cX7_follows 24 = .ok (.irem, 1) := by decide +kernel
theorem dX7_follows_25 : decode cX7_follows 25 = .ok (.ifCond .ne 7, 3) := by decide +kernel
theorem dX7_follows_28 : decode cX7_follows 28 = .ok (.iconst 1, 1) := by decide +kernel
theorem dX7_follows_29 : decode cX7_follows 29 = .ok (.goto 4, 3) := by decide +kernel
theorem dX7_follows_32 : decode cX7_follows 32 = .ok (.iconst 0, 1) := by decide +kernel
theorem dX7_follows_33 : decode cX7_follows 33 = .ok (.istore 6, 2) := by decide +kernel
theorem dX7_follows_35 : decode cX7_follows 35 = .ok (.iload_n 3, 1) := by decide +kernel
theorem dX7_follows_36 : decode cX7_follows 36 = .ok (.iload 4, 2) := by decide +kernel
theorem dX7_follows_38 : decode cX7_follows 38 = .ok (.if_icmp .ne 19, 3) := by decide +kernel
theorem dX7_follows_41 : decode cX7_follows 41 = .ok (.iload 5, 2) := by decide +kernel
theorem dX7_follows_43 : decode cX7_follows 43 = .ok (.ifCond .eq 12, 3) := by decide +kernel
theorem dX7_follows_46 : decode cX7_follows 46 = .ok (.iload 6, 2) := by decide +kernel
theorem dX7_follows_48 : decode cX7_follows 48 = .ok (.ifCond .ne 7, 3) := by decide +kernel
theorem dX7_follows_51 : decode cX7_follows 51 = .ok (.iconst 1, 1) := by decide +kernel
theorem dX7_follows_52 : decode cX7_follows 52 = .ok (.goto 4, 3) := by decide +kernel
theorem dX7_follows_55 : decode cX7_follows 55 = .ok (.iconst 0, 1) := by decide +kernel
theorem dX7_follows_56 : decode cX7_follows 56 = .ok (.ireturn, 1) := by decide +kernel
theorem dX7_follows_57 : decode cX7_follows 57 = .ok (.aload_n 0, 1) := by decide +kernel
theorem dX7_follows_58 : decode cX7_follows 58 = .ok (.iload 4, 2) := by decide +kernel
theorem dX7_follows_60 : decode cX7_follows 60 = .ok (.iload_n 3, 1) := by decide +kernel
theorem dX7_follows_61 : decode cX7_follows 61 = .ok (.invokevirtual 53, 3) := by decide +kernel
theorem dX7_follows_64 : decode cX7_follows 64 = .ok (.istore 7, 2) := by decide +kernel
theorem dX7_follows_66 : decode cX7_follows 66 = .ok (.iload 5, 2) := by decide +kernel
theorem dX7_follows_68 : decode cX7_follows 68 = .ok (.ifCond .eq 24, 3) := by decide +kernel
theorem dX7_follows_71 : decode cX7_follows 71 = .ok (.iload 7, 2) := by decide +kernel
theorem dX7_follows_73 : decode cX7_follows 73 = .ok (.iload 6, 2) := by decide +kernel
theorem dX7_follows_75 : decode cX7_follows 75 = .ok (.ifCond .eq 7, 3) := by decide +kernel
theorem dX7_follows_78 : decode cX7_follows 78 = .ok (.iconst 0, 1) := by decide +kernel
theorem dX7_follows_79 : decode cX7_follows 79 = .ok (.goto 4, 3) := by decide +kernel
theorem dX7_follows_82 : decode cX7_follows 82 = .ok (.iconst 1, 1) := by decide +kernel
theorem dX7_follows_83 : decode cX7_follows 83 = .ok (.if_icmp .ne 7, 3) := by decide +kernel
theorem dX7_follows_86 : decode cX7_follows 86 = .ok (.iconst 1, 1) := by decide +kernel
theorem dX7_follows_87 : decode cX7_follows 87 = .ok (.goto 4, 3) := by decide +kernel
theorem dX7_follows_90 : decode cX7_follows 90 = .ok (.iconst 0, 1) := by decide +kernel
theorem dX7_follows_91 : decode cX7_follows 91 = .ok (.ireturn, 1) := by decide +kernel
theorem dX7_follows_92 : decode cX7_follows 92 = .ok (.iload 6, 2) := by decide +kernel
theorem dX7_follows_94 : decode cX7_follows 94 = .ok (.ifCond .eq 13, 3) := by decide +kernel
theorem dX7_follows_97 : decode cX7_follows 97 = .ok (.iload 7, 2) := by decide +kernel
theorem dX7_follows_99 : decode cX7_follows 99 = .ok (.iconst 2, 1) := by decide +kernel
theorem dX7_follows_100 : decode cX7_follows 100 = .ok (.if_icmp .ne 7, 3) := by decide +kernel
theorem dX7_follows_103 : decode cX7_follows 103 = .ok (.iconst 1, 1) := by decide +kernel
theorem dX7_follows_104 : decode cX7_follows 104 = .ok (.goto 4, 3) := by decide +kernel
theorem dX7_follows_107 : decode cX7_follows 107 = .ok (.iconst 0, 1) := by decide +kernel
theorem dX7_follows_108 : decode cX7_follows 108 = .ok (.ireturn, 1) := by decide +kernel
theorem dX7_spread_0 : decode cX7_spread 0 = .ok (.iconst 1, 1) := by decide +kernel
theorem dX7_spread_1 : decode cX7_spread 1 = .ok (.istore_n 1, 1) := by decide +kernel
theorem dX7_spread_2 : decode cX7_spread 2 = .ok (.iload_n 1, 1) := by decide +kernel
theorem dX7_spread_3 : decode cX7_spread 3 = .ok (.ifCond .eq 84, 3) := by decide +kernel
theorem dX7_spread_6 : decode cX7_spread 6 = .ok (.iconst 0, 1) := by decide +kernel
theorem dX7_spread_7 : decode cX7_spread 7 = .ok (.istore_n 1, 1) := by decide +kernel
theorem dX7_spread_8 : decode cX7_spread 8 = .ok (.iconst 0, 1) := by decide +kernel
theorem dX7_spread_9 : decode cX7_spread 9 = .ok (.istore_n 2, 1) := by decide +kernel
theorem dX7_spread_10 : decode cX7_spread 10 = .ok (.iload_n 2, 1) := by decide +kernel
theorem dX7_spread_11 : decode cX7_spread 11 = .ok (.iconst 2, 1) := by decide +kernel
theorem dX7_spread_12 : decode cX7_spread 12 = .ok (.aload_n 0, 1) := by decide +kernel
theorem dX7_spread_13 : decode cX7_spread 13 = .ok (.getfield 7, 3) := by decide +kernel
theorem dX7_spread_16 : decode cX7_spread 16 = .ok (.iconst 0, 1) := by decide +kernel
theorem dX7_spread_17 : decode cX7_spread 17 = .ok (.iaload, 1) := by decide +kernel
theorem dX7_spread_18 : decode cX7_spread 18 = .ok (.imul, 1) := by decide +kernel
theorem dX7_spread_19 : decode cX7_spread 19 = .ok (.if_icmp .ge 65, 3) := by decide +kernel
theorem dX7_spread_22 : decode cX7_spread 22 = .ok (.iconst 0, 1) := by decide +kernel
theorem dX7_spread_23 : decode cX7_spread 23 = .ok (.istore_n 3, 1) := by decide +kernel
theorem dX7_spread_24 : decode cX7_spread 24 = .ok (.iload_n 3, 1) := by decide +kernel
theorem dX7_spread_25 : decode cX7_spread 25 = .ok (.iconst 2, 1) := by decide +kernel
theorem dX7_spread_26 : decode cX7_spread 26 = .ok (.aload_n 0, 1) := by decide +kernel
theorem dX7_spread_27 : decode cX7_spread 27 = .ok (.getfield 7, 3) := by decide +kernel
theorem dX7_spread_30 : decode cX7_spread 30 = .ok (.iconst 0, 1) := by decide +kernel
theorem dX7_spread_31 : decode cX7_spread 31 = .ok (.iaload, 1) := by decide +kernel
theorem dX7_spread_32 : decode cX7_spread 32 = .ok (.imul, 1) := by decide +kernel
theorem dX7_spread_33 : decode cX7_spread 33 = .ok (.if_icmp .ge 45, 3) := by decide +kernel
theorem dX7_spread_36 : decode cX7_spread 36 = .ok (.aload_n 0, 1) := by decide +kernel
theorem dX7_spread_37 : decode cX7_spread 37 = .ok (.getfield 20, 3) := by decide +kernel
theorem dX7_spread_40 : decode cX7_spread 40 = .ok (.iload_n 2, 1) := by decide +kernel
theorem dX7_spread_41 : decode cX7_spread 41 = .ok (.baload, 1) := by decide +kernel
theorem dX7_spread_42 : decode cX7_spread 42 = .ok (.ifCond .eq 30, 3) := by decide +kernel
theorem dX7_spread_45 : decode cX7_spread 45 = .ok (.aload_n 0, 1) := by decide +kernel
theorem dX7_spread_46 : decode cX7_spread 46 = .ok (.getfield 20, 3) := by decide +kernel
theorem dX7_spread_49 : decode cX7_spread 49 = .ok (.iload_n 3, 1) := by decide +kernel
theorem dX7_spread_50 : decode cX7_spread 50 = .ok (.baload, 1) := by decide +kernel
theorem dX7_spread_51 : decode cX7_spread 51 = .ok (.ifCond .ne 21, 3) := by decide +kernel
theorem dX7_spread_54 : decode cX7_spread 54 = .ok (.aload_n 0, 1) := by decide +kernel
theorem dX7_spread_55 : decode cX7_spread 55 = .ok (.iload_n 2, 1) := by decide +kernel
theorem dX7_spread_56 : decode cX7_spread 56 = .ok (.iload_n 3, 1) := by decide +kernel
theorem dX7_spread_57 : decode cX7_spread 57 = .ok (.invokevirtual 80, 3) := by decide +kernel
theorem dX7_spread_60 : decode cX7_spread 60 = .ok (.ifCond .eq 12, 3) := by decide +kernel
theorem dX7_spread_63 : decode cX7_spread 63 = .ok (.aload_n 0, 1) := by decide +kernel
theorem dX7_spread_64 : decode cX7_spread 64 = .ok (.getfield 20, 3) := by decide +kernel
theorem dX7_spread_67 : decode cX7_spread 67 = .ok (.iload_n 3, 1) := by decide +kernel
theorem dX7_spread_68 : decode cX7_spread 68 = .ok (.iconst 1, 1) := by decide +kernel
theorem dX7_spread_69 : decode cX7_spread 69 = .ok (.bastore, 1) := by decide +kernel
theorem dX7_spread_70 : decode cX7_spread 70 = .ok (.iconst 1, 1) := by decide +kernel
theorem dX7_spread_71 : decode cX7_spread 71 = .ok (.istore_n 1, 1) := by decide +kernel
theorem dX7_spread_72 : decode cX7_spread 72 = .ok (.iinc 3 1, 3) := by decide +kernel
theorem dX7_spread_75 : decode cX7_spread 75 = .ok (.goto (-51), 3) := by decide +kernel
theorem dX7_spread_78 : decode cX7_spread 78 = .ok (.iinc 2 1, 3) := by decide +kernel
theorem dX7_spread_81 : decode cX7_spread 81 = .ok (.goto (-71), 3) := by decide +kernel
theorem dX7_spread_84 : decode cX7_spread 84 = .ok (.goto (-82), 3) := by decide +kernel
theorem dX7_spread_87 : decode cX7_spread 87 = .ok (.return_, 1) := by decide +kernel
theorem dX7_layChanged_0 : decode cX7_layChanged 0 = .ok (.iconst 0, 1) := by decide +kernel
theorem dX7_layChanged_1 : decode cX7_layChanged 1 = .ok (.istore_n 1, 1) := by decide +kernel
theorem dX7_layChanged_2 : decode cX7_layChanged 2 = .ok (.iload_n 1, 1) := by decide +kernel
theorem dX7_layChanged_3 : decode cX7_layChanged 3 = .ok (.bipush 40, 2) := by decide +kernel
theorem dX7_layChanged_5 : decode cX7_layChanged 5 = .ok (.if_icmp .ge 34, 3) := by decide +kernel
theorem dX7_layChanged_8 : decode cX7_layChanged 8 = .ok (.aload_n 0, 1) := by decide +kernel
theorem dX7_layChanged_9 : decode cX7_layChanged 9 = .ok (.getfield 20, 3) := by decide +kernel
theorem dX7_layChanged_12 : decode cX7_layChanged 12 = .ok (.iload_n 1, 1) := by decide +kernel
theorem dX7_layChanged_13 : decode cX7_layChanged 13 = .ok (.aload_n 0, 1) := by decide +kernel
theorem dX7_layChanged_14 : decode cX7_layChanged 14 = .ok (.getfield 7, 3) := by decide +kernel
theorem dX7_layChanged_17 : decode cX7_layChanged 17 = .ok (.sipush 663, 3) := by decide +kernel
theorem dX7_layChanged_20 : decode cX7_layChanged 20 = .ok (.iload_n 1, 1) := by decide +kernel
theorem dX7_layChanged_21 : decode cX7_layChanged 21 = .ok (.iadd, 1) := by decide +kernel
theorem dX7_layChanged_22 : decode cX7_layChanged 22 = .ok (.iaload, 1) := by decide +kernel
theorem dX7_layChanged_23 : decode cX7_layChanged 23 = .ok (.iconst 1, 1) := by decide +kernel
theorem dX7_layChanged_24 : decode cX7_layChanged 24 = .ok (.if_icmp .ne 7, 3) := by decide +kernel
theorem dX7_layChanged_27 : decode cX7_layChanged 27 = .ok (.iconst 1, 1) := by decide +kernel
theorem dX7_layChanged_28 : decode cX7_layChanged 28 = .ok (.goto 4, 3) := by decide +kernel
theorem dX7_layChanged_31 : decode cX7_layChanged 31 = .ok (.iconst 0, 1) := by decide +kernel
theorem dX7_layChanged_32 : decode cX7_layChanged 32 = .ok (.bastore, 1) := by decide +kernel
theorem dX7_layChanged_33 : decode cX7_layChanged 33 = .ok (.iinc 1 1, 3) := by decide +kernel
theorem dX7_layChanged_36 : decode cX7_layChanged 36 = .ok (.goto (-34), 3) := by decide +kernel
theorem dX7_layChanged_39 : decode cX7_layChanged 39 = .ok (.aload_n 0, 1) := by decide +kernel
theorem dX7_layChanged_40 : decode cX7_layChanged 40 = .ok (.invokevirtual 84, 3) := by decide +kernel
theorem dX7_layChanged_43 : decode cX7_layChanged 43 = .ok (.return_, 1) := by decide +kernel
theorem dX7_setOf_0 : decode cX7_setOf 0 = .ok (.iconst 0, 1) := by decide +kernel
theorem dX7_setOf_1 : decode cX7_setOf 1 = .ok (.istore_n 2, 1) := by decide +kernel
theorem dX7_setOf_2 : decode cX7_setOf 2 = .ok (.iconst 0, 1) := by decide +kernel
theorem dX7_setOf_3 : decode cX7_setOf 3 = .ok (.istore_n 3, 1) := by decide +kernel
theorem dX7_setOf_4 : decode cX7_setOf 4 = .ok (.iload_n 3, 1) := by decide +kernel
theorem dX7_setOf_5 : decode cX7_setOf 5 = .ok (.aload_n 0, 1) := by decide +kernel
theorem dX7_setOf_6 : decode cX7_setOf 6 = .ok (.getfield 7, 3) := by decide +kernel
theorem dX7_setOf_9 : decode cX7_setOf 9 = .ok (.iconst 0, 1) := by decide +kernel
theorem dX7_setOf_10 : decode cX7_setOf 10 = .ok (.iaload, 1) := by decide +kernel
theorem dX7_setOf_11 : decode cX7_setOf 11 = .ok (.if_icmp .ge 32, 3) := by decide +kernel
theorem dX7_setOf_14 : decode cX7_setOf 14 = .ok (.iload_n 2, 1) := by decide +kernel
theorem dX7_setOf_15 : decode cX7_setOf 15 = .ok (.aload_n 0, 1) := by decide +kernel
theorem dX7_setOf_16 : decode cX7_setOf 16 = .ok (.getfield 20, 3) := by decide +kernel
theorem dX7_setOf_19 : decode cX7_setOf 19 = .ok (.iconst 2, 1) := by decide +kernel
theorem dX7_setOf_20 : decode cX7_setOf 20 = .ok (.iload_n 3, 1) := by decide +kernel
theorem dX7_setOf_21 : decode cX7_setOf 21 = .ok (.imul, 1) := by decide +kernel
theorem dX7_setOf_22 : decode cX7_setOf 22 = .ok (.iload_n 1, 1) := by decide +kernel
theorem dX7_setOf_23 : decode cX7_setOf 23 = .ok (.iadd, 1) := by decide +kernel
theorem dX7_setOf_24 : decode cX7_setOf 24 = .ok (.baload, 1) := by decide +kernel
theorem dX7_setOf_25 : decode cX7_setOf 25 = .ok (.ifCond .eq 9, 3) := by decide +kernel
theorem dX7_setOf_28 : decode cX7_setOf 28 = .ok (.iconst 1, 1) := by decide +kernel
theorem dX7_setOf_29 : decode cX7_setOf 29 = .ok (.iload_n 3, 1) := by decide +kernel
theorem dX7_setOf_30 : decode cX7_setOf 30 = .ok (.ishl, 1) := by decide +kernel
theorem dX7_setOf_31 : decode cX7_setOf 31 = .ok (.goto 4, 3) := by decide +kernel
theorem dX7_setOf_34 : decode cX7_setOf 34 = .ok (.iconst 0, 1) := by decide +kernel
theorem dX7_setOf_35 : decode cX7_setOf 35 = .ok (.ior, 1) := by decide +kernel
theorem dX7_setOf_36 : decode cX7_setOf 36 = .ok (.istore_n 2, 1) := by decide +kernel
theorem dX7_setOf_37 : decode cX7_setOf 37 = .ok (.iinc 3 1, 3) := by decide +kernel
theorem dX7_setOf_40 : decode cX7_setOf 40 = .ok (.goto (-36), 3) := by decide +kernel
theorem dX7_setOf_43 : decode cX7_setOf 43 = .ok (.iload_n 2, 1) := by decide +kernel
theorem dX7_setOf_44 : decode cX7_setOf 44 = .ok (.ireturn, 1) := by decide +kernel
theorem dX7_clearChanges_0 : decode cX7_clearChanges 0 = .ok (.iconst 0, 1) := by decide +kernel
theorem dX7_clearChanges_1 : decode cX7_clearChanges 1 = .ok (.istore_n 1, 1) := by decide +kernel
theorem dX7_clearChanges_2 : decode cX7_clearChanges 2 = .ok (.iconst 0, 1) := by decide +kernel
theorem dX7_clearChanges_3 : decode cX7_clearChanges 3 = .ok (.istore_n 2, 1) := by decide +kernel
theorem dX7_clearChanges_4 : decode cX7_clearChanges 4 = .ok (.iload_n 2, 1) := by decide +kernel
theorem dX7_clearChanges_5 : decode cX7_clearChanges 5 = .ok (.bipush 40, 2) := by decide +kernel
theorem dX7_clearChanges_7 : decode cX7_clearChanges 7 = .ok (.if_icmp .ge 33, 3) := by decide +kernel
theorem dX7_clearChanges_10 : decode cX7_clearChanges 10 = .ok (.iload_n 1, 1) := by decide +kernel
theorem dX7_clearChanges_11 : decode cX7_clearChanges 11 = .ok (.aload_n 0, 1) := by decide +kernel
theorem dX7_clearChanges_12 : decode cX7_clearChanges 12 = .ok (.getfield 7, 3) := by decide +kernel
theorem dX7_clearChanges_15 : decode cX7_clearChanges 15 = .ok (.sipush 663, 3) := by decide +kernel
theorem dX7_clearChanges_18 : decode cX7_clearChanges 18 = .ok (.iload_n 2, 1) := by decide +kernel
theorem dX7_clearChanges_19 : decode cX7_clearChanges 19 = .ok (.iadd, 1) := by decide +kernel
theorem dX7_clearChanges_20 : decode cX7_clearChanges 20 = .ok (.iaload, 1) := by decide +kernel
theorem dX7_clearChanges_21 : decode cX7_clearChanges 21 = .ok (.iadd, 1) := by decide +kernel
theorem dX7_clearChanges_22 : decode cX7_clearChanges 22 = .ok (.istore_n 1, 1) := by decide +kernel
theorem dX7_clearChanges_23 : decode cX7_clearChanges 23 = .ok (.aload_n 0, 1) := by decide +kernel
theorem dX7_clearChanges_24 : decode cX7_clearChanges 24 = .ok (.getfield 7, 3) := by decide +kernel
theorem dX7_clearChanges_27 : decode cX7_clearChanges 27 = .ok (.sipush 663, 3) := by decide +kernel
theorem dX7_clearChanges_30 : decode cX7_clearChanges 30 = .ok (.iload_n 2, 1) := by decide +kernel
theorem dX7_clearChanges_31 : decode cX7_clearChanges 31 = .ok (.iadd, 1) := by decide +kernel
theorem dX7_clearChanges_32 : decode cX7_clearChanges 32 = .ok (.iconst 0, 1) := by decide +kernel
theorem dX7_clearChanges_33 : decode cX7_clearChanges 33 = .ok (.iastore, 1) := by decide +kernel
theorem dX7_clearChanges_34 : decode cX7_clearChanges 34 = .ok (.iinc 2 1, 3) := by decide +kernel
theorem dX7_clearChanges_37 : decode cX7_clearChanges 37 = .ok (.goto (-33), 3) := by decide +kernel
theorem dX7_clearChanges_40 : decode cX7_clearChanges 40 = .ok (.iload_n 1, 1) := by decide +kernel
theorem dX7_clearChanges_41 : decode cX7_clearChanges 41 = .ok (.ireturn, 1) := by decide +kernel
theorem dX7_isPart_0 : decode cX7_isPart 0 = .ok (.iload_n 0, 1) := by decide +kernel
theorem dX7_isPart_1 : decode cX7_isPart 1 = .ok (.iconst 0, 1) := by decide +kernel
theorem dX7_isPart_2 : decode cX7_isPart 2 = .ok (.iconst 1, 1) := by decide +kernel
theorem dX7_isPart_3 : decode cX7_isPart 3 = .ok (.invokestatic 41, 3) := by decide +kernel
theorem dX7_isPart_6 : decode cX7_isPart 6 = .ok (.ireturn, 1) := by decide +kernel
end
section
theorem dX7_directlyChanged_0 : decode cX7_directlyChanged 0 = .ok (.iload_n 1, 1) := by decide +kernel
theorem dX7_directlyChanged_1 : decode cX7_directlyChanged 1 = .ok (.invokestatic 87, 3) := by decide +kernel
theorem dX7_directlyChanged_4 : decode cX7_directlyChanged 4 = .ok (.ifCond .ne 6, 3) := by decide +kernel
theorem dX7_directlyChanged_7 : decode cX7_directlyChanged 7 = .ok (.bipush (-3), 2) := by decide +kernel
theorem dX7_directlyChanged_9 : decode cX7_directlyChanged 9 = .ok (.ireturn, 1) := by decide +kernel
theorem dX7_directlyChanged_10 : decode cX7_directlyChanged 10 = .ok (.iconst 0, 1) := by decide +kernel
theorem dX7_directlyChanged_11 : decode cX7_directlyChanged 11 = .ok (.istore_n 2, 1) := by decide +kernel
theorem dX7_directlyChanged_12 : decode cX7_directlyChanged 12 = .ok (.iconst 0, 1) := by decide +kernel
theorem dX7_directlyChanged_13 : decode cX7_directlyChanged 13 = .ok (.istore_n 3, 1) := by decide +kernel
theorem dX7_directlyChanged_14 : decode cX7_directlyChanged 14 = .ok (.iload_n 3, 1) := by decide +kernel
theorem dX7_directlyChanged_15 : decode cX7_directlyChanged 15 = .ok (.aload_n 0, 1) := by decide +kernel
theorem dX7_directlyChanged_16 : decode cX7_directlyChanged 16 = .ok (.getfield 7, 3) := by decide +kernel
theorem dX7_directlyChanged_19 : decode cX7_directlyChanged 19 = .ok (.iconst 0, 1) := by decide +kernel
theorem dX7_directlyChanged_20 : decode cX7_directlyChanged 20 = .ok (.iaload, 1) := by decide +kernel
theorem dX7_directlyChanged_21 : decode cX7_directlyChanged 21 = .ok (.if_icmp .ge 37, 3) := by decide +kernel
theorem dX7_directlyChanged_24 : decode cX7_directlyChanged 24 = .ok (.iload_n 2, 1) := by decide +kernel
theorem dX7_directlyChanged_25 : decode cX7_directlyChanged 25 = .ok (.aload_n 0, 1) := by decide +kernel
theorem dX7_directlyChanged_26 : decode cX7_directlyChanged 26 = .ok (.getfield 7, 3) := by decide +kernel
theorem dX7_directlyChanged_29 : decode cX7_directlyChanged 29 = .ok (.sipush 663, 3) := by decide +kernel
theorem dX7_directlyChanged_32 : decode cX7_directlyChanged 32 = .ok (.iconst 2, 1) := by decide +kernel
theorem dX7_directlyChanged_33 : decode cX7_directlyChanged 33 = .ok (.iload_n 3, 1) := by decide +kernel
theorem dX7_directlyChanged_34 : decode cX7_directlyChanged 34 = .ok (.imul, 1) := by decide +kernel
theorem dX7_directlyChanged_35 : decode cX7_directlyChanged 35 = .ok (.iadd, 1) := by decide +kernel
theorem dX7_directlyChanged_36 : decode cX7_directlyChanged 36 = .ok (.iload_n 1, 1) := by decide +kernel
theorem dX7_directlyChanged_37 : decode cX7_directlyChanged 37 = .ok (.iadd, 1) := by decide +kernel
theorem dX7_directlyChanged_38 : decode cX7_directlyChanged 38 = .ok (.iaload, 1) := by decide +kernel
theorem dX7_directlyChanged_39 : decode cX7_directlyChanged 39 = .ok (.iconst 1, 1) := by decide +kernel
theorem dX7_directlyChanged_40 : decode cX7_directlyChanged 40 = .ok (.if_icmp .ne 9, 3) := by decide +kernel
theorem dX7_directlyChanged_43 : decode cX7_directlyChanged 43 = .ok (.iconst 1, 1) := by decide +kernel
theorem dX7_directlyChanged_44 : decode cX7_directlyChanged 44 = .ok (.iload_n 3, 1) := by decide +kernel
theorem dX7_directlyChanged_45 : decode cX7_directlyChanged 45 = .ok (.ishl, 1) := by decide +kernel
theorem dX7_directlyChanged_46 : decode cX7_directlyChanged 46 = .ok (.goto 4, 3) := by decide +kernel
theorem dX7_directlyChanged_49 : decode cX7_directlyChanged 49 = .ok (.iconst 0, 1) := by decide +kernel
theorem dX7_directlyChanged_50 : decode cX7_directlyChanged 50 = .ok (.ior, 1) := by decide +kernel
theorem dX7_directlyChanged_51 : decode cX7_directlyChanged 51 = .ok (.istore_n 2, 1) := by decide +kernel
theorem dX7_directlyChanged_52 : decode cX7_directlyChanged 52 = .ok (.iinc 3 1, 3) := by decide +kernel
theorem dX7_directlyChanged_55 : decode cX7_directlyChanged 55 = .ok (.goto (-41), 3) := by decide +kernel
theorem dX7_directlyChanged_58 : decode cX7_directlyChanged 58 = .ok (.iload_n 2, 1) := by decide +kernel
theorem dX7_directlyChanged_59 : decode cX7_directlyChanged 59 = .ok (.ireturn, 1) := by decide +kernel
theorem dX7_changed_0 : decode cX7_changed 0 = .ok (.iload_n 1, 1) := by decide +kernel
theorem dX7_changed_1 : decode cX7_changed 1 = .ok (.invokestatic 87, 3) := by decide +kernel
theorem dX7_changed_4 : decode cX7_changed 4 = .ok (.ifCond .ne 6, 3) := by decide +kernel
theorem dX7_changed_7 : decode cX7_changed 7 = .ok (.bipush (-3), 2) := by decide +kernel
theorem dX7_changed_9 : decode cX7_changed 9 = .ok (.ireturn, 1) := by decide +kernel
theorem dX7_changed_10 : decode cX7_changed 10 = .ok (.aload_n 0, 1) := by decide +kernel
theorem dX7_changed_11 : decode cX7_changed 11 = .ok (.invokevirtual 90, 3) := by decide +kernel
theorem dX7_changed_14 : decode cX7_changed 14 = .ok (.aload_n 0, 1) := by decide +kernel
theorem dX7_changed_15 : decode cX7_changed 15 = .ok (.iload_n 1, 1) := by decide +kernel
theorem dX7_changed_16 : decode cX7_changed 16 = .ok (.invokevirtual 93, 3) := by decide +kernel
theorem dX7_changed_19 : decode cX7_changed 19 = .ok (.ireturn, 1) := by decide +kernel
theorem dX7_rebuilt_0 : decode cX7_rebuilt 0 = .ok (.aload_n 0, 1) := by decide +kernel
theorem dX7_rebuilt_1 : decode cX7_rebuilt 1 = .ok (.invokevirtual 90, 3) := by decide +kernel
theorem dX7_rebuilt_4 : decode cX7_rebuilt 4 = .ok (.aload_n 0, 1) := by decide +kernel
theorem dX7_rebuilt_5 : decode cX7_rebuilt 5 = .ok (.iconst 1, 1) := by decide +kernel
theorem dX7_rebuilt_6 : decode cX7_rebuilt 6 = .ok (.invokevirtual 93, 3) := by decide +kernel
theorem dX7_rebuilt_9 : decode cX7_rebuilt 9 = .ok (.ireturn, 1) := by decide +kernel
theorem dX7_affectedTests_0 : decode cX7_affectedTests 0 = .ok (.aload_n 0, 1) := by decide +kernel
theorem dX7_affectedTests_1 : decode cX7_affectedTests 1 = .ok (.invokevirtual 96, 3) := by decide +kernel
theorem dX7_affectedTests_4 : decode cX7_affectedTests 4 = .ok (.istore_n 1, 1) := by decide +kernel
theorem dX7_affectedTests_5 : decode cX7_affectedTests 5 = .ok (.iconst 0, 1) := by decide +kernel
theorem dX7_affectedTests_6 : decode cX7_affectedTests 6 = .ok (.istore_n 2, 1) := by decide +kernel
theorem dX7_affectedTests_7 : decode cX7_affectedTests 7 = .ok (.iconst 0, 1) := by decide +kernel
theorem dX7_affectedTests_8 : decode cX7_affectedTests 8 = .ok (.istore_n 3, 1) := by decide +kernel
theorem dX7_affectedTests_9 : decode cX7_affectedTests 9 = .ok (.iload_n 3, 1) := by decide +kernel
theorem dX7_affectedTests_10 : decode cX7_affectedTests 10 = .ok (.aload_n 0, 1) := by decide +kernel
theorem dX7_affectedTests_11 : decode cX7_affectedTests 11 = .ok (.getfield 7, 3) := by decide +kernel
theorem dX7_affectedTests_14 : decode cX7_affectedTests 14 = .ok (.iconst 0, 1) := by decide +kernel
theorem dX7_affectedTests_15 : decode cX7_affectedTests 15 = .ok (.iaload, 1) := by decide +kernel
theorem dX7_affectedTests_16 : decode cX7_affectedTests 16 = .ok (.if_icmp .ge 39, 3) := by decide +kernel
theorem dX7_affectedTests_19 : decode cX7_affectedTests 19 = .ok (.iload_n 2, 1) := by decide +kernel
theorem dX7_affectedTests_20 : decode cX7_affectedTests 20 = .ok (.aload_n 0, 1) := by decide +kernel
theorem dX7_affectedTests_21 : decode cX7_affectedTests 21 = .ok (.iload_n 3, 1) := by decide +kernel
theorem dX7_affectedTests_22 : decode cX7_affectedTests 22 = .ok (.invokevirtual 45, 3) := by decide +kernel
theorem dX7_affectedTests_25 : decode cX7_affectedTests 25 = .ok (.iconst 2, 1) := by decide +kernel
theorem dX7_affectedTests_26 : decode cX7_affectedTests 26 = .ok (.if_icmp .ne 20, 3) := by decide +kernel
theorem dX7_affectedTests_29 : decode cX7_affectedTests 29 = .ok (.aload_n 0, 1) := by decide +kernel
theorem dX7_affectedTests_30 : decode cX7_affectedTests 30 = .ok (.iload_n 3, 1) := by decide +kernel
theorem dX7_affectedTests_31 : decode cX7_affectedTests 31 = .ok (.iconst 2, 1) := by decide +kernel
theorem dX7_affectedTests_32 : decode cX7_affectedTests 32 = .ok (.invokevirtual 61, 3) := by decide +kernel
theorem dX7_affectedTests_35 : decode cX7_affectedTests 35 = .ok (.iload_n 1, 1) := by decide +kernel
theorem dX7_affectedTests_36 : decode cX7_affectedTests 36 = .ok (.iand, 1) := by decide +kernel
theorem dX7_affectedTests_37 : decode cX7_affectedTests 37 = .ok (.ifCond .eq 9, 3) := by decide +kernel
theorem dX7_affectedTests_40 : decode cX7_affectedTests 40 = .ok (.iconst 1, 1) := by decide +kernel
theorem dX7_affectedTests_41 : decode cX7_affectedTests 41 = .ok (.iload_n 3, 1) := by decide +kernel
theorem dX7_affectedTests_42 : decode cX7_affectedTests 42 = .ok (.ishl, 1) := by decide +kernel
theorem dX7_affectedTests_43 : decode cX7_affectedTests 43 = .ok (.goto 4, 3) := by decide +kernel
theorem dX7_affectedTests_46 : decode cX7_affectedTests 46 = .ok (.iconst 0, 1) := by decide +kernel
theorem dX7_affectedTests_47 : decode cX7_affectedTests 47 = .ok (.ior, 1) := by decide +kernel
theorem dX7_affectedTests_48 : decode cX7_affectedTests 48 = .ok (.istore_n 2, 1) := by decide +kernel
theorem dX7_affectedTests_49 : decode cX7_affectedTests 49 = .ok (.iinc 3 1, 3) := by decide +kernel
theorem dX7_affectedTests_52 : decode cX7_affectedTests 52 = .ok (.goto (-43), 3) := by decide +kernel
theorem dX7_affectedTests_55 : decode cX7_affectedTests 55 = .ok (.iload_n 2, 1) := by decide +kernel
theorem dX7_affectedTests_56 : decode cX7_affectedTests 56 = .ok (.ireturn, 1) := by decide +kernel
theorem dX7_laySteps_0 : decode cX7_laySteps 0 = .ok (.iconst 0, 1) := by decide +kernel
theorem dX7_laySteps_1 : decode cX7_laySteps 1 = .ok (.istore_n 2, 1) := by decide +kernel
theorem dX7_laySteps_2 : decode cX7_laySteps 2 = .ok (.iload_n 2, 1) := by decide +kernel
theorem dX7_laySteps_3 : decode cX7_laySteps 3 = .ok (.bipush 40, 2) := by decide +kernel
theorem dX7_laySteps_5 : decode cX7_laySteps 5 = .ok (.if_icmp .ge 26, 3) := by decide +kernel
theorem dX7_laySteps_8 : decode cX7_laySteps 8 = .ok (.aload_n 0, 1) := by decide +kernel
theorem dX7_laySteps_9 : decode cX7_laySteps 9 = .ok (.getfield 23, 3) := by decide +kernel
theorem dX7_laySteps_12 : decode cX7_laySteps 12 = .ok (.iload_n 2, 1) := by decide +kernel
theorem dX7_laySteps_13 : decode cX7_laySteps 13 = .ok (.iload_n 2, 1) := by decide +kernel
theorem dX7_laySteps_14 : decode cX7_laySteps 14 = .ok (.iload_n 1, 1) := by decide +kernel
theorem dX7_laySteps_15 : decode cX7_laySteps 15 = .ok (.if_icmp .ne 7, 3) := by decide +kernel
theorem dX7_laySteps_18 : decode cX7_laySteps 18 = .ok (.iconst 0, 1) := by decide +kernel
theorem dX7_laySteps_19 : decode cX7_laySteps 19 = .ok (.goto 5, 3) := by decide +kernel
theorem dX7_laySteps_22 : decode cX7_laySteps 22 = .ok (.bipush (-10), 2) := by decide +kernel
theorem dX7_laySteps_24 : decode cX7_laySteps 24 = .ok (.iastore, 1) := by decide +kernel
theorem dX7_laySteps_25 : decode cX7_laySteps 25 = .ok (.iinc 2 1, 3) := by decide +kernel
theorem dX7_laySteps_28 : decode cX7_laySteps 28 = .ok (.goto (-26), 3) := by decide +kernel
theorem dX7_laySteps_31 : decode cX7_laySteps 31 = .ok (.iconst 0, 1) := by decide +kernel
theorem dX7_laySteps_32 : decode cX7_laySteps 32 = .ok (.istore_n 2, 1) := by decide +kernel
theorem dX7_laySteps_33 : decode cX7_laySteps 33 = .ok (.iload_n 2, 1) := by decide +kernel
theorem dX7_laySteps_34 : decode cX7_laySteps 34 = .ok (.bipush 40, 2) := by decide +kernel
theorem dX7_laySteps_36 : decode cX7_laySteps 36 = .ok (.if_icmp .ge 99, 3) := by decide +kernel
theorem dX7_laySteps_39 : decode cX7_laySteps 39 = .ok (.iconst 0, 1) := by decide +kernel
theorem dX7_laySteps_40 : decode cX7_laySteps 40 = .ok (.istore_n 3, 1) := by decide +kernel
theorem dX7_laySteps_41 : decode cX7_laySteps 41 = .ok (.iload_n 3, 1) := by decide +kernel
theorem dX7_laySteps_42 : decode cX7_laySteps 42 = .ok (.iconst 2, 1) := by decide +kernel
theorem dX7_laySteps_43 : decode cX7_laySteps 43 = .ok (.aload_n 0, 1) := by decide +kernel
theorem dX7_laySteps_44 : decode cX7_laySteps 44 = .ok (.getfield 7, 3) := by decide +kernel
theorem dX7_laySteps_47 : decode cX7_laySteps 47 = .ok (.iconst 0, 1) := by decide +kernel
theorem dX7_laySteps_48 : decode cX7_laySteps 48 = .ok (.iaload, 1) := by decide +kernel
theorem dX7_laySteps_49 : decode cX7_laySteps 49 = .ok (.imul, 1) := by decide +kernel
theorem dX7_laySteps_50 : decode cX7_laySteps 50 = .ok (.if_icmp .ge 79, 3) := by decide +kernel
theorem dX7_laySteps_53 : decode cX7_laySteps 53 = .ok (.iconst 0, 1) := by decide +kernel
theorem dX7_laySteps_54 : decode cX7_laySteps 54 = .ok (.istore 4, 2) := by decide +kernel
theorem dX7_laySteps_56 : decode cX7_laySteps 56 = .ok (.iload 4, 2) := by decide +kernel
theorem dX7_laySteps_58 : decode cX7_laySteps 58 = .ok (.iconst 2, 1) := by decide +kernel
theorem dX7_laySteps_59 : decode cX7_laySteps 59 = .ok (.aload_n 0, 1) := by decide +kernel
theorem dX7_laySteps_60 : decode cX7_laySteps 60 = .ok (.getfield 7, 3) := by decide +kernel
theorem dX7_laySteps_63 : decode cX7_laySteps 63 = .ok (.iconst 0, 1) := by decide +kernel
theorem dX7_laySteps_64 : decode cX7_laySteps 64 = .ok (.iaload, 1) := by decide +kernel
theorem dX7_laySteps_65 : decode cX7_laySteps 65 = .ok (.imul, 1) := by decide +kernel
theorem dX7_laySteps_66 : decode cX7_laySteps 66 = .ok (.if_icmp .ge 57, 3) := by decide +kernel
theorem dX7_laySteps_69 : decode cX7_laySteps 69 = .ok (.aload_n 0, 1) := by decide +kernel
theorem dX7_laySteps_70 : decode cX7_laySteps 70 = .ok (.getfield 23, 3) := by decide +kernel
theorem dX7_laySteps_73 : decode cX7_laySteps 73 = .ok (.iload_n 3, 1) := by decide +kernel
theorem dX7_laySteps_74 : decode cX7_laySteps 74 = .ok (.iaload, 1) := by decide +kernel
theorem dX7_laySteps_75 : decode cX7_laySteps 75 = .ok (.ifCond .ge 48, 3) := by decide +kernel
theorem dX7_laySteps_78 : decode cX7_laySteps 78 = .ok (.aload_n 0, 1) := by decide +kernel
theorem dX7_laySteps_79 : decode cX7_laySteps 79 = .ok (.getfield 23, 3) := by decide +kernel
theorem dX7_laySteps_82 : decode cX7_laySteps 82 = .ok (.iload_n 3, 1) := by decide +kernel
theorem dX7_laySteps_83 : decode cX7_laySteps 83 = .ok (.aload_n 0, 1) := by decide +kernel
theorem dX7_laySteps_84 : decode cX7_laySteps 84 = .ok (.getfield 23, 3) := by decide +kernel
theorem dX7_laySteps_87 : decode cX7_laySteps 87 = .ok (.iload 4, 2) := by decide +kernel
theorem dX7_laySteps_89 : decode cX7_laySteps 89 = .ok (.iaload, 1) := by decide +kernel
theorem dX7_laySteps_90 : decode cX7_laySteps 90 = .ok (.iload_n 2, 1) := by decide +kernel
theorem dX7_laySteps_91 : decode cX7_laySteps 91 = .ok (.if_icmp .ne 19, 3) := by decide +kernel
theorem dX7_laySteps_94 : decode cX7_laySteps 94 = .ok (.aload_n 0, 1) := by decide +kernel
theorem dX7_laySteps_95 : decode cX7_laySteps 95 = .ok (.iload_n 3, 1) := by decide +kernel
theorem dX7_laySteps_96 : decode cX7_laySteps 96 = .ok (.iload 4, 2) := by decide +kernel
theorem dX7_laySteps_98 : decode cX7_laySteps 98 = .ok (.invokevirtual 80, 3) := by decide +kernel
theorem dX7_laySteps_101 : decode cX7_laySteps 101 = .ok (.ifCond .eq 9, 3) := by decide +kernel
theorem dX7_laySteps_104 : decode cX7_laySteps 104 = .ok (.iload_n 2, 1) := by decide +kernel
theorem dX7_laySteps_105 : decode cX7_laySteps 105 = .ok (.iconst 1, 1) := by decide +kernel
theorem dX7_laySteps_106 : decode cX7_laySteps 106 = .ok (.iadd, 1) := by decide +kernel
theorem dX7_laySteps_107 : decode cX7_laySteps 107 = .ok (.goto 9, 3) := by decide +kernel
theorem dX7_laySteps_110 : decode cX7_laySteps 110 = .ok (.aload_n 0, 1) := by decide +kernel
theorem dX7_laySteps_111 : decode cX7_laySteps 111 = .ok (.getfield 23, 3) := by decide +kernel
theorem dX7_laySteps_114 : decode cX7_laySteps 114 = .ok (.iload_n 3, 1) := by decide +kernel
theorem dX7_laySteps_115 : decode cX7_laySteps 115 = .ok (.iaload, 1) := by decide +kernel
theorem dX7_laySteps_116 : decode cX7_laySteps 116 = .ok (.iastore, 1) := by decide +kernel
theorem dX7_laySteps_117 : decode cX7_laySteps 117 = .ok (.iinc 4 1, 3) := by decide +kernel
theorem dX7_laySteps_120 : decode cX7_laySteps 120 = .ok (.goto (-64), 3) := by decide +kernel
theorem dX7_laySteps_123 : decode cX7_laySteps 123 = .ok (.iinc 3 1, 3) := by decide +kernel
theorem dX7_laySteps_126 : decode cX7_laySteps 126 = .ok (.goto (-85), 3) := by decide +kernel
theorem dX7_laySteps_129 : decode cX7_laySteps 129 = .ok (.iinc 2 1, 3) := by decide +kernel
theorem dX7_laySteps_132 : decode cX7_laySteps 132 = .ok (.goto (-99), 3) := by decide +kernel
theorem dX7_laySteps_135 : decode cX7_laySteps 135 = .ok (.return_, 1) := by decide +kernel
theorem dX7_smallest_0 : decode cX7_smallest 0 = .ok (.iconst 0, 1) := by decide +kernel
theorem dX7_smallest_1 : decode cX7_smallest 1 = .ok (.istore_n 3, 1) := by decide +kernel
theorem dX7_smallest_2 : decode cX7_smallest 2 = .ok (.iload_n 3, 1) := by decide +kernel
theorem dX7_smallest_3 : decode cX7_smallest 3 = .ok (.iconst 2, 1) := by decide +kernel
theorem dX7_smallest_4 : decode cX7_smallest 4 = .ok (.aload_n 0, 1) := by decide +kernel
theorem dX7_smallest_5 : decode cX7_smallest 5 = .ok (.getfield 7, 3) := by decide +kernel
theorem dX7_smallest_8 : decode cX7_smallest 8 = .ok (.iconst 0, 1) := by decide +kernel
theorem dX7_smallest_9 : decode cX7_smallest 9 = .ok (.iaload, 1) := by decide +kernel
theorem dX7_smallest_10 : decode cX7_smallest 10 = .ok (.imul, 1) := by decide +kernel
theorem dX7_smallest_11 : decode cX7_smallest 11 = .ok (.if_icmp .ge 60, 3) := by decide +kernel
theorem dX7_smallest_14 : decode cX7_smallest 14 = .ok (.iload_n 2, 1) := by decide +kernel
theorem dX7_smallest_15 : decode cX7_smallest 15 = .ok (.ifCond .ge 25, 3) := by decide +kernel
theorem dX7_smallest_18 : decode cX7_smallest 18 = .ok (.aload_n 0, 1) := by decide +kernel
theorem dX7_smallest_19 : decode cX7_smallest 19 = .ok (.getfield 7, 3) := by decide +kernel
theorem dX7_smallest_22 : decode cX7_smallest 22 = .ok (.sipush 663, 3) := by decide +kernel
theorem dX7_smallest_25 : decode cX7_smallest 25 = .ok (.iload_n 3, 1) := by decide +kernel
theorem dX7_smallest_26 : decode cX7_smallest 26 = .ok (.iadd, 1) := by decide +kernel
theorem dX7_smallest_27 : decode cX7_smallest 27 = .ok (.iaload, 1) := by decide +kernel
theorem dX7_smallest_28 : decode cX7_smallest 28 = .ok (.iconst 1, 1) := by decide +kernel
theorem dX7_smallest_29 : decode cX7_smallest 29 = .ok (.if_icmp .ne 7, 3) := by decide +kernel
theorem dX7_smallest_32 : decode cX7_smallest 32 = .ok (.iconst 1, 1) := by decide +kernel
theorem dX7_smallest_33 : decode cX7_smallest 33 = .ok (.goto 13, 3) := by decide +kernel
theorem dX7_smallest_36 : decode cX7_smallest 36 = .ok (.iconst 0, 1) := by decide +kernel
theorem dX7_smallest_37 : decode cX7_smallest 37 = .ok (.goto 9, 3) := by decide +kernel
theorem dX7_smallest_40 : decode cX7_smallest 40 = .ok (.aload_n 0, 1) := by decide +kernel
theorem dX7_smallest_41 : decode cX7_smallest 41 = .ok (.iload_n 2, 1) := by decide +kernel
theorem dX7_smallest_42 : decode cX7_smallest 42 = .ok (.iload_n 3, 1) := by decide +kernel
theorem dX7_smallest_43 : decode cX7_smallest 43 = .ok (.invokevirtual 80, 3) := by decide +kernel
theorem dX7_smallest_46 : decode cX7_smallest 46 = .ok (.istore 4, 2) := by decide +kernel
theorem dX7_smallest_48 : decode cX7_smallest 48 = .ok (.iload 4, 2) := by decide +kernel
theorem dX7_smallest_50 : decode cX7_smallest 50 = .ok (.ifCond .eq 15, 3) := by decide +kernel
theorem dX7_smallest_53 : decode cX7_smallest 53 = .ok (.aload_n 0, 1) := by decide +kernel
theorem dX7_smallest_54 : decode cX7_smallest 54 = .ok (.getfield 23, 3) := by decide +kernel
theorem dX7_smallest_57 : decode cX7_smallest 57 = .ok (.iload_n 3, 1) := by decide +kernel
theorem dX7_smallest_58 : decode cX7_smallest 58 = .ok (.iaload, 1) := by decide +kernel
theorem dX7_smallest_59 : decode cX7_smallest 59 = .ok (.iload_n 1, 1) := by decide +kernel
theorem dX7_smallest_60 : decode cX7_smallest 60 = .ok (.if_icmp .ne 5, 3) := by decide +kernel
theorem dX7_smallest_63 : decode cX7_smallest 63 = .ok (.iload_n 3, 1) := by decide +kernel
theorem dX7_smallest_64 : decode cX7_smallest 64 = .ok (.ireturn, 1) := by decide +kernel
theorem dX7_smallest_65 : decode cX7_smallest 65 = .ok (.iinc 3 1, 3) := by decide +kernel
theorem dX7_smallest_68 : decode cX7_smallest 68 = .ok (.goto (-66), 3) := by decide +kernel
theorem dX7_smallest_71 : decode cX7_smallest 71 = .ok (.bipush (-10), 2) := by decide +kernel
theorem dX7_smallest_73 : decode cX7_smallest 73 = .ok (.ireturn, 1) := by decide +kernel
theorem dX7_chain_0 : decode cX7_chain 0 = .ok (.aload_n 0, 1) := by decide +kernel
theorem dX7_chain_1 : decode cX7_chain 1 = .ok (.iload_n 1, 1) := by decide +kernel
theorem dX7_chain_2 : decode cX7_chain 2 = .ok (.invokevirtual 57, 3) := by decide +kernel
theorem dX7_chain_5 : decode cX7_chain 5 = .ok (.ifCond .ne 5, 3) := by decide +kernel
theorem dX7_chain_8 : decode cX7_chain 8 = .ok (.iconst (-1), 1) := by decide +kernel
theorem dX7_chain_9 : decode cX7_chain 9 = .ok (.ireturn, 1) := by decide +kernel
theorem dX7_chain_10 : decode cX7_chain 10 = .ok (.iload_n 2, 1) := by decide +kernel
theorem dX7_chain_11 : decode cX7_chain 11 = .ok (.invokestatic 87, 3) := by decide +kernel
theorem dX7_chain_14 : decode cX7_chain 14 = .ok (.ifCond .ne 6, 3) := by decide +kernel
theorem dX7_chain_17 : decode cX7_chain 17 = .ok (.bipush (-3), 2) := by decide +kernel
theorem dX7_chain_19 : decode cX7_chain 19 = .ok (.ireturn, 1) := by decide +kernel
theorem dX7_chain_20 : decode cX7_chain 20 = .ok (.aload_n 0, 1) := by decide +kernel
theorem dX7_chain_21 : decode cX7_chain 21 = .ok (.invokevirtual 90, 3) := by decide +kernel
theorem dX7_chain_24 : decode cX7_chain 24 = .ok (.aload_n 0, 1) := by decide +kernel
theorem dX7_chain_25 : decode cX7_chain 25 = .ok (.getfield 20, 3) := by decide +kernel
theorem dX7_chain_28 : decode cX7_chain 28 = .ok (.iconst 2, 1) := by decide +kernel
theorem dX7_chain_29 : decode cX7_chain 29 = .ok (.iload_n 1, 1) := by decide +kernel
theorem dX7_chain_30 : decode cX7_chain 30 = .ok (.imul, 1) := by decide +kernel
theorem dX7_chain_31 : decode cX7_chain 31 = .ok (.iload_n 2, 1) := by decide +kernel
theorem dX7_chain_32 : decode cX7_chain 32 = .ok (.iadd, 1) := by decide +kernel
theorem dX7_chain_33 : decode cX7_chain 33 = .ok (.baload, 1) := by decide +kernel
theorem dX7_chain_34 : decode cX7_chain 34 = .ok (.ifCond .ne 6, 3) := by decide +kernel
theorem dX7_chain_37 : decode cX7_chain 37 = .ok (.bipush (-10), 2) := by decide +kernel
theorem dX7_chain_39 : decode cX7_chain 39 = .ok (.ireturn, 1) := by decide +kernel
theorem dX7_chain_40 : decode cX7_chain 40 = .ok (.aload_n 0, 1) := by decide +kernel
theorem dX7_chain_41 : decode cX7_chain 41 = .ok (.iconst 2, 1) := by decide +kernel
theorem dX7_chain_42 : decode cX7_chain 42 = .ok (.iload_n 1, 1) := by decide +kernel
theorem dX7_chain_43 : decode cX7_chain 43 = .ok (.imul, 1) := by decide +kernel
theorem dX7_chain_44 : decode cX7_chain 44 = .ok (.iload_n 2, 1) := by decide +kernel
theorem dX7_chain_45 : decode cX7_chain 45 = .ok (.iadd, 1) := by decide +kernel
theorem dX7_chain_46 : decode cX7_chain 46 = .ok (.invokevirtual 99, 3) := by decide +kernel
theorem dX7_chain_49 : decode cX7_chain 49 = .ok (.iconst 0, 1) := by decide +kernel
theorem dX7_chain_50 : decode cX7_chain 50 = .ok (.istore 4, 2) := by decide +kernel
theorem dX7_chain_52 : decode cX7_chain 52 = .ok (.aload_n 0, 1) := by decide +kernel
theorem dX7_chain_53 : decode cX7_chain 53 = .ok (.iload 4, 2) := by decide +kernel
theorem dX7_chain_55 : decode cX7_chain 55 = .ok (.bipush (-10), 2) := by decide +kernel
theorem dX7_chain_57 : decode cX7_chain 57 = .ok (.invokevirtual 103, 3) := by decide +kernel
theorem dX7_chain_60 : decode cX7_chain 60 = .ok (.ifCond .ge 9, 3) := by decide +kernel
theorem dX7_chain_63 : decode cX7_chain 63 = .ok (.iinc 4 1, 3) := by decide +kernel
theorem dX7_chain_66 : decode cX7_chain 66 = .ok (.goto (-14), 3) := by decide +kernel
theorem dX7_chain_69 : decode cX7_chain 69 = .ok (.iload_n 3, 1) := by decide +kernel
theorem dX7_chain_70 : decode cX7_chain 70 = .ok (.iconst (-1), 1) := by decide +kernel
theorem dX7_chain_71 : decode cX7_chain 71 = .ok (.if_icmp .ne 8, 3) := by decide +kernel
theorem dX7_chain_74 : decode cX7_chain 74 = .ok (.iload 4, 2) := by decide +kernel
theorem dX7_chain_76 : decode cX7_chain 76 = .ok (.iconst 1, 1) := by decide +kernel
theorem dX7_chain_77 : decode cX7_chain 77 = .ok (.iadd, 1) := by decide +kernel
theorem dX7_chain_78 : decode cX7_chain 78 = .ok (.ireturn, 1) := by decide +kernel
theorem dX7_chain_79 : decode cX7_chain 79 = .ok (.iload_n 3, 1) := by decide +kernel
theorem dX7_chain_80 : decode cX7_chain 80 = .ok (.iconst 0, 1) := by decide +kernel
theorem dX7_chain_81 : decode cX7_chain 81 = .ok (.iload 4, 2) := by decide +kernel
theorem dX7_chain_83 : decode cX7_chain 83 = .ok (.invokestatic 41, 3) := by decide +kernel
theorem dX7_chain_86 : decode cX7_chain 86 = .ok (.ifCond .ne 6, 3) := by decide +kernel
theorem dX7_chain_89 : decode cX7_chain 89 = .ok (.bipush (-10), 2) := by decide +kernel
theorem dX7_chain_91 : decode cX7_chain 91 = .ok (.ireturn, 1) := by decide +kernel
theorem dX7_chain_92 : decode cX7_chain 92 = .ok (.aload_n 0, 1) := by decide +kernel
theorem dX7_chain_93 : decode cX7_chain 93 = .ok (.iload 4, 2) := by decide +kernel
theorem dX7_chain_95 : decode cX7_chain 95 = .ok (.bipush (-10), 2) := by decide +kernel
theorem dX7_chain_97 : decode cX7_chain 97 = .ok (.invokevirtual 103, 3) := by decide +kernel
theorem dX7_chain_100 : decode cX7_chain 100 = .ok (.istore 5, 2) := by decide +kernel
theorem dX7_chain_102 : decode cX7_chain 102 = .ok (.iconst 0, 1) := by decide +kernel
theorem dX7_chain_103 : decode cX7_chain 103 = .ok (.istore 6, 2) := by decide +kernel
theorem dX7_chain_105 : decode cX7_chain 105 = .ok (.iload 6, 2) := by decide +kernel
theorem dX7_chain_107 : decode cX7_chain 107 = .ok (.iload_n 3, 1) := by decide +kernel
theorem dX7_chain_108 : decode cX7_chain 108 = .ok (.if_icmp .ge 24, 3) := by decide +kernel
theorem dX7_chain_111 : decode cX7_chain 111 = .ok (.aload_n 0, 1) := by decide +kernel
theorem dX7_chain_112 : decode cX7_chain 112 = .ok (.iload 4, 2) := by decide +kernel
theorem dX7_chain_114 : decode cX7_chain 114 = .ok (.iconst 1, 1) := by decide +kernel
theorem dX7_chain_115 : decode cX7_chain 115 = .ok (.isub, 1) := by decide +kernel
theorem dX7_chain_116 : decode cX7_chain 116 = .ok (.iload 6, 2) := by decide +kernel
theorem dX7_chain_118 : decode cX7_chain 118 = .ok (.isub, 1) := by decide +kernel
theorem dX7_chain_119 : decode cX7_chain 119 = .ok (.iload 5, 2) := by decide +kernel
theorem dX7_chain_121 : decode cX7_chain 121 = .ok (.invokevirtual 103, 3) := by decide +kernel
theorem dX7_chain_124 : decode cX7_chain 124 = .ok (.istore 5, 2) := by decide +kernel
theorem dX7_chain_126 : decode cX7_chain 126 = .ok (.iinc 6 1, 3) := by decide +kernel
theorem dX7_chain_129 : decode cX7_chain 129 = .ok (.goto (-24), 3) := by decide +kernel
theorem dX7_chain_132 : decode cX7_chain 132 = .ok (.iload 5, 2) := by decide +kernel
theorem dX7_chain_134 : decode cX7_chain 134 = .ok (.ireturn, 1) := by decide +kernel
theorem dX7_impactOf_0 : decode cX7_impactOf 0 = .ok (.iconst 0, 1) := by decide +kernel
theorem dX7_impactOf_1 : decode cX7_impactOf 1 = .ok (.istore_n 2, 1) := by decide +kernel
theorem dX7_impactOf_2 : decode cX7_impactOf 2 = .ok (.iload_n 2, 1) := by decide +kernel
theorem dX7_impactOf_3 : decode cX7_impactOf 3 = .ok (.bipush 40, 2) := by decide +kernel
theorem dX7_impactOf_5 : decode cX7_impactOf 5 = .ok (.if_icmp .ge 25, 3) := by decide +kernel
theorem dX7_impactOf_8 : decode cX7_impactOf 8 = .ok (.aload_n 0, 1) := by decide +kernel
theorem dX7_impactOf_9 : decode cX7_impactOf 9 = .ok (.getfield 20, 3) := by decide +kernel
theorem dX7_impactOf_12 : decode cX7_impactOf 12 = .ok (.iload_n 2, 1) := by decide +kernel
theorem dX7_impactOf_13 : decode cX7_impactOf 13 = .ok (.iload_n 2, 1) := by decide +kernel
theorem dX7_impactOf_14 : decode cX7_impactOf 14 = .ok (.iload_n 1, 1) := by decide +kernel
theorem dX7_impactOf_15 : decode cX7_impactOf 15 = .ok (.if_icmp .ne 7, 3) := by decide +kernel
theorem dX7_impactOf_18 : decode cX7_impactOf 18 = .ok (.iconst 1, 1) := by decide +kernel
theorem dX7_impactOf_19 : decode cX7_impactOf 19 = .ok (.goto 4, 3) := by decide +kernel
theorem dX7_impactOf_22 : decode cX7_impactOf 22 = .ok (.iconst 0, 1) := by decide +kernel
theorem dX7_impactOf_23 : decode cX7_impactOf 23 = .ok (.bastore, 1) := by decide +kernel
theorem dX7_impactOf_24 : decode cX7_impactOf 24 = .ok (.iinc 2 1, 3) := by decide +kernel
theorem dX7_impactOf_27 : decode cX7_impactOf 27 = .ok (.goto (-25), 3) := by decide +kernel
theorem dX7_impactOf_30 : decode cX7_impactOf 30 = .ok (.aload_n 0, 1) := by decide +kernel
theorem dX7_impactOf_31 : decode cX7_impactOf 31 = .ok (.invokevirtual 84, 3) := by decide +kernel
theorem dX7_impactOf_34 : decode cX7_impactOf 34 = .ok (.iconst 0, 1) := by decide +kernel
theorem dX7_impactOf_35 : decode cX7_impactOf 35 = .ok (.istore_n 2, 1) := by decide +kernel
theorem dX7_impactOf_36 : decode cX7_impactOf 36 = .ok (.iconst 0, 1) := by decide +kernel
theorem dX7_impactOf_37 : decode cX7_impactOf 37 = .ok (.istore_n 3, 1) := by decide +kernel
theorem dX7_impactOf_38 : decode cX7_impactOf 38 = .ok (.iload_n 3, 1) := by decide +kernel
theorem dX7_impactOf_39 : decode cX7_impactOf 39 = .ok (.aload_n 0, 1) := by decide +kernel
theorem dX7_impactOf_40 : decode cX7_impactOf 40 = .ok (.getfield 7, 3) := by decide +kernel
theorem dX7_impactOf_43 : decode cX7_impactOf 43 = .ok (.iconst 0, 1) := by decide +kernel
theorem dX7_impactOf_44 : decode cX7_impactOf 44 = .ok (.iaload, 1) := by decide +kernel
theorem dX7_impactOf_45 : decode cX7_impactOf 45 = .ok (.if_icmp .ge 34, 3) := by decide +kernel
theorem dX7_impactOf_48 : decode cX7_impactOf 48 = .ok (.iload_n 2, 1) := by decide +kernel
theorem dX7_impactOf_49 : decode cX7_impactOf 49 = .ok (.aload_n 0, 1) := by decide +kernel
theorem dX7_impactOf_50 : decode cX7_impactOf 50 = .ok (.getfield 20, 3) := by decide +kernel
theorem dX7_impactOf_53 : decode cX7_impactOf 53 = .ok (.iconst 2, 1) := by decide +kernel
theorem dX7_impactOf_54 : decode cX7_impactOf 54 = .ok (.iload_n 3, 1) := by decide +kernel
theorem dX7_impactOf_55 : decode cX7_impactOf 55 = .ok (.imul, 1) := by decide +kernel
theorem dX7_impactOf_56 : decode cX7_impactOf 56 = .ok (.iconst 1, 1) := by decide +kernel
theorem dX7_impactOf_57 : decode cX7_impactOf 57 = .ok (.iadd, 1) := by decide +kernel
theorem dX7_impactOf_58 : decode cX7_impactOf 58 = .ok (.baload, 1) := by decide +kernel
theorem dX7_impactOf_59 : decode cX7_impactOf 59 = .ok (.ifCond .eq 11, 3) := by decide +kernel
theorem dX7_impactOf_62 : decode cX7_impactOf 62 = .ok (.aload_n 0, 1) := by decide +kernel
theorem dX7_impactOf_63 : decode cX7_impactOf 63 = .ok (.iload_n 3, 1) := by decide +kernel
theorem dX7_impactOf_64 : decode cX7_impactOf 64 = .ok (.invokevirtual 106, 3) := by decide +kernel
theorem dX7_impactOf_67 : decode cX7_impactOf 67 = .ok (.goto 4, 3) := by decide +kernel
theorem dX7_impactOf_70 : decode cX7_impactOf 70 = .ok (.iconst 0, 1) := by decide +kernel
theorem dX7_impactOf_71 : decode cX7_impactOf 71 = .ok (.iadd, 1) := by decide +kernel
theorem dX7_impactOf_72 : decode cX7_impactOf 72 = .ok (.istore_n 2, 1) := by decide +kernel
theorem dX7_impactOf_73 : decode cX7_impactOf 73 = .ok (.iinc 3 1, 3) := by decide +kernel
theorem dX7_impactOf_76 : decode cX7_impactOf 76 = .ok (.goto (-38), 3) := by decide +kernel
theorem dX7_impactOf_79 : decode cX7_impactOf 79 = .ok (.iload_n 2, 1) := by decide +kernel
theorem dX7_impactOf_80 : decode cX7_impactOf 80 = .ok (.ireturn, 1) := by decide +kernel
theorem dX7_impact_0 : decode cX7_impact 0 = .ok (.aload_n 0, 1) := by decide +kernel
theorem dX7_impact_1 : decode cX7_impact 1 = .ok (.iload_n 1, 1) := by decide +kernel
theorem dX7_impact_2 : decode cX7_impact 2 = .ok (.invokevirtual 57, 3) := by decide +kernel
theorem dX7_impact_5 : decode cX7_impact 5 = .ok (.ifCond .ne 5, 3) := by decide +kernel
theorem dX7_impact_8 : decode cX7_impact 8 = .ok (.iconst (-1), 1) := by decide +kernel
theorem dX7_impact_9 : decode cX7_impact 9 = .ok (.ireturn, 1) := by decide +kernel
theorem dX7_impact_10 : decode cX7_impact 10 = .ok (.iload_n 2, 1) := by decide +kernel
theorem dX7_impact_11 : decode cX7_impact 11 = .ok (.invokestatic 87, 3) := by decide +kernel
theorem dX7_impact_14 : decode cX7_impact 14 = .ok (.ifCond .eq 15, 3) := by decide +kernel
theorem dX7_impact_17 : decode cX7_impact 17 = .ok (.aload_n 0, 1) := by decide +kernel
theorem dX7_impact_18 : decode cX7_impact 18 = .ok (.iconst 2, 1) := by decide +kernel
theorem dX7_impact_19 : decode cX7_impact 19 = .ok (.iload_n 1, 1) := by decide +kernel
theorem dX7_impact_20 : decode cX7_impact 20 = .ok (.imul, 1) := by decide +kernel
theorem dX7_impact_21 : decode cX7_impact 21 = .ok (.iload_n 2, 1) := by decide +kernel
theorem dX7_impact_22 : decode cX7_impact 22 = .ok (.iadd, 1) := by decide +kernel
theorem dX7_impact_23 : decode cX7_impact 23 = .ok (.invokevirtual 109, 3) := by decide +kernel
theorem dX7_impact_26 : decode cX7_impact 26 = .ok (.goto 5, 3) := by decide +kernel
theorem dX7_impact_29 : decode cX7_impact 29 = .ok (.bipush (-3), 2) := by decide +kernel
theorem dX7_impact_31 : decode cX7_impact 31 = .ok (.ireturn, 1) := by decide +kernel
theorem dX7_mostCritical_0 : decode cX7_mostCritical 0 = .ok (.iload_n 1, 1) := by decide +kernel
theorem dX7_mostCritical_1 : decode cX7_mostCritical 1 = .ok (.invokestatic 87, 3) := by decide +kernel
theorem dX7_mostCritical_4 : decode cX7_mostCritical 4 = .ok (.ifCond .ne 6, 3) := by decide +kernel
theorem dX7_mostCritical_7 : decode cX7_mostCritical 7 = .ok (.bipush (-3), 2) := by decide +kernel
theorem dX7_mostCritical_9 : decode cX7_mostCritical 9 = .ok (.ireturn, 1) := by decide +kernel
theorem dX7_mostCritical_10 : decode cX7_mostCritical 10 = .ok (.bipush (-10), 2) := by decide +kernel
theorem dX7_mostCritical_12 : decode cX7_mostCritical 12 = .ok (.istore_n 2, 1) := by decide +kernel
theorem dX7_mostCritical_13 : decode cX7_mostCritical 13 = .ok (.iconst 0, 1) := by decide +kernel
theorem dX7_mostCritical_14 : decode cX7_mostCritical 14 = .ok (.istore_n 3, 1) := by decide +kernel
theorem dX7_mostCritical_15 : decode cX7_mostCritical 15 = .ok (.iconst 0, 1) := by decide +kernel
theorem dX7_mostCritical_16 : decode cX7_mostCritical 16 = .ok (.istore 4, 2) := by decide +kernel
theorem dX7_mostCritical_18 : decode cX7_mostCritical 18 = .ok (.iload 4, 2) := by decide +kernel
theorem dX7_mostCritical_20 : decode cX7_mostCritical 20 = .ok (.aload_n 0, 1) := by decide +kernel
theorem dX7_mostCritical_21 : decode cX7_mostCritical 21 = .ok (.getfield 7, 3) := by decide +kernel
theorem dX7_mostCritical_24 : decode cX7_mostCritical 24 = .ok (.iconst 0, 1) := by decide +kernel
theorem dX7_mostCritical_25 : decode cX7_mostCritical 25 = .ok (.iaload, 1) := by decide +kernel
theorem dX7_mostCritical_26 : decode cX7_mostCritical 26 = .ok (.if_icmp .ge 37, 3) := by decide +kernel
theorem dX7_mostCritical_29 : decode cX7_mostCritical 29 = .ok (.aload_n 0, 1) := by decide +kernel
theorem dX7_mostCritical_30 : decode cX7_mostCritical 30 = .ok (.iconst 2, 1) := by decide +kernel
theorem dX7_mostCritical_31 : decode cX7_mostCritical 31 = .ok (.iload 4, 2) := by decide +kernel
theorem dX7_mostCritical_33 : decode cX7_mostCritical 33 = .ok (.imul, 1) := by decide +kernel
theorem dX7_mostCritical_34 : decode cX7_mostCritical 34 = .ok (.iload_n 1, 1) := by decide +kernel
theorem dX7_mostCritical_35 : decode cX7_mostCritical 35 = .ok (.iadd, 1) := by decide +kernel
theorem dX7_mostCritical_36 : decode cX7_mostCritical 36 = .ok (.invokevirtual 109, 3) := by decide +kernel
theorem dX7_mostCritical_39 : decode cX7_mostCritical 39 = .ok (.istore 5, 2) := by decide +kernel
theorem dX7_mostCritical_41 : decode cX7_mostCritical 41 = .ok (.iload_n 2, 1) := by decide +kernel
theorem dX7_mostCritical_42 : decode cX7_mostCritical 42 = .ok (.ifCond .lt 9, 3) := by decide +kernel
theorem dX7_mostCritical_45 : decode cX7_mostCritical 45 = .ok (.iload 5, 2) := by decide +kernel
theorem dX7_mostCritical_47 : decode cX7_mostCritical 47 = .ok (.iload_n 3, 1) := by decide +kernel
theorem dX7_mostCritical_48 : decode cX7_mostCritical 48 = .ok (.if_icmp .le 9, 3) := by decide +kernel
theorem dX7_mostCritical_51 : decode cX7_mostCritical 51 = .ok (.iload 4, 2) := by decide +kernel
theorem dX7_mostCritical_53 : decode cX7_mostCritical 53 = .ok (.istore_n 2, 1) := by decide +kernel
theorem dX7_mostCritical_54 : decode cX7_mostCritical 54 = .ok (.iload 5, 2) := by decide +kernel
theorem dX7_mostCritical_56 : decode cX7_mostCritical 56 = .ok (.istore_n 3, 1) := by decide +kernel
theorem dX7_mostCritical_57 : decode cX7_mostCritical 57 = .ok (.iinc 4 1, 3) := by decide +kernel
theorem dX7_mostCritical_60 : decode cX7_mostCritical 60 = .ok (.goto (-42), 3) := by decide +kernel
theorem dX7_mostCritical_63 : decode cX7_mostCritical 63 = .ok (.iload_n 2, 1) := by decide +kernel
theorem dX7_mostCritical_64 : decode cX7_mostCritical 64 = .ok (.ireturn, 1) := by decide +kernel
theorem dX7_waits_0 : decode cX7_waits 0 = .ok (.aload_n 0, 1) := by decide +kernel
theorem dX7_waits_1 : decode cX7_waits 1 = .ok (.iload_n 1, 1) := by decide +kernel
theorem dX7_waits_2 : decode cX7_waits 2 = .ok (.iload_n 2, 1) := by decide +kernel
theorem dX7_waits_3 : decode cX7_waits 3 = .ok (.invokevirtual 53, 3) := by decide +kernel
theorem dX7_waits_6 : decode cX7_waits 6 = .ok (.ifCond .lt 17, 3) := by decide +kernel
theorem dX7_waits_9 : decode cX7_waits 9 = .ok (.aload_n 0, 1) := by decide +kernel
theorem dX7_waits_10 : decode cX7_waits 10 = .ok (.iload_n 1, 1) := by decide +kernel
theorem dX7_waits_11 : decode cX7_waits 11 = .ok (.iload_n 2, 1) := by decide +kernel
theorem dX7_waits_12 : decode cX7_waits 12 = .ok (.invokevirtual 53, 3) := by decide +kernel
theorem dX7_waits_15 : decode cX7_waits 15 = .ok (.iconst 3, 1) := by decide +kernel
theorem dX7_waits_16 : decode cX7_waits 16 = .ok (.if_icmp .eq 7, 3) := by decide +kernel
theorem dX7_waits_19 : decode cX7_waits 19 = .ok (.iconst 1, 1) := by decide +kernel
theorem dX7_waits_20 : decode cX7_waits 20 = .ok (.goto 4, 3) := by decide +kernel
theorem dX7_waits_23 : decode cX7_waits 23 = .ok (.iconst 0, 1) := by decide +kernel
theorem dX7_waits_24 : decode cX7_waits 24 = .ok (.ireturn, 1) := by decide +kernel
theorem dX7_layOrder_0 : decode cX7_layOrder 0 = .ok (.aload_n 0, 1) := by decide +kernel
theorem dX7_layOrder_1 : decode cX7_layOrder 1 = .ok (.invokevirtual 96, 3) := by decide +kernel
theorem dX7_layOrder_4 : decode cX7_layOrder 4 = .ok (.istore_n 1, 1) := by decide +kernel
theorem dX7_layOrder_5 : decode cX7_layOrder 5 = .ok (.iconst 0, 1) := by decide +kernel
theorem dX7_layOrder_6 : decode cX7_layOrder 6 = .ok (.istore_n 2, 1) := by decide +kernel
theorem dX7_layOrder_7 : decode cX7_layOrder 7 = .ok (.iload_n 1, 1) := by decide +kernel
theorem dX7_layOrder_8 : decode cX7_layOrder 8 = .ok (.ifCond .eq 130, 3) := by decide +kernel
theorem dX7_layOrder_11 : decode cX7_layOrder 11 = .ok (.bipush (-10), 2) := by decide +kernel
theorem dX7_layOrder_13 : decode cX7_layOrder 13 = .ok (.istore_n 3, 1) := by decide +kernel
theorem dX7_layOrder_14 : decode cX7_layOrder 14 = .ok (.aload_n 0, 1) := by decide +kernel
theorem dX7_layOrder_15 : decode cX7_layOrder 15 = .ok (.getfield 7, 3) := by decide +kernel
theorem dX7_layOrder_18 : decode cX7_layOrder 18 = .ok (.iconst 0, 1) := by decide +kernel
theorem dX7_layOrder_19 : decode cX7_layOrder 19 = .ok (.iaload, 1) := by decide +kernel
theorem dX7_layOrder_20 : decode cX7_layOrder 20 = .ok (.iconst 1, 1) := by decide +kernel
theorem dX7_layOrder_21 : decode cX7_layOrder 21 = .ok (.isub, 1) := by decide +kernel
theorem dX7_layOrder_22 : decode cX7_layOrder 22 = .ok (.istore 4, 2) := by decide +kernel
theorem dX7_layOrder_24 : decode cX7_layOrder 24 = .ok (.iload 4, 2) := by decide +kernel
theorem dX7_layOrder_26 : decode cX7_layOrder 26 = .ok (.ifCond .lt 91, 3) := by decide +kernel
theorem dX7_layOrder_29 : decode cX7_layOrder 29 = .ok (.iload_n 1, 1) := by decide +kernel
theorem dX7_layOrder_30 : decode cX7_layOrder 30 = .ok (.iload 4, 2) := by decide +kernel
theorem dX7_layOrder_32 : decode cX7_layOrder 32 = .ok (.ishr, 1) := by decide +kernel
theorem dX7_layOrder_33 : decode cX7_layOrder 33 = .ok (.iconst 1, 1) := by decide +kernel
theorem dX7_layOrder_34 : decode cX7_layOrder 34 = .ok (.iand, 1) := by decide +kernel
theorem dX7_layOrder_35 : decode cX7_layOrder 35 = .ok (.iconst 1, 1) := by decide +kernel
theorem dX7_layOrder_36 : decode cX7_layOrder 36 = .ok (.if_icmp .ne 7, 3) := by decide +kernel
theorem dX7_layOrder_39 : decode cX7_layOrder 39 = .ok (.iconst 1, 1) := by decide +kernel
theorem dX7_layOrder_40 : decode cX7_layOrder 40 = .ok (.goto 4, 3) := by decide +kernel
theorem dX7_layOrder_43 : decode cX7_layOrder 43 = .ok (.iconst 0, 1) := by decide +kernel
theorem dX7_layOrder_44 : decode cX7_layOrder 44 = .ok (.istore 5, 2) := by decide +kernel
theorem dX7_layOrder_46 : decode cX7_layOrder 46 = .ok (.iconst 0, 1) := by decide +kernel
theorem dX7_layOrder_47 : decode cX7_layOrder 47 = .ok (.istore 6, 2) := by decide +kernel
theorem dX7_layOrder_49 : decode cX7_layOrder 49 = .ok (.iload 6, 2) := by decide +kernel
theorem dX7_layOrder_51 : decode cX7_layOrder 51 = .ok (.aload_n 0, 1) := by decide +kernel
theorem dX7_layOrder_52 : decode cX7_layOrder 52 = .ok (.getfield 7, 3) := by decide +kernel
theorem dX7_layOrder_55 : decode cX7_layOrder 55 = .ok (.iconst 0, 1) := by decide +kernel
theorem dX7_layOrder_56 : decode cX7_layOrder 56 = .ok (.iaload, 1) := by decide +kernel
theorem dX7_layOrder_57 : decode cX7_layOrder 57 = .ok (.if_icmp .ge 42, 3) := by decide +kernel
theorem dX7_layOrder_60 : decode cX7_layOrder 60 = .ok (.iload 5, 2) := by decide +kernel
theorem dX7_layOrder_62 : decode cX7_layOrder 62 = .ok (.ifCond .eq 28, 3) := by decide +kernel
theorem dX7_layOrder_65 : decode cX7_layOrder 65 = .ok (.iload_n 1, 1) := by decide +kernel
theorem dX7_layOrder_66 : decode cX7_layOrder 66 = .ok (.iload 6, 2) := by decide +kernel
theorem dX7_layOrder_68 : decode cX7_layOrder 68 = .ok (.ishr, 1) := by decide +kernel
theorem dX7_layOrder_69 : decode cX7_layOrder 69 = .ok (.iconst 1, 1) := by decide +kernel
theorem dX7_layOrder_70 : decode cX7_layOrder 70 = .ok (.iand, 1) := by decide +kernel
theorem dX7_layOrder_71 : decode cX7_layOrder 71 = .ok (.iconst 1, 1) := by decide +kernel
theorem dX7_layOrder_72 : decode cX7_layOrder 72 = .ok (.if_icmp .ne 14, 3) := by decide +kernel
theorem dX7_layOrder_75 : decode cX7_layOrder 75 = .ok (.aload_n 0, 1) := by decide +kernel
theorem dX7_layOrder_76 : decode cX7_layOrder 76 = .ok (.iload 4, 2) := by decide +kernel
theorem dX7_layOrder_78 : decode cX7_layOrder 78 = .ok (.iload 6, 2) := by decide +kernel
theorem dX7_layOrder_80 : decode cX7_layOrder 80 = .ok (.invokevirtual 112, 3) := by decide +kernel
theorem dX7_layOrder_83 : decode cX7_layOrder 83 = .ok (.ifCond .ne 7, 3) := by decide +kernel
theorem dX7_layOrder_86 : decode cX7_layOrder 86 = .ok (.iconst 1, 1) := by decide +kernel
theorem dX7_layOrder_87 : decode cX7_layOrder 87 = .ok (.goto 4, 3) := by decide +kernel
theorem dX7_layOrder_90 : decode cX7_layOrder 90 = .ok (.iconst 0, 1) := by decide +kernel
theorem dX7_layOrder_91 : decode cX7_layOrder 91 = .ok (.istore 5, 2) := by decide +kernel
theorem dX7_layOrder_93 : decode cX7_layOrder 93 = .ok (.iinc 6 1, 3) := by decide +kernel
theorem dX7_layOrder_96 : decode cX7_layOrder 96 = .ok (.goto (-47), 3) := by decide +kernel
theorem dX7_layOrder_99 : decode cX7_layOrder 99 = .ok (.iload 5, 2) := by decide +kernel
theorem dX7_layOrder_101 : decode cX7_layOrder 101 = .ok (.ifCond .eq 8, 3) := by decide +kernel
theorem dX7_layOrder_104 : decode cX7_layOrder 104 = .ok (.iload 4, 2) := by decide +kernel
theorem dX7_layOrder_106 : decode cX7_layOrder 106 = .ok (.goto 4, 3) := by decide +kernel
theorem dX7_layOrder_109 : decode cX7_layOrder 109 = .ok (.iload_n 3, 1) := by decide +kernel
theorem dX7_layOrder_110 : decode cX7_layOrder 110 = .ok (.istore_n 3, 1) := by decide +kernel
theorem dX7_layOrder_111 : decode cX7_layOrder 111 = .ok (.iinc 4 (-1), 3) := by decide +kernel
theorem dX7_layOrder_114 : decode cX7_layOrder 114 = .ok (.goto (-90), 3) := by decide +kernel
theorem dX7_layOrder_117 : decode cX7_layOrder 117 = .ok (.aload_n 0, 1) := by decide +kernel
theorem dX7_layOrder_118 : decode cX7_layOrder 118 = .ok (.getfield 26, 3) := by decide +kernel
theorem dX7_layOrder_121 : decode cX7_layOrder 121 = .ok (.iload_n 2, 1) := by decide +kernel
theorem dX7_layOrder_122 : decode cX7_layOrder 122 = .ok (.iload_n 3, 1) := by decide +kernel
theorem dX7_layOrder_123 : decode cX7_layOrder 123 = .ok (.iastore, 1) := by decide +kernel
theorem dX7_layOrder_124 : decode cX7_layOrder 124 = .ok (.iinc 2 1, 3) := by decide +kernel
theorem dX7_layOrder_127 : decode cX7_layOrder 127 = .ok (.iload_n 1, 1) := by decide +kernel
theorem dX7_layOrder_128 : decode cX7_layOrder 128 = .ok (.iconst 1, 1) := by decide +kernel
theorem dX7_layOrder_129 : decode cX7_layOrder 129 = .ok (.iload_n 3, 1) := by decide +kernel
theorem dX7_layOrder_130 : decode cX7_layOrder 130 = .ok (.ishl, 1) := by decide +kernel
theorem dX7_layOrder_131 : decode cX7_layOrder 131 = .ok (.iconst (-1), 1) := by decide +kernel
theorem dX7_layOrder_132 : decode cX7_layOrder 132 = .ok (.ixor, 1) := by decide +kernel
theorem dX7_layOrder_133 : decode cX7_layOrder 133 = .ok (.iand, 1) := by decide +kernel
theorem dX7_layOrder_134 : decode cX7_layOrder 134 = .ok (.istore_n 1, 1) := by decide +kernel
theorem dX7_layOrder_135 : decode cX7_layOrder 135 = .ok (.goto (-128), 3) := by decide +kernel
theorem dX7_layOrder_138 : decode cX7_layOrder 138 = .ok (.iload_n 2, 1) := by decide +kernel
theorem dX7_layOrder_139 : decode cX7_layOrder 139 = .ok (.ireturn, 1) := by decide +kernel
theorem dX7_rebuildOrder_0 : decode cX7_rebuildOrder 0 = .ok (.aload_n 0, 1) := by decide +kernel
theorem dX7_rebuildOrder_1 : decode cX7_rebuildOrder 1 = .ok (.invokevirtual 115, 3) := by decide +kernel
theorem dX7_rebuildOrder_4 : decode cX7_rebuildOrder 4 = .ok (.istore_n 2, 1) := by decide +kernel
theorem dX7_rebuildOrder_5 : decode cX7_rebuildOrder 5 = .ok (.iload_n 1, 1) := by decide +kernel
theorem dX7_rebuildOrder_6 : decode cX7_rebuildOrder 6 = .ok (.iconst (-1), 1) := by decide +kernel
theorem dX7_rebuildOrder_7 : decode cX7_rebuildOrder 7 = .ok (.if_icmp .ne 7, 3) := by decide +kernel
theorem dX7_rebuildOrder_10 : decode cX7_rebuildOrder 10 = .ok (.iload_n 2, 1) := by decide +kernel
theorem dX7_rebuildOrder_11 : decode cX7_rebuildOrder 11 = .ok (.goto 25, 3) := by decide +kernel
theorem dX7_rebuildOrder_14 : decode cX7_rebuildOrder 14 = .ok (.iload_n 1, 1) := by decide +kernel
theorem dX7_rebuildOrder_15 : decode cX7_rebuildOrder 15 = .ok (.iconst 0, 1) := by decide +kernel
theorem dX7_rebuildOrder_16 : decode cX7_rebuildOrder 16 = .ok (.iload_n 2, 1) := by decide +kernel
theorem dX7_rebuildOrder_17 : decode cX7_rebuildOrder 17 = .ok (.iconst 1, 1) := by decide +kernel
theorem dX7_rebuildOrder_18 : decode cX7_rebuildOrder 18 = .ok (.isub, 1) := by decide +kernel
theorem dX7_rebuildOrder_19 : decode cX7_rebuildOrder 19 = .ok (.invokestatic 41, 3) := by decide +kernel
theorem dX7_rebuildOrder_22 : decode cX7_rebuildOrder 22 = .ok (.ifCond .eq 12, 3) := by decide +kernel
theorem dX7_rebuildOrder_25 : decode cX7_rebuildOrder 25 = .ok (.aload_n 0, 1) := by decide +kernel
theorem dX7_rebuildOrder_26 : decode cX7_rebuildOrder 26 = .ok (.getfield 26, 3) := by decide +kernel
theorem dX7_rebuildOrder_29 : decode cX7_rebuildOrder 29 = .ok (.iload_n 1, 1) := by decide +kernel
theorem dX7_rebuildOrder_30 : decode cX7_rebuildOrder 30 = .ok (.iaload, 1) := by decide +kernel
theorem dX7_rebuildOrder_31 : decode cX7_rebuildOrder 31 = .ok (.goto 5, 3) := by decide +kernel
theorem dX7_rebuildOrder_34 : decode cX7_rebuildOrder 34 = .ok (.bipush (-10), 2) := by decide +kernel
theorem dX7_rebuildOrder_36 : decode cX7_rebuildOrder 36 = .ok (.ireturn, 1) := by decide +kernel
theorem dX7_rebuildTime_0 : decode cX7_rebuildTime 0 = .ok (.aload_n 0, 1) := by decide +kernel
theorem dX7_rebuildTime_1 : decode cX7_rebuildTime 1 = .ok (.invokevirtual 115, 3) := by decide +kernel
theorem dX7_rebuildTime_4 : decode cX7_rebuildTime 4 = .ok (.istore_n 1, 1) := by decide +kernel
theorem dX7_rebuildTime_5 : decode cX7_rebuildTime 5 = .ok (.iconst 0, 1) := by decide +kernel
theorem dX7_rebuildTime_6 : decode cX7_rebuildTime 6 = .ok (.istore_n 2, 1) := by decide +kernel
theorem dX7_rebuildTime_7 : decode cX7_rebuildTime 7 = .ok (.iconst 0, 1) := by decide +kernel
theorem dX7_rebuildTime_8 : decode cX7_rebuildTime 8 = .ok (.istore_n 3, 1) := by decide +kernel
theorem dX7_rebuildTime_9 : decode cX7_rebuildTime 9 = .ok (.iload_n 3, 1) := by decide +kernel
theorem dX7_rebuildTime_10 : decode cX7_rebuildTime 10 = .ok (.iload_n 1, 1) := by decide +kernel
theorem dX7_rebuildTime_11 : decode cX7_rebuildTime 11 = .ok (.if_icmp .ge 120, 3) := by decide +kernel
theorem dX7_rebuildTime_14 : decode cX7_rebuildTime 14 = .ok (.aload_n 0, 1) := by decide +kernel
theorem dX7_rebuildTime_15 : decode cX7_rebuildTime 15 = .ok (.getfield 26, 3) := by decide +kernel
theorem dX7_rebuildTime_18 : decode cX7_rebuildTime 18 = .ok (.iload_n 3, 1) := by decide +kernel
theorem dX7_rebuildTime_19 : decode cX7_rebuildTime 19 = .ok (.iaload, 1) := by decide +kernel
theorem dX7_rebuildTime_20 : decode cX7_rebuildTime 20 = .ok (.istore 4, 2) := by decide +kernel
theorem dX7_rebuildTime_22 : decode cX7_rebuildTime 22 = .ok (.iconst 0, 1) := by decide +kernel
theorem dX7_rebuildTime_23 : decode cX7_rebuildTime 23 = .ok (.istore 5, 2) := by decide +kernel
theorem dX7_rebuildTime_25 : decode cX7_rebuildTime 25 = .ok (.iconst 0, 1) := by decide +kernel
theorem dX7_rebuildTime_26 : decode cX7_rebuildTime 26 = .ok (.istore 6, 2) := by decide +kernel
theorem dX7_rebuildTime_28 : decode cX7_rebuildTime 28 = .ok (.iload 6, 2) := by decide +kernel
theorem dX7_rebuildTime_30 : decode cX7_rebuildTime 30 = .ok (.iload_n 3, 1) := by decide +kernel
theorem dX7_rebuildTime_31 : decode cX7_rebuildTime 31 = .ok (.if_icmp .ge 55, 3) := by decide +kernel
theorem dX7_rebuildTime_34 : decode cX7_rebuildTime 34 = .ok (.aload_n 0, 1) := by decide +kernel
theorem dX7_rebuildTime_35 : decode cX7_rebuildTime 35 = .ok (.getfield 26, 3) := by decide +kernel
theorem dX7_rebuildTime_38 : decode cX7_rebuildTime 38 = .ok (.iload 6, 2) := by decide +kernel
theorem dX7_rebuildTime_40 : decode cX7_rebuildTime 40 = .ok (.iaload, 1) := by decide +kernel
theorem dX7_rebuildTime_41 : decode cX7_rebuildTime 41 = .ok (.istore 7, 2) := by decide +kernel
theorem dX7_rebuildTime_43 : decode cX7_rebuildTime 43 = .ok (.aload_n 0, 1) := by decide +kernel
theorem dX7_rebuildTime_44 : decode cX7_rebuildTime 44 = .ok (.iload 4, 2) := by decide +kernel
theorem dX7_rebuildTime_46 : decode cX7_rebuildTime 46 = .ok (.iload 7, 2) := by decide +kernel
theorem dX7_rebuildTime_48 : decode cX7_rebuildTime 48 = .ok (.invokevirtual 112, 3) := by decide +kernel
theorem dX7_rebuildTime_51 : decode cX7_rebuildTime 51 = .ok (.ifCond .eq 25, 3) := by decide +kernel
theorem dX7_rebuildTime_54 : decode cX7_rebuildTime 54 = .ok (.aload_n 0, 1) := by decide +kernel
theorem dX7_rebuildTime_55 : decode cX7_rebuildTime 55 = .ok (.getfield 29, 3) := by decide +kernel
theorem dX7_rebuildTime_58 : decode cX7_rebuildTime 58 = .ok (.iload 7, 2) := by decide +kernel
theorem dX7_rebuildTime_60 : decode cX7_rebuildTime 60 = .ok (.iaload, 1) := by decide +kernel
theorem dX7_rebuildTime_61 : decode cX7_rebuildTime 61 = .ok (.iload 5, 2) := by decide +kernel
theorem dX7_rebuildTime_63 : decode cX7_rebuildTime 63 = .ok (.if_icmp .le 13, 3) := by decide +kernel
theorem dX7_rebuildTime_66 : decode cX7_rebuildTime 66 = .ok (.aload_n 0, 1) := by decide +kernel
theorem dX7_rebuildTime_67 : decode cX7_rebuildTime 67 = .ok (.getfield 29, 3) := by decide +kernel
theorem dX7_rebuildTime_70 : decode cX7_rebuildTime 70 = .ok (.iload 7, 2) := by decide +kernel
theorem dX7_rebuildTime_72 : decode cX7_rebuildTime 72 = .ok (.iaload, 1) := by decide +kernel
theorem dX7_rebuildTime_73 : decode cX7_rebuildTime 73 = .ok (.goto 5, 3) := by decide +kernel
theorem dX7_rebuildTime_76 : decode cX7_rebuildTime 76 = .ok (.iload 5, 2) := by decide +kernel
theorem dX7_rebuildTime_78 : decode cX7_rebuildTime 78 = .ok (.istore 5, 2) := by decide +kernel
theorem dX7_rebuildTime_80 : decode cX7_rebuildTime 80 = .ok (.iinc 6 1, 3) := by decide +kernel
theorem dX7_rebuildTime_83 : decode cX7_rebuildTime 83 = .ok (.goto (-55), 3) := by decide +kernel
theorem dX7_rebuildTime_86 : decode cX7_rebuildTime 86 = .ok (.aload_n 0, 1) := by decide +kernel
theorem dX7_rebuildTime_87 : decode cX7_rebuildTime 87 = .ok (.getfield 29, 3) := by decide +kernel
theorem dX7_rebuildTime_90 : decode cX7_rebuildTime 90 = .ok (.iload 4, 2) := by decide +kernel
theorem dX7_rebuildTime_92 : decode cX7_rebuildTime 92 = .ok (.iload 5, 2) := by decide +kernel
theorem dX7_rebuildTime_94 : decode cX7_rebuildTime 94 = .ok (.aload_n 0, 1) := by decide +kernel
theorem dX7_rebuildTime_95 : decode cX7_rebuildTime 95 = .ok (.iload 4, 2) := by decide +kernel
theorem dX7_rebuildTime_97 : decode cX7_rebuildTime 97 = .ok (.invokevirtual 106, 3) := by decide +kernel
theorem dX7_rebuildTime_100 : decode cX7_rebuildTime 100 = .ok (.iadd, 1) := by decide +kernel
theorem dX7_rebuildTime_101 : decode cX7_rebuildTime 101 = .ok (.iastore, 1) := by decide +kernel
theorem dX7_rebuildTime_102 : decode cX7_rebuildTime 102 = .ok (.aload_n 0, 1) := by decide +kernel
theorem dX7_rebuildTime_103 : decode cX7_rebuildTime 103 = .ok (.getfield 29, 3) := by decide +kernel
theorem dX7_rebuildTime_106 : decode cX7_rebuildTime 106 = .ok (.iload 4, 2) := by decide +kernel
theorem dX7_rebuildTime_108 : decode cX7_rebuildTime 108 = .ok (.iaload, 1) := by decide +kernel
theorem dX7_rebuildTime_109 : decode cX7_rebuildTime 109 = .ok (.iload_n 2, 1) := by decide +kernel
theorem dX7_rebuildTime_110 : decode cX7_rebuildTime 110 = .ok (.if_icmp .le 13, 3) := by decide +kernel
theorem dX7_rebuildTime_113 : decode cX7_rebuildTime 113 = .ok (.aload_n 0, 1) := by decide +kernel
theorem dX7_rebuildTime_114 : decode cX7_rebuildTime 114 = .ok (.getfield 29, 3) := by decide +kernel
theorem dX7_rebuildTime_117 : decode cX7_rebuildTime 117 = .ok (.iload 4, 2) := by decide +kernel
theorem dX7_rebuildTime_119 : decode cX7_rebuildTime 119 = .ok (.iaload, 1) := by decide +kernel
theorem dX7_rebuildTime_120 : decode cX7_rebuildTime 120 = .ok (.goto 4, 3) := by decide +kernel
theorem dX7_rebuildTime_123 : decode cX7_rebuildTime 123 = .ok (.iload_n 2, 1) := by decide +kernel
theorem dX7_rebuildTime_124 : decode cX7_rebuildTime 124 = .ok (.istore_n 2, 1) := by decide +kernel
theorem dX7_rebuildTime_125 : decode cX7_rebuildTime 125 = .ok (.iinc 3 1, 3) := by decide +kernel
theorem dX7_rebuildTime_128 : decode cX7_rebuildTime 128 = .ok (.goto (-119), 3) := by decide +kernel
theorem dX7_rebuildTime_131 : decode cX7_rebuildTime 131 = .ok (.iload_n 2, 1) := by decide +kernel
theorem dX7_rebuildTime_132 : decode cX7_rebuildTime 132 = .ok (.ireturn, 1) := by decide +kernel
theorem dX7_layShards_0 : decode cX7_layShards 0 = .ok (.aload_n 0, 1) := by decide +kernel
theorem dX7_layShards_1 : decode cX7_layShards 1 = .ok (.invokevirtual 118, 3) := by decide +kernel
theorem dX7_layShards_4 : decode cX7_layShards 4 = .ok (.istore_n 2, 1) := by decide +kernel
theorem dX7_layShards_5 : decode cX7_layShards 5 = .ok (.iconst 0, 1) := by decide +kernel
theorem dX7_layShards_6 : decode cX7_layShards 6 = .ok (.istore_n 3, 1) := by decide +kernel
theorem dX7_layShards_7 : decode cX7_layShards 7 = .ok (.iload_n 3, 1) := by decide +kernel
theorem dX7_layShards_8 : decode cX7_layShards 8 = .ok (.iconst 4, 1) := by decide +kernel
theorem dX7_layShards_9 : decode cX7_layShards 9 = .ok (.if_icmp .ge 16, 3) := by decide +kernel
theorem dX7_layShards_12 : decode cX7_layShards 12 = .ok (.aload_n 0, 1) := by decide +kernel
theorem dX7_layShards_13 : decode cX7_layShards 13 = .ok (.getfield 32, 3) := by decide +kernel
theorem dX7_layShards_16 : decode cX7_layShards 16 = .ok (.iload_n 3, 1) := by decide +kernel
theorem dX7_layShards_17 : decode cX7_layShards 17 = .ok (.iconst 0, 1) := by decide +kernel
theorem dX7_layShards_18 : decode cX7_layShards 18 = .ok (.iastore, 1) := by decide +kernel
theorem dX7_layShards_19 : decode cX7_layShards 19 = .ok (.iinc 3 1, 3) := by decide +kernel
theorem dX7_layShards_22 : decode cX7_layShards 22 = .ok (.goto (-15), 3) := by decide +kernel
theorem dX7_layShards_25 : decode cX7_layShards 25 = .ok (.iconst 0, 1) := by decide +kernel
theorem dX7_layShards_26 : decode cX7_layShards 26 = .ok (.istore_n 3, 1) := by decide +kernel
theorem dX7_layShards_27 : decode cX7_layShards 27 = .ok (.iload_n 3, 1) := by decide +kernel
theorem dX7_layShards_28 : decode cX7_layShards 28 = .ok (.bipush 20, 2) := by decide +kernel
theorem dX7_layShards_30 : decode cX7_layShards 30 = .ok (.if_icmp .ge 17, 3) := by decide +kernel
theorem dX7_layShards_33 : decode cX7_layShards 33 = .ok (.aload_n 0, 1) := by decide +kernel
theorem dX7_layShards_34 : decode cX7_layShards 34 = .ok (.getfield 35, 3) := by decide +kernel
theorem dX7_layShards_37 : decode cX7_layShards 37 = .ok (.iload_n 3, 1) := by decide +kernel
theorem dX7_layShards_38 : decode cX7_layShards 38 = .ok (.bipush (-10), 2) := by decide +kernel
theorem dX7_layShards_40 : decode cX7_layShards 40 = .ok (.iastore, 1) := by decide +kernel
theorem dX7_layShards_41 : decode cX7_layShards 41 = .ok (.iinc 3 1, 3) := by decide +kernel
theorem dX7_layShards_44 : decode cX7_layShards 44 = .ok (.goto (-17), 3) := by decide +kernel
theorem dX7_layShards_47 : decode cX7_layShards 47 = .ok (.iload_n 2, 1) := by decide +kernel
theorem dX7_layShards_48 : decode cX7_layShards 48 = .ok (.ifCond .eq 151, 3) := by decide +kernel
theorem dX7_layShards_51 : decode cX7_layShards 51 = .ok (.bipush (-10), 2) := by decide +kernel
theorem dX7_layShards_53 : decode cX7_layShards 53 = .ok (.istore_n 3, 1) := by decide +kernel
theorem dX7_layShards_54 : decode cX7_layShards 54 = .ok (.iconst 0, 1) := by decide +kernel
theorem dX7_layShards_55 : decode cX7_layShards 55 = .ok (.istore 4, 2) := by decide +kernel
theorem dX7_layShards_57 : decode cX7_layShards 57 = .ok (.iload 4, 2) := by decide +kernel
theorem dX7_layShards_59 : decode cX7_layShards 59 = .ok (.aload_n 0, 1) := by decide +kernel
theorem dX7_layShards_60 : decode cX7_layShards 60 = .ok (.getfield 7, 3) := by decide +kernel
theorem dX7_layShards_63 : decode cX7_layShards 63 = .ok (.iconst 0, 1) := by decide +kernel
theorem dX7_layShards_64 : decode cX7_layShards 64 = .ok (.iaload, 1) := by decide +kernel
theorem dX7_layShards_65 : decode cX7_layShards 65 = .ok (.if_icmp .ge 56, 3) := by decide +kernel
theorem dX7_layShards_68 : decode cX7_layShards 68 = .ok (.iload_n 2, 1) := by decide +kernel
theorem dX7_layShards_69 : decode cX7_layShards 69 = .ok (.iload 4, 2) := by decide +kernel
theorem dX7_layShards_71 : decode cX7_layShards 71 = .ok (.ishr, 1) := by decide +kernel
theorem dX7_layShards_72 : decode cX7_layShards 72 = .ok (.iconst 1, 1) := by decide +kernel
theorem dX7_layShards_73 : decode cX7_layShards 73 = .ok (.iand, 1) := by decide +kernel
theorem dX7_layShards_74 : decode cX7_layShards 74 = .ok (.iconst 1, 1) := by decide +kernel
theorem dX7_layShards_75 : decode cX7_layShards 75 = .ok (.if_icmp .ne 7, 3) := by decide +kernel
theorem dX7_layShards_78 : decode cX7_layShards 78 = .ok (.iconst 1, 1) := by decide +kernel
theorem dX7_layShards_79 : decode cX7_layShards 79 = .ok (.goto 4, 3) := by decide +kernel
theorem dX7_layShards_82 : decode cX7_layShards 82 = .ok (.iconst 0, 1) := by decide +kernel
theorem dX7_layShards_83 : decode cX7_layShards 83 = .ok (.istore 5, 2) := by decide +kernel
theorem dX7_layShards_85 : decode cX7_layShards 85 = .ok (.iload 5, 2) := by decide +kernel
theorem dX7_layShards_87 : decode cX7_layShards 87 = .ok (.ifCond .eq 26, 3) := by decide +kernel
theorem dX7_layShards_90 : decode cX7_layShards 90 = .ok (.iload_n 3, 1) := by decide +kernel
theorem dX7_layShards_91 : decode cX7_layShards 91 = .ok (.ifCond .lt 17, 3) := by decide +kernel
theorem dX7_layShards_94 : decode cX7_layShards 94 = .ok (.aload_n 0, 1) := by decide +kernel
theorem dX7_layShards_95 : decode cX7_layShards 95 = .ok (.iload 4, 2) := by decide +kernel
theorem dX7_layShards_97 : decode cX7_layShards 97 = .ok (.invokevirtual 106, 3) := by decide +kernel
theorem dX7_layShards_100 : decode cX7_layShards 100 = .ok (.aload_n 0, 1) := by decide +kernel
theorem dX7_layShards_101 : decode cX7_layShards 101 = .ok (.iload_n 3, 1) := by decide +kernel
theorem dX7_layShards_102 : decode cX7_layShards 102 = .ok (.invokevirtual 106, 3) := by decide +kernel
theorem dX7_layShards_105 : decode cX7_layShards 105 = .ok (.if_icmp .le 8, 3) := by decide +kernel
theorem dX7_layShards_108 : decode cX7_layShards 108 = .ok (.iload 4, 2) := by decide +kernel
theorem dX7_layShards_110 : decode cX7_layShards 110 = .ok (.goto 4, 3) := by decide +kernel
theorem dX7_layShards_113 : decode cX7_layShards 113 = .ok (.iload_n 3, 1) := by decide +kernel
theorem dX7_layShards_114 : decode cX7_layShards 114 = .ok (.istore_n 3, 1) := by decide +kernel
theorem dX7_layShards_115 : decode cX7_layShards 115 = .ok (.iinc 4 1, 3) := by decide +kernel
theorem dX7_layShards_118 : decode cX7_layShards 118 = .ok (.goto (-61), 3) := by decide +kernel
theorem dX7_layShards_121 : decode cX7_layShards 121 = .ok (.iconst 0, 1) := by decide +kernel
theorem dX7_layShards_122 : decode cX7_layShards 122 = .ok (.istore 4, 2) := by decide +kernel
theorem dX7_layShards_124 : decode cX7_layShards 124 = .ok (.iconst 1, 1) := by decide +kernel
theorem dX7_layShards_125 : decode cX7_layShards 125 = .ok (.istore 5, 2) := by decide +kernel
theorem dX7_layShards_127 : decode cX7_layShards 127 = .ok (.iload 5, 2) := by decide +kernel
theorem dX7_layShards_129 : decode cX7_layShards 129 = .ok (.iload_n 1, 1) := by decide +kernel
theorem dX7_layShards_130 : decode cX7_layShards 130 = .ok (.if_icmp .ge 35, 3) := by decide +kernel
theorem dX7_layShards_133 : decode cX7_layShards 133 = .ok (.aload_n 0, 1) := by decide +kernel
theorem dX7_layShards_134 : decode cX7_layShards 134 = .ok (.getfield 32, 3) := by decide +kernel
theorem dX7_layShards_137 : decode cX7_layShards 137 = .ok (.iload 5, 2) := by decide +kernel
theorem dX7_layShards_139 : decode cX7_layShards 139 = .ok (.iaload, 1) := by decide +kernel
theorem dX7_layShards_140 : decode cX7_layShards 140 = .ok (.aload_n 0, 1) := by decide +kernel
theorem dX7_layShards_141 : decode cX7_layShards 141 = .ok (.getfield 32, 3) := by decide +kernel
theorem dX7_layShards_144 : decode cX7_layShards 144 = .ok (.iload 4, 2) := by decide +kernel
theorem dX7_layShards_146 : decode cX7_layShards 146 = .ok (.iaload, 1) := by decide +kernel
theorem dX7_layShards_147 : decode cX7_layShards 147 = .ok (.if_icmp .ge 8, 3) := by decide +kernel
theorem dX7_layShards_150 : decode cX7_layShards 150 = .ok (.iload 5, 2) := by decide +kernel
theorem dX7_layShards_152 : decode cX7_layShards 152 = .ok (.goto 5, 3) := by decide +kernel
theorem dX7_layShards_155 : decode cX7_layShards 155 = .ok (.iload 4, 2) := by decide +kernel
theorem dX7_layShards_157 : decode cX7_layShards 157 = .ok (.istore 4, 2) := by decide +kernel
theorem dX7_layShards_159 : decode cX7_layShards 159 = .ok (.iinc 5 1, 3) := by decide +kernel
theorem dX7_layShards_162 : decode cX7_layShards 162 = .ok (.goto (-35), 3) := by decide +kernel
theorem dX7_layShards_165 : decode cX7_layShards 165 = .ok (.aload_n 0, 1) := by decide +kernel
theorem dX7_layShards_166 : decode cX7_layShards 166 = .ok (.getfield 35, 3) := by decide +kernel
theorem dX7_layShards_169 : decode cX7_layShards 169 = .ok (.iload_n 3, 1) := by decide +kernel
theorem dX7_layShards_170 : decode cX7_layShards 170 = .ok (.iload 4, 2) := by decide +kernel
theorem dX7_layShards_172 : decode cX7_layShards 172 = .ok (.iastore, 1) := by decide +kernel
theorem dX7_layShards_173 : decode cX7_layShards 173 = .ok (.aload_n 0, 1) := by decide +kernel
theorem dX7_layShards_174 : decode cX7_layShards 174 = .ok (.getfield 32, 3) := by decide +kernel
theorem dX7_layShards_177 : decode cX7_layShards 177 = .ok (.iload 4, 2) := by decide +kernel
theorem dX7_layShards_179 : decode cX7_layShards 179 = .ok (.dup2, 1) := by decide +kernel
theorem dX7_layShards_180 : decode cX7_layShards 180 = .ok (.iaload, 1) := by decide +kernel
theorem dX7_layShards_181 : decode cX7_layShards 181 = .ok (.aload_n 0, 1) := by decide +kernel
theorem dX7_layShards_182 : decode cX7_layShards 182 = .ok (.iload_n 3, 1) := by decide +kernel
theorem dX7_layShards_183 : decode cX7_layShards 183 = .ok (.invokevirtual 106, 3) := by decide +kernel
theorem dX7_layShards_186 : decode cX7_layShards 186 = .ok (.iadd, 1) := by decide +kernel
theorem dX7_layShards_187 : decode cX7_layShards 187 = .ok (.iastore, 1) := by decide +kernel
theorem dX7_layShards_188 : decode cX7_layShards 188 = .ok (.iload_n 2, 1) := by decide +kernel
theorem dX7_layShards_189 : decode cX7_layShards 189 = .ok (.iconst 1, 1) := by decide +kernel
theorem dX7_layShards_190 : decode cX7_layShards 190 = .ok (.iload_n 3, 1) := by decide +kernel
theorem dX7_layShards_191 : decode cX7_layShards 191 = .ok (.ishl, 1) := by decide +kernel
theorem dX7_layShards_192 : decode cX7_layShards 192 = .ok (.iconst (-1), 1) := by decide +kernel
theorem dX7_layShards_193 : decode cX7_layShards 193 = .ok (.ixor, 1) := by decide +kernel
theorem dX7_layShards_194 : decode cX7_layShards 194 = .ok (.iand, 1) := by decide +kernel
theorem dX7_layShards_195 : decode cX7_layShards 195 = .ok (.istore_n 2, 1) := by decide +kernel
theorem dX7_layShards_196 : decode cX7_layShards 196 = .ok (.goto (-149), 3) := by decide +kernel
theorem dX7_layShards_199 : decode cX7_layShards 199 = .ok (.return_, 1) := by decide +kernel
theorem dX7_areShards_0 : decode cX7_areShards 0 = .ok (.iload_n 0, 1) := by decide +kernel
theorem dX7_areShards_1 : decode cX7_areShards 1 = .ok (.iconst 1, 1) := by decide +kernel
theorem dX7_areShards_2 : decode cX7_areShards 2 = .ok (.iconst 4, 1) := by decide +kernel
theorem dX7_areShards_3 : decode cX7_areShards 3 = .ok (.invokestatic 41, 3) := by decide +kernel
theorem dX7_areShards_6 : decode cX7_areShards 6 = .ok (.ireturn, 1) := by decide +kernel
theorem dX7_shardOf_0 : decode cX7_shardOf 0 = .ok (.aload_n 0, 1) := by decide +kernel
theorem dX7_shardOf_1 : decode cX7_shardOf 1 = .ok (.iload_n 1, 1) := by decide +kernel
theorem dX7_shardOf_2 : decode cX7_shardOf 2 = .ok (.invokevirtual 57, 3) := by decide +kernel
theorem dX7_shardOf_5 : decode cX7_shardOf 5 = .ok (.ifCond .ne 5, 3) := by decide +kernel
theorem dX7_shardOf_8 : decode cX7_shardOf 8 = .ok (.iconst (-1), 1) := by decide +kernel
theorem dX7_shardOf_9 : decode cX7_shardOf 9 = .ok (.ireturn, 1) := by decide +kernel
theorem dX7_shardOf_10 : decode cX7_shardOf 10 = .ok (.iload_n 2, 1) := by decide +kernel
theorem dX7_shardOf_11 : decode cX7_shardOf 11 = .ok (.invokestatic 121, 3) := by decide +kernel
theorem dX7_shardOf_14 : decode cX7_shardOf 14 = .ok (.ifCond .ne 6, 3) := by decide +kernel
theorem dX7_shardOf_17 : decode cX7_shardOf 17 = .ok (.bipush (-3), 2) := by decide +kernel
theorem dX7_shardOf_19 : decode cX7_shardOf 19 = .ok (.ireturn, 1) := by decide +kernel
theorem dX7_shardOf_20 : decode cX7_shardOf 20 = .ok (.aload_n 0, 1) := by decide +kernel
theorem dX7_shardOf_21 : decode cX7_shardOf 21 = .ok (.iload_n 2, 1) := by decide +kernel
theorem dX7_shardOf_22 : decode cX7_shardOf 22 = .ok (.invokevirtual 124, 3) := by decide +kernel
theorem dX7_shardOf_25 : decode cX7_shardOf 25 = .ok (.aload_n 0, 1) := by decide +kernel
theorem dX7_shardOf_26 : decode cX7_shardOf 26 = .ok (.getfield 35, 3) := by decide +kernel
theorem dX7_shardOf_29 : decode cX7_shardOf 29 = .ok (.iload_n 1, 1) := by decide +kernel
theorem dX7_shardOf_30 : decode cX7_shardOf 30 = .ok (.iaload, 1) := by decide +kernel
theorem dX7_shardOf_31 : decode cX7_shardOf 31 = .ok (.ireturn, 1) := by decide +kernel
theorem dX7_shardLoad_0 : decode cX7_shardLoad 0 = .ok (.iload_n 1, 1) := by decide +kernel
theorem dX7_shardLoad_1 : decode cX7_shardLoad 1 = .ok (.invokestatic 121, 3) := by decide +kernel
theorem dX7_shardLoad_4 : decode cX7_shardLoad 4 = .ok (.ifCond .eq 14, 3) := by decide +kernel
theorem dX7_shardLoad_7 : decode cX7_shardLoad 7 = .ok (.iload_n 2, 1) := by decide +kernel
theorem dX7_shardLoad_8 : decode cX7_shardLoad 8 = .ok (.iconst 0, 1) := by decide +kernel
theorem dX7_shardLoad_9 : decode cX7_shardLoad 9 = .ok (.iload_n 1, 1) := by decide +kernel
theorem dX7_shardLoad_10 : decode cX7_shardLoad 10 = .ok (.iconst 1, 1) := by decide +kernel
theorem dX7_shardLoad_11 : decode cX7_shardLoad 11 = .ok (.isub, 1) := by decide +kernel
theorem dX7_shardLoad_12 : decode cX7_shardLoad 12 = .ok (.invokestatic 41, 3) := by decide +kernel
theorem dX7_shardLoad_15 : decode cX7_shardLoad 15 = .ok (.ifCond .ne 6, 3) := by decide +kernel
theorem dX7_shardLoad_18 : decode cX7_shardLoad 18 = .ok (.bipush (-3), 2) := by decide +kernel
theorem dX7_shardLoad_20 : decode cX7_shardLoad 20 = .ok (.ireturn, 1) := by decide +kernel
theorem dX7_shardLoad_21 : decode cX7_shardLoad 21 = .ok (.aload_n 0, 1) := by decide +kernel
theorem dX7_shardLoad_22 : decode cX7_shardLoad 22 = .ok (.iload_n 1, 1) := by decide +kernel
theorem dX7_shardLoad_23 : decode cX7_shardLoad 23 = .ok (.invokevirtual 124, 3) := by decide +kernel
theorem dX7_shardLoad_26 : decode cX7_shardLoad 26 = .ok (.aload_n 0, 1) := by decide +kernel
theorem dX7_shardLoad_27 : decode cX7_shardLoad 27 = .ok (.getfield 32, 3) := by decide +kernel
theorem dX7_shardLoad_30 : decode cX7_shardLoad 30 = .ok (.iload_n 2, 1) := by decide +kernel
theorem dX7_shardLoad_31 : decode cX7_shardLoad 31 = .ok (.iaload, 1) := by decide +kernel
theorem dX7_shardLoad_32 : decode cX7_shardLoad 32 = .ok (.ireturn, 1) := by decide +kernel
theorem dX7_greatestBy_0 : decode cX7_greatestBy 0 = .ok (.iconst 0, 1) := by decide +kernel
theorem dX7_greatestBy_1 : decode cX7_greatestBy 1 = .ok (.istore 4, 2) := by decide +kernel
theorem dX7_greatestBy_3 : decode cX7_greatestBy 3 = .ok (.iload 4, 2) := by decide +kernel
theorem dX7_greatestBy_5 : decode cX7_greatestBy 5 = .ok (.iconst 4, 1) := by decide +kernel
theorem dX7_greatestBy_6 : decode cX7_greatestBy 6 = .ok (.if_icmp .ge 17, 3) := by decide +kernel
theorem dX7_greatestBy_9 : decode cX7_greatestBy 9 = .ok (.aload_n 0, 1) := by decide +kernel
theorem dX7_greatestBy_10 : decode cX7_greatestBy 10 = .ok (.getfield 32, 3) := by decide +kernel
theorem dX7_greatestBy_13 : decode cX7_greatestBy 13 = .ok (.iload 4, 2) := by decide +kernel
theorem dX7_greatestBy_15 : decode cX7_greatestBy 15 = .ok (.iconst 0, 1) := by decide +kernel
theorem dX7_greatestBy_16 : decode cX7_greatestBy 16 = .ok (.iastore, 1) := by decide +kernel
theorem dX7_greatestBy_17 : decode cX7_greatestBy 17 = .ok (.iinc 4 1, 3) := by decide +kernel
theorem dX7_greatestBy_20 : decode cX7_greatestBy 20 = .ok (.goto (-17), 3) := by decide +kernel
theorem dX7_greatestBy_23 : decode cX7_greatestBy 23 = .ok (.iload_n 1, 1) := by decide +kernel
theorem dX7_greatestBy_24 : decode cX7_greatestBy 24 = .ok (.istore 4, 2) := by decide +kernel
theorem dX7_greatestBy_26 : decode cX7_greatestBy 26 = .ok (.iconst 0, 1) := by decide +kernel
theorem dX7_greatestBy_27 : decode cX7_greatestBy 27 = .ok (.istore 5, 2) := by decide +kernel
theorem dX7_greatestBy_29 : decode cX7_greatestBy 29 = .ok (.iload 5, 2) := by decide +kernel
theorem dX7_greatestBy_31 : decode cX7_greatestBy 31 = .ok (.iload_n 2, 1) := by decide +kernel
theorem dX7_greatestBy_32 : decode cX7_greatestBy 32 = .ok (.if_icmp .ge 34, 3) := by decide +kernel
theorem dX7_greatestBy_35 : decode cX7_greatestBy 35 = .ok (.aload_n 0, 1) := by decide +kernel
theorem dX7_greatestBy_36 : decode cX7_greatestBy 36 = .ok (.getfield 32, 3) := by decide +kernel
theorem dX7_greatestBy_39 : decode cX7_greatestBy 39 = .ok (.iload 4, 2) := by decide +kernel
theorem dX7_greatestBy_41 : decode cX7_greatestBy 41 = .ok (.iload_n 3, 1) := by decide +kernel
theorem dX7_greatestBy_42 : decode cX7_greatestBy 42 = .ok (.irem, 1) := by decide +kernel
theorem dX7_greatestBy_43 : decode cX7_greatestBy 43 = .ok (.dup2, 1) := by decide +kernel
theorem dX7_greatestBy_44 : decode cX7_greatestBy 44 = .ok (.iaload, 1) := by decide +kernel
theorem dX7_greatestBy_45 : decode cX7_greatestBy 45 = .ok (.aload_n 0, 1) := by decide +kernel
theorem dX7_greatestBy_46 : decode cX7_greatestBy 46 = .ok (.getfield 38, 3) := by decide +kernel
theorem dX7_greatestBy_49 : decode cX7_greatestBy 49 = .ok (.iload 5, 2) := by decide +kernel
theorem dX7_greatestBy_51 : decode cX7_greatestBy 51 = .ok (.iaload, 1) := by decide +kernel
theorem dX7_greatestBy_52 : decode cX7_greatestBy 52 = .ok (.iadd, 1) := by decide +kernel
theorem dX7_greatestBy_53 : decode cX7_greatestBy 53 = .ok (.iastore, 1) := by decide +kernel
theorem dX7_greatestBy_54 : decode cX7_greatestBy 54 = .ok (.iload 4, 2) := by decide +kernel
theorem dX7_greatestBy_56 : decode cX7_greatestBy 56 = .ok (.iload_n 3, 1) := by decide +kernel
theorem dX7_greatestBy_57 : decode cX7_greatestBy 57 = .ok (.idiv, 1) := by decide +kernel
theorem dX7_greatestBy_58 : decode cX7_greatestBy 58 = .ok (.istore 4, 2) := by decide +kernel
theorem dX7_greatestBy_60 : decode cX7_greatestBy 60 = .ok (.iinc 5 1, 3) := by decide +kernel
theorem dX7_greatestBy_63 : decode cX7_greatestBy 63 = .ok (.goto (-34), 3) := by decide +kernel
theorem dX7_greatestBy_66 : decode cX7_greatestBy 66 = .ok (.iconst 0, 1) := by decide +kernel
theorem dX7_greatestBy_67 : decode cX7_greatestBy 67 = .ok (.istore 5, 2) := by decide +kernel
theorem dX7_greatestBy_69 : decode cX7_greatestBy 69 = .ok (.iconst 0, 1) := by decide +kernel
theorem dX7_greatestBy_70 : decode cX7_greatestBy 70 = .ok (.istore 6, 2) := by decide +kernel
theorem dX7_greatestBy_72 : decode cX7_greatestBy 72 = .ok (.iload 6, 2) := by decide +kernel
theorem dX7_greatestBy_74 : decode cX7_greatestBy 74 = .ok (.iload_n 3, 1) := by decide +kernel
theorem dX7_greatestBy_75 : decode cX7_greatestBy 75 = .ok (.if_icmp .ge 35, 3) := by decide +kernel
theorem dX7_greatestBy_78 : decode cX7_greatestBy 78 = .ok (.aload_n 0, 1) := by decide +kernel
theorem dX7_greatestBy_79 : decode cX7_greatestBy 79 = .ok (.getfield 32, 3) := by decide +kernel
theorem dX7_greatestBy_82 : decode cX7_greatestBy 82 = .ok (.iload 6, 2) := by decide +kernel
theorem dX7_greatestBy_84 : decode cX7_greatestBy 84 = .ok (.iaload, 1) := by decide +kernel
theorem dX7_greatestBy_85 : decode cX7_greatestBy 85 = .ok (.iload 5, 2) := by decide +kernel
theorem dX7_greatestBy_87 : decode cX7_greatestBy 87 = .ok (.if_icmp .le 13, 3) := by decide +kernel
theorem dX7_greatestBy_90 : decode cX7_greatestBy 90 = .ok (.aload_n 0, 1) := by decide +kernel
theorem dX7_greatestBy_91 : decode cX7_greatestBy 91 = .ok (.getfield 32, 3) := by decide +kernel
theorem dX7_greatestBy_94 : decode cX7_greatestBy 94 = .ok (.iload 6, 2) := by decide +kernel
theorem dX7_greatestBy_96 : decode cX7_greatestBy 96 = .ok (.iaload, 1) := by decide +kernel
theorem dX7_greatestBy_97 : decode cX7_greatestBy 97 = .ok (.goto 5, 3) := by decide +kernel
theorem dX7_greatestBy_100 : decode cX7_greatestBy 100 = .ok (.iload 5, 2) := by decide +kernel
theorem dX7_greatestBy_102 : decode cX7_greatestBy 102 = .ok (.istore 5, 2) := by decide +kernel
theorem dX7_greatestBy_104 : decode cX7_greatestBy 104 = .ok (.iinc 6 1, 3) := by decide +kernel
theorem dX7_greatestBy_107 : decode cX7_greatestBy 107 = .ok (.goto (-35), 3) := by decide +kernel
theorem dX7_greatestBy_110 : decode cX7_greatestBy 110 = .ok (.iload 5, 2) := by decide +kernel
theorem dX7_greatestBy_112 : decode cX7_greatestBy 112 = .ok (.ireturn, 1) := by decide +kernel
theorem dX7_bestGreatestLoad_0 : decode cX7_bestGreatestLoad 0 = .ok (.iload_n 1, 1) := by decide +kernel
theorem dX7_bestGreatestLoad_1 : decode cX7_bestGreatestLoad 1 = .ok (.invokestatic 121, 3) := by decide +kernel
theorem dX7_bestGreatestLoad_4 : decode cX7_bestGreatestLoad 4 = .ok (.ifCond .ne 6, 3) := by decide +kernel
theorem dX7_bestGreatestLoad_7 : decode cX7_bestGreatestLoad 7 = .ok (.bipush (-3), 2) := by decide +kernel
theorem dX7_bestGreatestLoad_9 : decode cX7_bestGreatestLoad 9 = .ok (.ireturn, 1) := by decide +kernel
theorem dX7_bestGreatestLoad_10 : decode cX7_bestGreatestLoad 10 = .ok (.aload_n 0, 1) := by decide +kernel
theorem dX7_bestGreatestLoad_11 : decode cX7_bestGreatestLoad 11 = .ok (.invokevirtual 118, 3) := by decide +kernel
theorem dX7_bestGreatestLoad_14 : decode cX7_bestGreatestLoad 14 = .ok (.istore_n 2, 1) := by decide +kernel
theorem dX7_bestGreatestLoad_15 : decode cX7_bestGreatestLoad 15 = .ok (.iconst 0, 1) := by decide +kernel
theorem dX7_bestGreatestLoad_16 : decode cX7_bestGreatestLoad 16 = .ok (.istore_n 3, 1) := by decide +kernel
theorem dX7_bestGreatestLoad_17 : decode cX7_bestGreatestLoad 17 = .ok (.iconst 1, 1) := by decide +kernel
theorem dX7_bestGreatestLoad_18 : decode cX7_bestGreatestLoad 18 = .ok (.istore 4, 2) := by decide +kernel
theorem dX7_bestGreatestLoad_20 : decode cX7_bestGreatestLoad 20 = .ok (.iconst 0, 1) := by decide +kernel
theorem dX7_bestGreatestLoad_21 : decode cX7_bestGreatestLoad 21 = .ok (.istore 5, 2) := by decide +kernel
theorem dX7_bestGreatestLoad_23 : decode cX7_bestGreatestLoad 23 = .ok (.iload 5, 2) := by decide +kernel
theorem dX7_bestGreatestLoad_25 : decode cX7_bestGreatestLoad 25 = .ok (.aload_n 0, 1) := by decide +kernel
theorem dX7_bestGreatestLoad_26 : decode cX7_bestGreatestLoad 26 = .ok (.getfield 7, 3) := by decide +kernel
theorem dX7_bestGreatestLoad_29 : decode cX7_bestGreatestLoad 29 = .ok (.iconst 0, 1) := by decide +kernel
theorem dX7_bestGreatestLoad_30 : decode cX7_bestGreatestLoad 30 = .ok (.iaload, 1) := by decide +kernel
theorem dX7_bestGreatestLoad_31 : decode cX7_bestGreatestLoad 31 = .ok (.if_icmp .ge 40, 3) := by decide +kernel
theorem dX7_bestGreatestLoad_34 : decode cX7_bestGreatestLoad 34 = .ok (.iload_n 2, 1) := by decide +kernel
theorem dX7_bestGreatestLoad_35 : decode cX7_bestGreatestLoad 35 = .ok (.iload 5, 2) := by decide +kernel
theorem dX7_bestGreatestLoad_37 : decode cX7_bestGreatestLoad 37 = .ok (.ishr, 1) := by decide +kernel
theorem dX7_bestGreatestLoad_38 : decode cX7_bestGreatestLoad 38 = .ok (.iconst 1, 1) := by decide +kernel
theorem dX7_bestGreatestLoad_39 : decode cX7_bestGreatestLoad 39 = .ok (.iand, 1) := by decide +kernel
theorem dX7_bestGreatestLoad_40 : decode cX7_bestGreatestLoad 40 = .ok (.iconst 1, 1) := by decide +kernel
theorem dX7_bestGreatestLoad_41 : decode cX7_bestGreatestLoad 41 = .ok (.if_icmp .ne 24, 3) := by decide +kernel
theorem dX7_bestGreatestLoad_44 : decode cX7_bestGreatestLoad 44 = .ok (.aload_n 0, 1) := by decide +kernel
theorem dX7_bestGreatestLoad_45 : decode cX7_bestGreatestLoad 45 = .ok (.getfield 38, 3) := by decide +kernel
theorem dX7_bestGreatestLoad_48 : decode cX7_bestGreatestLoad 48 = .ok (.iload_n 3, 1) := by decide +kernel
theorem dX7_bestGreatestLoad_49 : decode cX7_bestGreatestLoad 49 = .ok (.aload_n 0, 1) := by decide +kernel
theorem dX7_bestGreatestLoad_50 : decode cX7_bestGreatestLoad 50 = .ok (.iload 5, 2) := by decide +kernel
theorem dX7_bestGreatestLoad_52 : decode cX7_bestGreatestLoad 52 = .ok (.invokevirtual 106, 3) := by decide +kernel
theorem dX7_bestGreatestLoad_55 : decode cX7_bestGreatestLoad 55 = .ok (.iastore, 1) := by decide +kernel
theorem dX7_bestGreatestLoad_56 : decode cX7_bestGreatestLoad 56 = .ok (.iinc 3 1, 3) := by decide +kernel
theorem dX7_bestGreatestLoad_59 : decode cX7_bestGreatestLoad 59 = .ok (.iload 4, 2) := by decide +kernel
theorem dX7_bestGreatestLoad_61 : decode cX7_bestGreatestLoad 61 = .ok (.iload_n 1, 1) := by decide +kernel
theorem dX7_bestGreatestLoad_62 : decode cX7_bestGreatestLoad 62 = .ok (.imul, 1) := by decide +kernel
theorem dX7_bestGreatestLoad_63 : decode cX7_bestGreatestLoad 63 = .ok (.istore 4, 2) := by decide +kernel
theorem dX7_bestGreatestLoad_65 : decode cX7_bestGreatestLoad 65 = .ok (.iinc 5 1, 3) := by decide +kernel
theorem dX7_bestGreatestLoad_68 : decode cX7_bestGreatestLoad 68 = .ok (.goto (-45), 3) := by decide +kernel
theorem dX7_bestGreatestLoad_71 : decode cX7_bestGreatestLoad 71 = .ok (.aload_n 0, 1) := by decide +kernel
theorem dX7_bestGreatestLoad_72 : decode cX7_bestGreatestLoad 72 = .ok (.iconst 0, 1) := by decide +kernel
theorem dX7_bestGreatestLoad_73 : decode cX7_bestGreatestLoad 73 = .ok (.iload_n 3, 1) := by decide +kernel
theorem dX7_bestGreatestLoad_74 : decode cX7_bestGreatestLoad 74 = .ok (.iload_n 1, 1) := by decide +kernel
theorem dX7_bestGreatestLoad_75 : decode cX7_bestGreatestLoad 75 = .ok (.invokevirtual 127, 3) := by decide +kernel
theorem dX7_bestGreatestLoad_78 : decode cX7_bestGreatestLoad 78 = .ok (.istore 5, 2) := by decide +kernel
theorem dX7_bestGreatestLoad_80 : decode cX7_bestGreatestLoad 80 = .ok (.iconst 1, 1) := by decide +kernel
theorem dX7_bestGreatestLoad_81 : decode cX7_bestGreatestLoad 81 = .ok (.istore 6, 2) := by decide +kernel
theorem dX7_bestGreatestLoad_83 : decode cX7_bestGreatestLoad 83 = .ok (.iload 6, 2) := by decide +kernel
theorem dX7_bestGreatestLoad_85 : decode cX7_bestGreatestLoad 85 = .ok (.iload 4, 2) := by decide +kernel
theorem dX7_bestGreatestLoad_87 : decode cX7_bestGreatestLoad 87 = .ok (.iload_n 1, 1) := by decide +kernel
theorem dX7_bestGreatestLoad_88 : decode cX7_bestGreatestLoad 88 = .ok (.idiv, 1) := by decide +kernel
theorem dX7_bestGreatestLoad_89 : decode cX7_bestGreatestLoad 89 = .ok (.if_icmp .ge 35, 3) := by decide +kernel
theorem dX7_bestGreatestLoad_92 : decode cX7_bestGreatestLoad 92 = .ok (.aload_n 0, 1) := by decide +kernel
theorem dX7_bestGreatestLoad_93 : decode cX7_bestGreatestLoad 93 = .ok (.iload 6, 2) := by decide +kernel
theorem dX7_bestGreatestLoad_95 : decode cX7_bestGreatestLoad 95 = .ok (.iload_n 3, 1) := by decide +kernel
theorem dX7_bestGreatestLoad_96 : decode cX7_bestGreatestLoad 96 = .ok (.iload_n 1, 1) := by decide +kernel
theorem dX7_bestGreatestLoad_97 : decode cX7_bestGreatestLoad 97 = .ok (.invokevirtual 127, 3) := by decide +kernel
theorem dX7_bestGreatestLoad_100 : decode cX7_bestGreatestLoad 100 = .ok (.istore 7, 2) := by decide +kernel
theorem dX7_bestGreatestLoad_102 : decode cX7_bestGreatestLoad 102 = .ok (.iload 7, 2) := by decide +kernel
theorem dX7_bestGreatestLoad_104 : decode cX7_bestGreatestLoad 104 = .ok (.iload 5, 2) := by decide +kernel
theorem dX7_bestGreatestLoad_106 : decode cX7_bestGreatestLoad 106 = .ok (.if_icmp .ge 8, 3) := by decide +kernel
theorem dX7_bestGreatestLoad_109 : decode cX7_bestGreatestLoad 109 = .ok (.iload 7, 2) := by decide +kernel
theorem dX7_bestGreatestLoad_111 : decode cX7_bestGreatestLoad 111 = .ok (.goto 5, 3) := by decide +kernel
theorem dX7_bestGreatestLoad_114 : decode cX7_bestGreatestLoad 114 = .ok (.iload 5, 2) := by decide +kernel
theorem dX7_bestGreatestLoad_116 : decode cX7_bestGreatestLoad 116 = .ok (.istore 5, 2) := by decide +kernel
theorem dX7_bestGreatestLoad_118 : decode cX7_bestGreatestLoad 118 = .ok (.iinc 6 1, 3) := by decide +kernel
theorem dX7_bestGreatestLoad_121 : decode cX7_bestGreatestLoad 121 = .ok (.goto (-38), 3) := by decide +kernel
theorem dX7_bestGreatestLoad_124 : decode cX7_bestGreatestLoad 124 = .ok (.iload 5, 2) := by decide +kernel
theorem dX7_bestGreatestLoad_126 : decode cX7_bestGreatestLoad 126 = .ok (.ireturn, 1) := by decide +kernel
theorem dX7_save_0 : decode cX7_save 0 = .ok (.iload_n 1, 1) := by decide +kernel
theorem dX7_save_1 : decode cX7_save 1 = .ok (.iconst 0, 1) := by decide +kernel
theorem dX7_save_2 : decode cX7_save 2 = .ok (.iconst 1, 1) := by decide +kernel
theorem dX7_save_3 : decode cX7_save 3 = .ok (.invokestatic 41, 3) := by decide +kernel
theorem dX7_save_6 : decode cX7_save 6 = .ok (.ifCond .ne 6, 3) := by decide +kernel
theorem dX7_save_9 : decode cX7_save 9 = .ok (.bipush (-3), 2) := by decide +kernel
theorem dX7_save_11 : decode cX7_save 11 = .ok (.ireturn, 1) := by decide +kernel
theorem dX7_save_12 : decode cX7_save 12 = .ok (.iconst 0, 1) := by decide +kernel
theorem dX7_save_13 : decode cX7_save 13 = .ok (.istore_n 2, 1) := by decide +kernel
theorem dX7_save_14 : decode cX7_save 14 = .ok (.iload_n 2, 1) := by decide +kernel
theorem dX7_save_15 : decode cX7_save 15 = .ok (.sipush 703, 3) := by decide +kernel
theorem dX7_save_18 : decode cX7_save 18 = .ok (.if_icmp .ge 27, 3) := by decide +kernel
theorem dX7_save_21 : decode cX7_save 21 = .ok (.aload_n 0, 1) := by decide +kernel
theorem dX7_save_22 : decode cX7_save 22 = .ok (.getfield 13, 3) := by decide +kernel
theorem dX7_save_25 : decode cX7_save 25 = .ok (.sipush 703, 3) := by decide +kernel
theorem dX7_save_28 : decode cX7_save 28 = .ok (.iload_n 1, 1) := by decide +kernel
theorem dX7_save_29 : decode cX7_save 29 = .ok (.imul, 1) := by decide +kernel
theorem dX7_save_30 : decode cX7_save 30 = .ok (.iload_n 2, 1) := by decide +kernel
theorem dX7_save_31 : decode cX7_save 31 = .ok (.iadd, 1) := by decide +kernel
theorem dX7_save_32 : decode cX7_save 32 = .ok (.aload_n 0, 1) := by decide +kernel
theorem dX7_save_33 : decode cX7_save 33 = .ok (.getfield 7, 3) := by decide +kernel
theorem dX7_save_36 : decode cX7_save 36 = .ok (.iload_n 2, 1) := by decide +kernel
theorem dX7_save_37 : decode cX7_save 37 = .ok (.iaload, 1) := by decide +kernel
theorem dX7_save_38 : decode cX7_save 38 = .ok (.iastore, 1) := by decide +kernel
theorem dX7_save_39 : decode cX7_save 39 = .ok (.iinc 2 1, 3) := by decide +kernel
theorem dX7_save_42 : decode cX7_save 42 = .ok (.goto (-28), 3) := by decide +kernel
theorem dX7_save_45 : decode cX7_save 45 = .ok (.aload_n 0, 1) := by decide +kernel
theorem dX7_save_46 : decode cX7_save 46 = .ok (.getfield 16, 3) := by decide +kernel
theorem dX7_save_49 : decode cX7_save 49 = .ok (.iload_n 1, 1) := by decide +kernel
theorem dX7_save_50 : decode cX7_save 50 = .ok (.iconst 1, 1) := by decide +kernel
theorem dX7_save_51 : decode cX7_save 51 = .ok (.bastore, 1) := by decide +kernel
theorem dX7_save_52 : decode cX7_save 52 = .ok (.aload_n 0, 1) := by decide +kernel
theorem dX7_save_53 : decode cX7_save 53 = .ok (.getfield 7, 3) := by decide +kernel
theorem dX7_save_56 : decode cX7_save 56 = .ok (.iconst 0, 1) := by decide +kernel
theorem dX7_save_57 : decode cX7_save 57 = .ok (.iaload, 1) := by decide +kernel
theorem dX7_save_58 : decode cX7_save 58 = .ok (.ireturn, 1) := by decide +kernel
theorem dX7_restore_0 : decode cX7_restore 0 = .ok (.iload_n 1, 1) := by decide +kernel
theorem dX7_restore_1 : decode cX7_restore 1 = .ok (.iconst 0, 1) := by decide +kernel
theorem dX7_restore_2 : decode cX7_restore 2 = .ok (.iconst 1, 1) := by decide +kernel
theorem dX7_restore_3 : decode cX7_restore 3 = .ok (.invokestatic 41, 3) := by decide +kernel
theorem dX7_restore_6 : decode cX7_restore 6 = .ok (.ifCond .ne 6, 3) := by decide +kernel
theorem dX7_restore_9 : decode cX7_restore 9 = .ok (.bipush (-3), 2) := by decide +kernel
theorem dX7_restore_11 : decode cX7_restore 11 = .ok (.ireturn, 1) := by decide +kernel
theorem dX7_restore_12 : decode cX7_restore 12 = .ok (.aload_n 0, 1) := by decide +kernel
theorem dX7_restore_13 : decode cX7_restore 13 = .ok (.getfield 16, 3) := by decide +kernel
theorem dX7_restore_16 : decode cX7_restore 16 = .ok (.iload_n 1, 1) := by decide +kernel
theorem dX7_restore_17 : decode cX7_restore 17 = .ok (.baload, 1) := by decide +kernel
theorem dX7_restore_18 : decode cX7_restore 18 = .ok (.ifCond .ne 6, 3) := by decide +kernel
theorem dX7_restore_21 : decode cX7_restore 21 = .ok (.bipush (-11), 2) := by decide +kernel
theorem dX7_restore_23 : decode cX7_restore 23 = .ok (.ireturn, 1) := by decide +kernel
theorem dX7_restore_24 : decode cX7_restore 24 = .ok (.iconst 0, 1) := by decide +kernel
theorem dX7_restore_25 : decode cX7_restore 25 = .ok (.istore_n 2, 1) := by decide +kernel
theorem dX7_restore_26 : decode cX7_restore 26 = .ok (.iload_n 2, 1) := by decide +kernel
theorem dX7_restore_27 : decode cX7_restore 27 = .ok (.sipush 703, 3) := by decide +kernel
theorem dX7_restore_30 : decode cX7_restore 30 = .ok (.if_icmp .ge 27, 3) := by decide +kernel
theorem dX7_restore_33 : decode cX7_restore 33 = .ok (.aload_n 0, 1) := by decide +kernel
theorem dX7_restore_34 : decode cX7_restore 34 = .ok (.getfield 7, 3) := by decide +kernel
theorem dX7_restore_37 : decode cX7_restore 37 = .ok (.iload_n 2, 1) := by decide +kernel
theorem dX7_restore_38 : decode cX7_restore 38 = .ok (.aload_n 0, 1) := by decide +kernel
theorem dX7_restore_39 : decode cX7_restore 39 = .ok (.getfield 13, 3) := by decide +kernel
theorem dX7_restore_42 : decode cX7_restore 42 = .ok (.sipush 703, 3) := by decide +kernel
theorem dX7_restore_45 : decode cX7_restore 45 = .ok (.iload_n 1, 1) := by decide +kernel
theorem dX7_restore_46 : decode cX7_restore 46 = .ok (.imul, 1) := by decide +kernel
theorem dX7_restore_47 : decode cX7_restore 47 = .ok (.iload_n 2, 1) := by decide +kernel
theorem dX7_restore_48 : decode cX7_restore 48 = .ok (.iadd, 1) := by decide +kernel
theorem dX7_restore_49 : decode cX7_restore 49 = .ok (.iaload, 1) := by decide +kernel
theorem dX7_restore_50 : decode cX7_restore 50 = .ok (.iastore, 1) := by decide +kernel
theorem dX7_restore_51 : decode cX7_restore 51 = .ok (.iinc 2 1, 3) := by decide +kernel
theorem dX7_restore_54 : decode cX7_restore 54 = .ok (.goto (-28), 3) := by decide +kernel
theorem dX7_restore_57 : decode cX7_restore 57 = .ok (.aload_n 0, 1) := by decide +kernel
theorem dX7_restore_58 : decode cX7_restore 58 = .ok (.getfield 7, 3) := by decide +kernel
theorem dX7_restore_61 : decode cX7_restore 61 = .ok (.iconst 0, 1) := by decide +kernel
theorem dX7_restore_62 : decode cX7_restore 62 = .ok (.iaload, 1) := by decide +kernel
theorem dX7_restore_63 : decode cX7_restore 63 = .ok (.ireturn, 1) := by decide +kernel
end
section
theorem dL_law_0 : decode cL_law 0 = .ok (.new 7, 3) := by decide +kernel
theorem dL_law_3 : decode cL_law 3 = .ok (.dup, 1) := by decide +kernel
theorem dL_law_4 : decode cL_law 4 = .ok (.invokespecial 9, 3) := by decide +kernel
theorem dL_law_7 : decode cL_law 7 = .ok (.astore_n 1, 1) := by decide +kernel
theorem dL_law_8 : decode cL_law 8 = .ok (.new 10, 3) := by decide +kernel
theorem dL_law_11 : decode cL_law 11 = .ok (.dup, 1) := by decide +kernel
theorem dL_law_12 : decode cL_law 12 = .ok (.invokespecial 12, 3) := by decide +kernel
theorem dL_law_15 : decode cL_law 15 = .ok (.astore_n 2, 1) := by decide +kernel
theorem dL_law_16 : decode cL_law 16 = .ok (.iconst 0, 1) := by decide +kernel
theorem dL_law_17 : decode cL_law 17 = .ok (.istore_n 3, 1) := by decide +kernel
theorem dL_law_18 : decode cL_law 18 = .ok (.iload_n 3, 1) := by decide +kernel
theorem dL_law_19 : decode cL_law 19 = .ok (.aload_n 0, 1) := by decide +kernel
theorem dL_law_20 : decode cL_law 20 = .ok (.arraylength, 1) := by decide +kernel
theorem dL_law_21 : decode cL_law 21 = .ok (.iconst 4, 1) := by decide +kernel
theorem dL_law_22 : decode cL_law 22 = .ok (.isub, 1) := by decide +kernel
theorem dL_law_23 : decode cL_law 23 = .ok (.if_icmp .gt 839, 3) := by decide +kernel
theorem dL_law_26 : decode cL_law 26 = .ok (.aload_n 0, 1) := by decide +kernel
theorem dL_law_27 : decode cL_law 27 = .ok (.iload_n 3, 1) := by decide +kernel
theorem dL_law_28 : decode cL_law 28 = .ok (.iaload, 1) := by decide +kernel
theorem dL_law_29 : decode cL_law 29 = .ok (.bipush 31, 2) := by decide +kernel
theorem dL_law_31 : decode cL_law 31 = .ok (.iand, 1) := by decide +kernel
theorem dL_law_32 : decode cL_law 32 = .ok (.tableswitch 824 0 25 #[120, 153, 166, 209, 242, 301, 324, 357, 390, 413, 436, 459, 482, 495, 518, 541, 554, 597, 630, 653, 676, 689, 722, 755, 778, 801], 120) := by decide +kernel
theorem dL_law_152 : decode cL_law 152 = .ok (.aload_n 1, 1) := by decide +kernel
theorem dL_law_153 : decode cL_law 153 = .ok (.aload_n 0, 1) := by decide +kernel
theorem dL_law_154 : decode cL_law 154 = .ok (.iload_n 3, 1) := by decide +kernel
theorem dL_law_155 : decode cL_law 155 = .ok (.iconst 1, 1) := by decide +kernel
theorem dL_law_156 : decode cL_law 156 = .ok (.iadd, 1) := by decide +kernel
theorem dL_law_157 : decode cL_law 157 = .ok (.iaload, 1) := by decide +kernel
theorem dL_law_158 : decode cL_law 158 = .ok (.aload_n 0, 1) := by decide +kernel
theorem dL_law_159 : decode cL_law 159 = .ok (.iload_n 3, 1) := by decide +kernel
theorem dL_law_160 : decode cL_law 160 = .ok (.iconst 2, 1) := by decide +kernel
theorem dL_law_161 : decode cL_law 161 = .ok (.iadd, 1) := by decide +kernel
theorem dL_law_162 : decode cL_law 162 = .ok (.iaload, 1) := by decide +kernel
theorem dL_law_163 : decode cL_law 163 = .ok (.invokevirtual 13, 3) := by decide +kernel
theorem dL_law_166 : decode cL_law 166 = .ok (.aload_n 2, 1) := by decide +kernel
theorem dL_law_167 : decode cL_law 167 = .ok (.aload_n 0, 1) := by decide +kernel
theorem dL_law_168 : decode cL_law 168 = .ok (.iload_n 3, 1) := by decide +kernel
theorem dL_law_169 : decode cL_law 169 = .ok (.iconst 1, 1) := by decide +kernel
theorem dL_law_170 : decode cL_law 170 = .ok (.iadd, 1) := by decide +kernel
theorem dL_law_171 : decode cL_law 171 = .ok (.iaload, 1) := by decide +kernel
theorem dL_law_172 : decode cL_law 172 = .ok (.aload_n 0, 1) := by decide +kernel
theorem dL_law_173 : decode cL_law 173 = .ok (.iload_n 3, 1) := by decide +kernel
theorem dL_law_174 : decode cL_law 174 = .ok (.iconst 2, 1) := by decide +kernel
theorem dL_law_175 : decode cL_law 175 = .ok (.iadd, 1) := by decide +kernel
theorem dL_law_176 : decode cL_law 176 = .ok (.iaload, 1) := by decide +kernel
theorem dL_law_177 : decode cL_law 177 = .ok (.invokevirtual 17, 3) := by decide +kernel
theorem dL_law_180 : decode cL_law 180 = .ok (.if_icmp .eq 676, 3) := by decide +kernel
theorem dL_law_183 : decode cL_law 183 = .ok (.iconst 0, 1) := by decide +kernel
theorem dL_law_184 : decode cL_law 184 = .ok (.ireturn, 1) := by decide +kernel
theorem dL_law_185 : decode cL_law 185 = .ok (.aload_n 1, 1) := by decide +kernel
theorem dL_law_186 : decode cL_law 186 = .ok (.invokevirtual 18, 3) := by decide +kernel
theorem dL_law_189 : decode cL_law 189 = .ok (.aload_n 2, 1) := by decide +kernel
theorem dL_law_190 : decode cL_law 190 = .ok (.invokevirtual 22, 3) := by decide +kernel
theorem dL_law_193 : decode cL_law 193 = .ok (.if_icmp .eq 663, 3) := by decide +kernel
theorem dL_law_196 : decode cL_law 196 = .ok (.iconst 0, 1) := by decide +kernel
theorem dL_law_197 : decode cL_law 197 = .ok (.ireturn, 1) := by decide +kernel
theorem dL_law_198 : decode cL_law 198 = .ok (.aload_n 1, 1) := by decide +kernel
theorem dL_law_199 : decode cL_law 199 = .ok (.aload_n 0, 1) := by decide +kernel
theorem dL_law_200 : decode cL_law 200 = .ok (.iload_n 3, 1) := by decide +kernel
theorem dL_law_201 : decode cL_law 201 = .ok (.iconst 1, 1) := by decide +kernel
theorem dL_law_202 : decode cL_law 202 = .ok (.iadd, 1) := by decide +kernel
theorem dL_law_203 : decode cL_law 203 = .ok (.iaload, 1) := by decide +kernel
theorem dL_law_204 : decode cL_law 204 = .ok (.aload_n 0, 1) := by decide +kernel
theorem dL_law_205 : decode cL_law 205 = .ok (.iload_n 3, 1) := by decide +kernel
theorem dL_law_206 : decode cL_law 206 = .ok (.iconst 2, 1) := by decide +kernel
theorem dL_law_207 : decode cL_law 207 = .ok (.iadd, 1) := by decide +kernel
theorem dL_law_208 : decode cL_law 208 = .ok (.iaload, 1) := by decide +kernel
theorem dL_law_209 : decode cL_law 209 = .ok (.aload_n 0, 1) := by decide +kernel
theorem dL_law_210 : decode cL_law 210 = .ok (.iload_n 3, 1) := by decide +kernel
theorem dL_law_211 : decode cL_law 211 = .ok (.iconst 3, 1) := by decide +kernel
theorem dL_law_212 : decode cL_law 212 = .ok (.iadd, 1) := by decide +kernel
theorem dL_law_213 : decode cL_law 213 = .ok (.iaload, 1) := by decide +kernel
theorem dL_law_214 : decode cL_law 214 = .ok (.invokevirtual 23, 3) := by decide +kernel
theorem dL_law_217 : decode cL_law 217 = .ok (.aload_n 2, 1) := by decide +kernel
theorem dL_law_218 : decode cL_law 218 = .ok (.aload_n 0, 1) := by decide +kernel
theorem dL_law_219 : decode cL_law 219 = .ok (.iload_n 3, 1) := by decide +kernel
theorem dL_law_220 : decode cL_law 220 = .ok (.iconst 1, 1) := by decide +kernel
theorem dL_law_221 : decode cL_law 221 = .ok (.iadd, 1) := by decide +kernel
theorem dL_law_222 : decode cL_law 222 = .ok (.iaload, 1) := by decide +kernel
theorem dL_law_223 : decode cL_law 223 = .ok (.aload_n 0, 1) := by decide +kernel
theorem dL_law_224 : decode cL_law 224 = .ok (.iload_n 3, 1) := by decide +kernel
theorem dL_law_225 : decode cL_law 225 = .ok (.iconst 2, 1) := by decide +kernel
theorem dL_law_226 : decode cL_law 226 = .ok (.iadd, 1) := by decide +kernel
theorem dL_law_227 : decode cL_law 227 = .ok (.iaload, 1) := by decide +kernel
theorem dL_law_228 : decode cL_law 228 = .ok (.aload_n 0, 1) := by decide +kernel
theorem dL_law_229 : decode cL_law 229 = .ok (.iload_n 3, 1) := by decide +kernel
theorem dL_law_230 : decode cL_law 230 = .ok (.iconst 3, 1) := by decide +kernel
theorem dL_law_231 : decode cL_law 231 = .ok (.iadd, 1) := by decide +kernel
theorem dL_law_232 : decode cL_law 232 = .ok (.iaload, 1) := by decide +kernel
theorem dL_law_233 : decode cL_law 233 = .ok (.invokevirtual 27, 3) := by decide +kernel
theorem dL_law_236 : decode cL_law 236 = .ok (.if_icmp .eq 620, 3) := by decide +kernel
theorem dL_law_239 : decode cL_law 239 = .ok (.iconst 0, 1) := by decide +kernel
theorem dL_law_240 : decode cL_law 240 = .ok (.ireturn, 1) := by decide +kernel
theorem dL_law_241 : decode cL_law 241 = .ok (.aload_n 1, 1) := by decide +kernel
theorem dL_law_242 : decode cL_law 242 = .ok (.aload_n 0, 1) := by decide +kernel
theorem dL_law_243 : decode cL_law 243 = .ok (.iload_n 3, 1) := by decide +kernel
theorem dL_law_244 : decode cL_law 244 = .ok (.iconst 1, 1) := by decide +kernel
theorem dL_law_245 : decode cL_law 245 = .ok (.iadd, 1) := by decide +kernel
theorem dL_law_246 : decode cL_law 246 = .ok (.iaload, 1) := by decide +kernel
theorem dL_law_247 : decode cL_law 247 = .ok (.aload_n 0, 1) := by decide +kernel
theorem dL_law_248 : decode cL_law 248 = .ok (.iload_n 3, 1) := by decide +kernel
theorem dL_law_249 : decode cL_law 249 = .ok (.iconst 2, 1) := by decide +kernel
theorem dL_law_250 : decode cL_law 250 = .ok (.iadd, 1) := by decide +kernel
theorem dL_law_251 : decode cL_law 251 = .ok (.iaload, 1) := by decide +kernel
theorem dL_law_252 : decode cL_law 252 = .ok (.invokevirtual 28, 3) := by decide +kernel
theorem dL_law_255 : decode cL_law 255 = .ok (.aload_n 2, 1) := by decide +kernel
theorem dL_law_256 : decode cL_law 256 = .ok (.aload_n 0, 1) := by decide +kernel
theorem dL_law_257 : decode cL_law 257 = .ok (.iload_n 3, 1) := by decide +kernel
theorem dL_law_258 : decode cL_law 258 = .ok (.iconst 1, 1) := by decide +kernel
theorem dL_law_259 : decode cL_law 259 = .ok (.iadd, 1) := by decide +kernel
theorem dL_law_260 : decode cL_law 260 = .ok (.iaload, 1) := by decide +kernel
theorem dL_law_261 : decode cL_law 261 = .ok (.aload_n 0, 1) := by decide +kernel
theorem dL_law_262 : decode cL_law 262 = .ok (.iload_n 3, 1) := by decide +kernel
theorem dL_law_263 : decode cL_law 263 = .ok (.iconst 2, 1) := by decide +kernel
theorem dL_law_264 : decode cL_law 264 = .ok (.iadd, 1) := by decide +kernel
theorem dL_law_265 : decode cL_law 265 = .ok (.iaload, 1) := by decide +kernel
theorem dL_law_266 : decode cL_law 266 = .ok (.invokevirtual 31, 3) := by decide +kernel
theorem dL_law_269 : decode cL_law 269 = .ok (.if_icmp .eq 587, 3) := by decide +kernel
theorem dL_law_272 : decode cL_law 272 = .ok (.iconst 0, 1) := by decide +kernel
theorem dL_law_273 : decode cL_law 273 = .ok (.ireturn, 1) := by decide +kernel
theorem dL_law_274 : decode cL_law 274 = .ok (.aload_n 1, 1) := by decide +kernel
theorem dL_law_275 : decode cL_law 275 = .ok (.aload_n 0, 1) := by decide +kernel
theorem dL_law_276 : decode cL_law 276 = .ok (.iload_n 3, 1) := by decide +kernel
theorem dL_law_277 : decode cL_law 277 = .ok (.iconst 1, 1) := by decide +kernel
theorem dL_law_278 : decode cL_law 278 = .ok (.iadd, 1) := by decide +kernel
theorem dL_law_279 : decode cL_law 279 = .ok (.iaload, 1) := by decide +kernel
theorem dL_law_280 : decode cL_law 280 = .ok (.aload_n 0, 1) := by decide +kernel
theorem dL_law_281 : decode cL_law 281 = .ok (.iload_n 3, 1) := by decide +kernel
theorem dL_law_282 : decode cL_law 282 = .ok (.iconst 2, 1) := by decide +kernel
theorem dL_law_283 : decode cL_law 283 = .ok (.iadd, 1) := by decide +kernel
theorem dL_law_284 : decode cL_law 284 = .ok (.iaload, 1) := by decide +kernel
theorem dL_law_285 : decode cL_law 285 = .ok (.ifCond .eq 7, 3) := by decide +kernel
theorem dL_law_288 : decode cL_law 288 = .ok (.iconst 1, 1) := by decide +kernel
theorem dL_law_289 : decode cL_law 289 = .ok (.goto 4, 3) := by decide +kernel
theorem dL_law_292 : decode cL_law 292 = .ok (.iconst 0, 1) := by decide +kernel
theorem dL_law_293 : decode cL_law 293 = .ok (.aload_n 0, 1) := by decide +kernel
theorem dL_law_294 : decode cL_law 294 = .ok (.iload_n 3, 1) := by decide +kernel
theorem dL_law_295 : decode cL_law 295 = .ok (.iconst 3, 1) := by decide +kernel
theorem dL_law_296 : decode cL_law 296 = .ok (.iadd, 1) := by decide +kernel
theorem dL_law_297 : decode cL_law 297 = .ok (.iaload, 1) := by decide +kernel
theorem dL_law_298 : decode cL_law 298 = .ok (.invokevirtual 32, 3) := by decide +kernel
theorem dL_law_301 : decode cL_law 301 = .ok (.aload_n 2, 1) := by decide +kernel
theorem dL_law_302 : decode cL_law 302 = .ok (.aload_n 0, 1) := by decide +kernel
theorem dL_law_303 : decode cL_law 303 = .ok (.iload_n 3, 1) := by decide +kernel
theorem dL_law_304 : decode cL_law 304 = .ok (.iconst 1, 1) := by decide +kernel
theorem dL_law_305 : decode cL_law 305 = .ok (.iadd, 1) := by decide +kernel
theorem dL_law_306 : decode cL_law 306 = .ok (.iaload, 1) := by decide +kernel
theorem dL_law_307 : decode cL_law 307 = .ok (.aload_n 0, 1) := by decide +kernel
theorem dL_law_308 : decode cL_law 308 = .ok (.iload_n 3, 1) := by decide +kernel
theorem dL_law_309 : decode cL_law 309 = .ok (.iconst 2, 1) := by decide +kernel
theorem dL_law_310 : decode cL_law 310 = .ok (.iadd, 1) := by decide +kernel
theorem dL_law_311 : decode cL_law 311 = .ok (.iaload, 1) := by decide +kernel
theorem dL_law_312 : decode cL_law 312 = .ok (.ifCond .eq 7, 3) := by decide +kernel
theorem dL_law_315 : decode cL_law 315 = .ok (.iconst 1, 1) := by decide +kernel
theorem dL_law_316 : decode cL_law 316 = .ok (.goto 4, 3) := by decide +kernel
theorem dL_law_319 : decode cL_law 319 = .ok (.iconst 0, 1) := by decide +kernel
theorem dL_law_320 : decode cL_law 320 = .ok (.aload_n 0, 1) := by decide +kernel
theorem dL_law_321 : decode cL_law 321 = .ok (.iload_n 3, 1) := by decide +kernel
theorem dL_law_322 : decode cL_law 322 = .ok (.iconst 3, 1) := by decide +kernel
theorem dL_law_323 : decode cL_law 323 = .ok (.iadd, 1) := by decide +kernel
theorem dL_law_324 : decode cL_law 324 = .ok (.iaload, 1) := by decide +kernel
theorem dL_law_325 : decode cL_law 325 = .ok (.invokevirtual 36, 3) := by decide +kernel
theorem dL_law_328 : decode cL_law 328 = .ok (.if_icmp .eq 528, 3) := by decide +kernel
theorem dL_law_331 : decode cL_law 331 = .ok (.iconst 0, 1) := by decide +kernel
theorem dL_law_332 : decode cL_law 332 = .ok (.ireturn, 1) := by decide +kernel
theorem dL_law_333 : decode cL_law 333 = .ok (.aload_n 1, 1) := by decide +kernel
theorem dL_law_334 : decode cL_law 334 = .ok (.aload_n 0, 1) := by decide +kernel
theorem dL_law_335 : decode cL_law 335 = .ok (.iload_n 3, 1) := by decide +kernel
theorem dL_law_336 : decode cL_law 336 = .ok (.iconst 1, 1) := by decide +kernel
theorem dL_law_337 : decode cL_law 337 = .ok (.iadd, 1) := by decide +kernel
theorem dL_law_338 : decode cL_law 338 = .ok (.iaload, 1) := by decide +kernel
theorem dL_law_339 : decode cL_law 339 = .ok (.invokevirtual 37, 3) := by decide +kernel
theorem dL_law_342 : decode cL_law 342 = .ok (.aload_n 2, 1) := by decide +kernel
theorem dL_law_343 : decode cL_law 343 = .ok (.aload_n 0, 1) := by decide +kernel
theorem dL_law_344 : decode cL_law 344 = .ok (.iload_n 3, 1) := by decide +kernel
theorem dL_law_345 : decode cL_law 345 = .ok (.iconst 1, 1) := by decide +kernel
theorem dL_law_346 : decode cL_law 346 = .ok (.iadd, 1) := by decide +kernel
theorem dL_law_347 : decode cL_law 347 = .ok (.iaload, 1) := by decide +kernel
theorem dL_law_348 : decode cL_law 348 = .ok (.invokevirtual 41, 3) := by decide +kernel
theorem dL_law_351 : decode cL_law 351 = .ok (.if_icmp .eq 505, 3) := by decide +kernel
theorem dL_law_354 : decode cL_law 354 = .ok (.iconst 0, 1) := by decide +kernel
theorem dL_law_355 : decode cL_law 355 = .ok (.ireturn, 1) := by decide +kernel
theorem dL_law_356 : decode cL_law 356 = .ok (.aload_n 1, 1) := by decide +kernel
theorem dL_law_357 : decode cL_law 357 = .ok (.aload_n 0, 1) := by decide +kernel
theorem dL_law_358 : decode cL_law 358 = .ok (.iload_n 3, 1) := by decide +kernel
theorem dL_law_359 : decode cL_law 359 = .ok (.iconst 1, 1) := by decide +kernel
theorem dL_law_360 : decode cL_law 360 = .ok (.iadd, 1) := by decide +kernel
theorem dL_law_361 : decode cL_law 361 = .ok (.iaload, 1) := by decide +kernel
theorem dL_law_362 : decode cL_law 362 = .ok (.aload_n 0, 1) := by decide +kernel
theorem dL_law_363 : decode cL_law 363 = .ok (.iload_n 3, 1) := by decide +kernel
theorem dL_law_364 : decode cL_law 364 = .ok (.iconst 2, 1) := by decide +kernel
theorem dL_law_365 : decode cL_law 365 = .ok (.iadd, 1) := by decide +kernel
theorem dL_law_366 : decode cL_law 366 = .ok (.iaload, 1) := by decide +kernel
theorem dL_law_367 : decode cL_law 367 = .ok (.invokevirtual 42, 3) := by decide +kernel
theorem dL_law_370 : decode cL_law 370 = .ok (.aload_n 2, 1) := by decide +kernel
theorem dL_law_371 : decode cL_law 371 = .ok (.aload_n 0, 1) := by decide +kernel
theorem dL_law_372 : decode cL_law 372 = .ok (.iload_n 3, 1) := by decide +kernel
theorem dL_law_373 : decode cL_law 373 = .ok (.iconst 1, 1) := by decide +kernel
theorem dL_law_374 : decode cL_law 374 = .ok (.iadd, 1) := by decide +kernel
theorem dL_law_375 : decode cL_law 375 = .ok (.iaload, 1) := by decide +kernel
theorem dL_law_376 : decode cL_law 376 = .ok (.aload_n 0, 1) := by decide +kernel
theorem dL_law_377 : decode cL_law 377 = .ok (.iload_n 3, 1) := by decide +kernel
theorem dL_law_378 : decode cL_law 378 = .ok (.iconst 2, 1) := by decide +kernel
theorem dL_law_379 : decode cL_law 379 = .ok (.iadd, 1) := by decide +kernel
theorem dL_law_380 : decode cL_law 380 = .ok (.iaload, 1) := by decide +kernel
theorem dL_law_381 : decode cL_law 381 = .ok (.invokevirtual 45, 3) := by decide +kernel
theorem dL_law_384 : decode cL_law 384 = .ok (.if_icmp .eq 472, 3) := by decide +kernel
theorem dL_law_387 : decode cL_law 387 = .ok (.iconst 0, 1) := by decide +kernel
theorem dL_law_388 : decode cL_law 388 = .ok (.ireturn, 1) := by decide +kernel
theorem dL_law_389 : decode cL_law 389 = .ok (.aload_n 1, 1) := by decide +kernel
theorem dL_law_390 : decode cL_law 390 = .ok (.aload_n 0, 1) := by decide +kernel
theorem dL_law_391 : decode cL_law 391 = .ok (.iload_n 3, 1) := by decide +kernel
theorem dL_law_392 : decode cL_law 392 = .ok (.iconst 1, 1) := by decide +kernel
theorem dL_law_393 : decode cL_law 393 = .ok (.iadd, 1) := by decide +kernel
theorem dL_law_394 : decode cL_law 394 = .ok (.iaload, 1) := by decide +kernel
theorem dL_law_395 : decode cL_law 395 = .ok (.aload_n 0, 1) := by decide +kernel
theorem dL_law_396 : decode cL_law 396 = .ok (.iload_n 3, 1) := by decide +kernel
theorem dL_law_397 : decode cL_law 397 = .ok (.iconst 2, 1) := by decide +kernel
theorem dL_law_398 : decode cL_law 398 = .ok (.iadd, 1) := by decide +kernel
theorem dL_law_399 : decode cL_law 399 = .ok (.iaload, 1) := by decide +kernel
theorem dL_law_400 : decode cL_law 400 = .ok (.invokevirtual 46, 3) := by decide +kernel
theorem dL_law_403 : decode cL_law 403 = .ok (.aload_n 2, 1) := by decide +kernel
theorem dL_law_404 : decode cL_law 404 = .ok (.aload_n 0, 1) := by decide +kernel
theorem dL_law_405 : decode cL_law 405 = .ok (.iload_n 3, 1) := by decide +kernel
theorem dL_law_406 : decode cL_law 406 = .ok (.iconst 1, 1) := by decide +kernel
theorem dL_law_407 : decode cL_law 407 = .ok (.iadd, 1) := by decide +kernel
theorem dL_law_408 : decode cL_law 408 = .ok (.iaload, 1) := by decide +kernel
theorem dL_law_409 : decode cL_law 409 = .ok (.aload_n 0, 1) := by decide +kernel
theorem dL_law_410 : decode cL_law 410 = .ok (.iload_n 3, 1) := by decide +kernel
theorem dL_law_411 : decode cL_law 411 = .ok (.iconst 2, 1) := by decide +kernel
theorem dL_law_412 : decode cL_law 412 = .ok (.iadd, 1) := by decide +kernel
theorem dL_law_413 : decode cL_law 413 = .ok (.iaload, 1) := by decide +kernel
theorem dL_law_414 : decode cL_law 414 = .ok (.invokevirtual 49, 3) := by decide +kernel
theorem dL_law_417 : decode cL_law 417 = .ok (.if_icmp .eq 439, 3) := by decide +kernel
theorem dL_law_420 : decode cL_law 420 = .ok (.iconst 0, 1) := by decide +kernel
theorem dL_law_421 : decode cL_law 421 = .ok (.ireturn, 1) := by decide +kernel
theorem dL_law_422 : decode cL_law 422 = .ok (.aload_n 1, 1) := by decide +kernel
theorem dL_law_423 : decode cL_law 423 = .ok (.aload_n 0, 1) := by decide +kernel
theorem dL_law_424 : decode cL_law 424 = .ok (.iload_n 3, 1) := by decide +kernel
theorem dL_law_425 : decode cL_law 425 = .ok (.iconst 1, 1) := by decide +kernel
theorem dL_law_426 : decode cL_law 426 = .ok (.iadd, 1) := by decide +kernel
theorem dL_law_427 : decode cL_law 427 = .ok (.iaload, 1) := by decide +kernel
theorem dL_law_428 : decode cL_law 428 = .ok (.invokevirtual 50, 3) := by decide +kernel
theorem dL_law_431 : decode cL_law 431 = .ok (.aload_n 2, 1) := by decide +kernel
theorem dL_law_432 : decode cL_law 432 = .ok (.aload_n 0, 1) := by decide +kernel
theorem dL_law_433 : decode cL_law 433 = .ok (.iload_n 3, 1) := by decide +kernel
theorem dL_law_434 : decode cL_law 434 = .ok (.iconst 1, 1) := by decide +kernel
theorem dL_law_435 : decode cL_law 435 = .ok (.iadd, 1) := by decide +kernel
theorem dL_law_436 : decode cL_law 436 = .ok (.iaload, 1) := by decide +kernel
theorem dL_law_437 : decode cL_law 437 = .ok (.invokevirtual 53, 3) := by decide +kernel
theorem dL_law_440 : decode cL_law 440 = .ok (.if_icmp .eq 416, 3) := by decide +kernel
theorem dL_law_443 : decode cL_law 443 = .ok (.iconst 0, 1) := by decide +kernel
theorem dL_law_444 : decode cL_law 444 = .ok (.ireturn, 1) := by decide +kernel
theorem dL_law_445 : decode cL_law 445 = .ok (.aload_n 1, 1) := by decide +kernel
theorem dL_law_446 : decode cL_law 446 = .ok (.aload_n 0, 1) := by decide +kernel
theorem dL_law_447 : decode cL_law 447 = .ok (.iload_n 3, 1) := by decide +kernel
theorem dL_law_448 : decode cL_law 448 = .ok (.iconst 1, 1) := by decide +kernel
theorem dL_law_449 : decode cL_law 449 = .ok (.iadd, 1) := by decide +kernel
theorem dL_law_450 : decode cL_law 450 = .ok (.iaload, 1) := by decide +kernel
theorem dL_law_451 : decode cL_law 451 = .ok (.invokevirtual 54, 3) := by decide +kernel
theorem dL_law_454 : decode cL_law 454 = .ok (.aload_n 2, 1) := by decide +kernel
theorem dL_law_455 : decode cL_law 455 = .ok (.aload_n 0, 1) := by decide +kernel
theorem dL_law_456 : decode cL_law 456 = .ok (.iload_n 3, 1) := by decide +kernel
theorem dL_law_457 : decode cL_law 457 = .ok (.iconst 1, 1) := by decide +kernel
theorem dL_law_458 : decode cL_law 458 = .ok (.iadd, 1) := by decide +kernel
theorem dL_law_459 : decode cL_law 459 = .ok (.iaload, 1) := by decide +kernel
theorem dL_law_460 : decode cL_law 460 = .ok (.invokevirtual 57, 3) := by decide +kernel
theorem dL_law_463 : decode cL_law 463 = .ok (.if_icmp .eq 393, 3) := by decide +kernel
theorem dL_law_466 : decode cL_law 466 = .ok (.iconst 0, 1) := by decide +kernel
theorem dL_law_467 : decode cL_law 467 = .ok (.ireturn, 1) := by decide +kernel
theorem dL_law_468 : decode cL_law 468 = .ok (.aload_n 1, 1) := by decide +kernel
theorem dL_law_469 : decode cL_law 469 = .ok (.aload_n 0, 1) := by decide +kernel
theorem dL_law_470 : decode cL_law 470 = .ok (.iload_n 3, 1) := by decide +kernel
theorem dL_law_471 : decode cL_law 471 = .ok (.iconst 1, 1) := by decide +kernel
theorem dL_law_472 : decode cL_law 472 = .ok (.iadd, 1) := by decide +kernel
theorem dL_law_473 : decode cL_law 473 = .ok (.iaload, 1) := by decide +kernel
theorem dL_law_474 : decode cL_law 474 = .ok (.invokevirtual 58, 3) := by decide +kernel
theorem dL_law_477 : decode cL_law 477 = .ok (.aload_n 2, 1) := by decide +kernel
theorem dL_law_478 : decode cL_law 478 = .ok (.aload_n 0, 1) := by decide +kernel
theorem dL_law_479 : decode cL_law 479 = .ok (.iload_n 3, 1) := by decide +kernel
theorem dL_law_480 : decode cL_law 480 = .ok (.iconst 1, 1) := by decide +kernel
theorem dL_law_481 : decode cL_law 481 = .ok (.iadd, 1) := by decide +kernel
theorem dL_law_482 : decode cL_law 482 = .ok (.iaload, 1) := by decide +kernel
theorem dL_law_483 : decode cL_law 483 = .ok (.invokevirtual 61, 3) := by decide +kernel
theorem dL_law_486 : decode cL_law 486 = .ok (.if_icmp .eq 370, 3) := by decide +kernel
theorem dL_law_489 : decode cL_law 489 = .ok (.iconst 0, 1) := by decide +kernel
theorem dL_law_490 : decode cL_law 490 = .ok (.ireturn, 1) := by decide +kernel
theorem dL_law_491 : decode cL_law 491 = .ok (.aload_n 1, 1) := by decide +kernel
theorem dL_law_492 : decode cL_law 492 = .ok (.aload_n 0, 1) := by decide +kernel
theorem dL_law_493 : decode cL_law 493 = .ok (.iload_n 3, 1) := by decide +kernel
theorem dL_law_494 : decode cL_law 494 = .ok (.iconst 1, 1) := by decide +kernel
theorem dL_law_495 : decode cL_law 495 = .ok (.iadd, 1) := by decide +kernel
theorem dL_law_496 : decode cL_law 496 = .ok (.iaload, 1) := by decide +kernel
theorem dL_law_497 : decode cL_law 497 = .ok (.invokevirtual 62, 3) := by decide +kernel
theorem dL_law_500 : decode cL_law 500 = .ok (.aload_n 2, 1) := by decide +kernel
theorem dL_law_501 : decode cL_law 501 = .ok (.aload_n 0, 1) := by decide +kernel
theorem dL_law_502 : decode cL_law 502 = .ok (.iload_n 3, 1) := by decide +kernel
theorem dL_law_503 : decode cL_law 503 = .ok (.iconst 1, 1) := by decide +kernel
theorem dL_law_504 : decode cL_law 504 = .ok (.iadd, 1) := by decide +kernel
theorem dL_law_505 : decode cL_law 505 = .ok (.iaload, 1) := by decide +kernel
theorem dL_law_506 : decode cL_law 506 = .ok (.invokevirtual 65, 3) := by decide +kernel
theorem dL_law_509 : decode cL_law 509 = .ok (.if_icmp .eq 347, 3) := by decide +kernel
theorem dL_law_512 : decode cL_law 512 = .ok (.iconst 0, 1) := by decide +kernel
theorem dL_law_513 : decode cL_law 513 = .ok (.ireturn, 1) := by decide +kernel
theorem dL_law_514 : decode cL_law 514 = .ok (.aload_n 1, 1) := by decide +kernel
theorem dL_law_515 : decode cL_law 515 = .ok (.invokevirtual 66, 3) := by decide +kernel
theorem dL_law_518 : decode cL_law 518 = .ok (.aload_n 2, 1) := by decide +kernel
theorem dL_law_519 : decode cL_law 519 = .ok (.invokevirtual 69, 3) := by decide +kernel
theorem dL_law_522 : decode cL_law 522 = .ok (.if_icmp .eq 334, 3) := by decide +kernel
theorem dL_law_525 : decode cL_law 525 = .ok (.iconst 0, 1) := by decide +kernel
theorem dL_law_526 : decode cL_law 526 = .ok (.ireturn, 1) := by decide +kernel
theorem dL_law_527 : decode cL_law 527 = .ok (.aload_n 1, 1) := by decide +kernel
theorem dL_law_528 : decode cL_law 528 = .ok (.aload_n 0, 1) := by decide +kernel
theorem dL_law_529 : decode cL_law 529 = .ok (.iload_n 3, 1) := by decide +kernel
theorem dL_law_530 : decode cL_law 530 = .ok (.iconst 1, 1) := by decide +kernel
theorem dL_law_531 : decode cL_law 531 = .ok (.iadd, 1) := by decide +kernel
theorem dL_law_532 : decode cL_law 532 = .ok (.iaload, 1) := by decide +kernel
theorem dL_law_533 : decode cL_law 533 = .ok (.invokevirtual 70, 3) := by decide +kernel
theorem dL_law_536 : decode cL_law 536 = .ok (.aload_n 2, 1) := by decide +kernel
theorem dL_law_537 : decode cL_law 537 = .ok (.aload_n 0, 1) := by decide +kernel
theorem dL_law_538 : decode cL_law 538 = .ok (.iload_n 3, 1) := by decide +kernel
theorem dL_law_539 : decode cL_law 539 = .ok (.iconst 1, 1) := by decide +kernel
theorem dL_law_540 : decode cL_law 540 = .ok (.iadd, 1) := by decide +kernel
theorem dL_law_541 : decode cL_law 541 = .ok (.iaload, 1) := by decide +kernel
theorem dL_law_542 : decode cL_law 542 = .ok (.invokevirtual 73, 3) := by decide +kernel
theorem dL_law_545 : decode cL_law 545 = .ok (.if_icmp .eq 311, 3) := by decide +kernel
theorem dL_law_548 : decode cL_law 548 = .ok (.iconst 0, 1) := by decide +kernel
theorem dL_law_549 : decode cL_law 549 = .ok (.ireturn, 1) := by decide +kernel
theorem dL_law_550 : decode cL_law 550 = .ok (.aload_n 1, 1) := by decide +kernel
theorem dL_law_551 : decode cL_law 551 = .ok (.aload_n 0, 1) := by decide +kernel
theorem dL_law_552 : decode cL_law 552 = .ok (.iload_n 3, 1) := by decide +kernel
theorem dL_law_553 : decode cL_law 553 = .ok (.iconst 1, 1) := by decide +kernel
theorem dL_law_554 : decode cL_law 554 = .ok (.iadd, 1) := by decide +kernel
theorem dL_law_555 : decode cL_law 555 = .ok (.iaload, 1) := by decide +kernel
theorem dL_law_556 : decode cL_law 556 = .ok (.invokevirtual 74, 3) := by decide +kernel
theorem dL_law_559 : decode cL_law 559 = .ok (.aload_n 2, 1) := by decide +kernel
theorem dL_law_560 : decode cL_law 560 = .ok (.aload_n 0, 1) := by decide +kernel
theorem dL_law_561 : decode cL_law 561 = .ok (.iload_n 3, 1) := by decide +kernel
theorem dL_law_562 : decode cL_law 562 = .ok (.iconst 1, 1) := by decide +kernel
theorem dL_law_563 : decode cL_law 563 = .ok (.iadd, 1) := by decide +kernel
theorem dL_law_564 : decode cL_law 564 = .ok (.iaload, 1) := by decide +kernel
theorem dL_law_565 : decode cL_law 565 = .ok (.invokevirtual 77, 3) := by decide +kernel
theorem dL_law_568 : decode cL_law 568 = .ok (.if_icmp .eq 288, 3) := by decide +kernel
theorem dL_law_571 : decode cL_law 571 = .ok (.iconst 0, 1) := by decide +kernel
theorem dL_law_572 : decode cL_law 572 = .ok (.ireturn, 1) := by decide +kernel
theorem dL_law_573 : decode cL_law 573 = .ok (.aload_n 1, 1) := by decide +kernel
theorem dL_law_574 : decode cL_law 574 = .ok (.invokevirtual 78, 3) := by decide +kernel
theorem dL_law_577 : decode cL_law 577 = .ok (.aload_n 2, 1) := by decide +kernel
theorem dL_law_578 : decode cL_law 578 = .ok (.invokevirtual 81, 3) := by decide +kernel
theorem dL_law_581 : decode cL_law 581 = .ok (.if_icmp .eq 275, 3) := by decide +kernel
theorem dL_law_584 : decode cL_law 584 = .ok (.iconst 0, 1) := by decide +kernel
theorem dL_law_585 : decode cL_law 585 = .ok (.ireturn, 1) := by decide +kernel
theorem dL_law_586 : decode cL_law 586 = .ok (.aload_n 1, 1) := by decide +kernel
theorem dL_law_587 : decode cL_law 587 = .ok (.aload_n 0, 1) := by decide +kernel
theorem dL_law_588 : decode cL_law 588 = .ok (.iload_n 3, 1) := by decide +kernel
theorem dL_law_589 : decode cL_law 589 = .ok (.iconst 1, 1) := by decide +kernel
theorem dL_law_590 : decode cL_law 590 = .ok (.iadd, 1) := by decide +kernel
theorem dL_law_591 : decode cL_law 591 = .ok (.iaload, 1) := by decide +kernel
theorem dL_law_592 : decode cL_law 592 = .ok (.aload_n 0, 1) := by decide +kernel
theorem dL_law_593 : decode cL_law 593 = .ok (.iload_n 3, 1) := by decide +kernel
theorem dL_law_594 : decode cL_law 594 = .ok (.iconst 2, 1) := by decide +kernel
theorem dL_law_595 : decode cL_law 595 = .ok (.iadd, 1) := by decide +kernel
theorem dL_law_596 : decode cL_law 596 = .ok (.iaload, 1) := by decide +kernel
theorem dL_law_597 : decode cL_law 597 = .ok (.aload_n 0, 1) := by decide +kernel
theorem dL_law_598 : decode cL_law 598 = .ok (.iload_n 3, 1) := by decide +kernel
theorem dL_law_599 : decode cL_law 599 = .ok (.iconst 3, 1) := by decide +kernel
theorem dL_law_600 : decode cL_law 600 = .ok (.iadd, 1) := by decide +kernel
theorem dL_law_601 : decode cL_law 601 = .ok (.iaload, 1) := by decide +kernel
theorem dL_law_602 : decode cL_law 602 = .ok (.invokevirtual 82, 3) := by decide +kernel
theorem dL_law_605 : decode cL_law 605 = .ok (.aload_n 2, 1) := by decide +kernel
theorem dL_law_606 : decode cL_law 606 = .ok (.aload_n 0, 1) := by decide +kernel
theorem dL_law_607 : decode cL_law 607 = .ok (.iload_n 3, 1) := by decide +kernel
theorem dL_law_608 : decode cL_law 608 = .ok (.iconst 1, 1) := by decide +kernel
theorem dL_law_609 : decode cL_law 609 = .ok (.iadd, 1) := by decide +kernel
theorem dL_law_610 : decode cL_law 610 = .ok (.iaload, 1) := by decide +kernel
theorem dL_law_611 : decode cL_law 611 = .ok (.aload_n 0, 1) := by decide +kernel
theorem dL_law_612 : decode cL_law 612 = .ok (.iload_n 3, 1) := by decide +kernel
theorem dL_law_613 : decode cL_law 613 = .ok (.iconst 2, 1) := by decide +kernel
theorem dL_law_614 : decode cL_law 614 = .ok (.iadd, 1) := by decide +kernel
theorem dL_law_615 : decode cL_law 615 = .ok (.iaload, 1) := by decide +kernel
theorem dL_law_616 : decode cL_law 616 = .ok (.aload_n 0, 1) := by decide +kernel
theorem dL_law_617 : decode cL_law 617 = .ok (.iload_n 3, 1) := by decide +kernel
theorem dL_law_618 : decode cL_law 618 = .ok (.iconst 3, 1) := by decide +kernel
theorem dL_law_619 : decode cL_law 619 = .ok (.iadd, 1) := by decide +kernel
theorem dL_law_620 : decode cL_law 620 = .ok (.iaload, 1) := by decide +kernel
theorem dL_law_621 : decode cL_law 621 = .ok (.invokevirtual 85, 3) := by decide +kernel
theorem dL_law_624 : decode cL_law 624 = .ok (.if_icmp .eq 232, 3) := by decide +kernel
theorem dL_law_627 : decode cL_law 627 = .ok (.iconst 0, 1) := by decide +kernel
theorem dL_law_628 : decode cL_law 628 = .ok (.ireturn, 1) := by decide +kernel
theorem dL_law_629 : decode cL_law 629 = .ok (.aload_n 1, 1) := by decide +kernel
theorem dL_law_630 : decode cL_law 630 = .ok (.aload_n 0, 1) := by decide +kernel
theorem dL_law_631 : decode cL_law 631 = .ok (.iload_n 3, 1) := by decide +kernel
theorem dL_law_632 : decode cL_law 632 = .ok (.iconst 1, 1) := by decide +kernel
theorem dL_law_633 : decode cL_law 633 = .ok (.iadd, 1) := by decide +kernel
theorem dL_law_634 : decode cL_law 634 = .ok (.iaload, 1) := by decide +kernel
theorem dL_law_635 : decode cL_law 635 = .ok (.aload_n 0, 1) := by decide +kernel
theorem dL_law_636 : decode cL_law 636 = .ok (.iload_n 3, 1) := by decide +kernel
theorem dL_law_637 : decode cL_law 637 = .ok (.iconst 2, 1) := by decide +kernel
theorem dL_law_638 : decode cL_law 638 = .ok (.iadd, 1) := by decide +kernel
theorem dL_law_639 : decode cL_law 639 = .ok (.iaload, 1) := by decide +kernel
theorem dL_law_640 : decode cL_law 640 = .ok (.invokevirtual 86, 3) := by decide +kernel
theorem dL_law_643 : decode cL_law 643 = .ok (.aload_n 2, 1) := by decide +kernel
theorem dL_law_644 : decode cL_law 644 = .ok (.aload_n 0, 1) := by decide +kernel
theorem dL_law_645 : decode cL_law 645 = .ok (.iload_n 3, 1) := by decide +kernel
theorem dL_law_646 : decode cL_law 646 = .ok (.iconst 1, 1) := by decide +kernel
theorem dL_law_647 : decode cL_law 647 = .ok (.iadd, 1) := by decide +kernel
theorem dL_law_648 : decode cL_law 648 = .ok (.iaload, 1) := by decide +kernel
theorem dL_law_649 : decode cL_law 649 = .ok (.aload_n 0, 1) := by decide +kernel
theorem dL_law_650 : decode cL_law 650 = .ok (.iload_n 3, 1) := by decide +kernel
theorem dL_law_651 : decode cL_law 651 = .ok (.iconst 2, 1) := by decide +kernel
theorem dL_law_652 : decode cL_law 652 = .ok (.iadd, 1) := by decide +kernel
theorem dL_law_653 : decode cL_law 653 = .ok (.iaload, 1) := by decide +kernel
theorem dL_law_654 : decode cL_law 654 = .ok (.invokevirtual 89, 3) := by decide +kernel
theorem dL_law_657 : decode cL_law 657 = .ok (.if_icmp .eq 199, 3) := by decide +kernel
theorem dL_law_660 : decode cL_law 660 = .ok (.iconst 0, 1) := by decide +kernel
theorem dL_law_661 : decode cL_law 661 = .ok (.ireturn, 1) := by decide +kernel
theorem dL_law_662 : decode cL_law 662 = .ok (.aload_n 1, 1) := by decide +kernel
theorem dL_law_663 : decode cL_law 663 = .ok (.aload_n 0, 1) := by decide +kernel
theorem dL_law_664 : decode cL_law 664 = .ok (.iload_n 3, 1) := by decide +kernel
theorem dL_law_665 : decode cL_law 665 = .ok (.iconst 1, 1) := by decide +kernel
theorem dL_law_666 : decode cL_law 666 = .ok (.iadd, 1) := by decide +kernel
theorem dL_law_667 : decode cL_law 667 = .ok (.iaload, 1) := by decide +kernel
theorem dL_law_668 : decode cL_law 668 = .ok (.invokevirtual 90, 3) := by decide +kernel
theorem dL_law_671 : decode cL_law 671 = .ok (.aload_n 2, 1) := by decide +kernel
theorem dL_law_672 : decode cL_law 672 = .ok (.aload_n 0, 1) := by decide +kernel
theorem dL_law_673 : decode cL_law 673 = .ok (.iload_n 3, 1) := by decide +kernel
theorem dL_law_674 : decode cL_law 674 = .ok (.iconst 1, 1) := by decide +kernel
theorem dL_law_675 : decode cL_law 675 = .ok (.iadd, 1) := by decide +kernel
theorem dL_law_676 : decode cL_law 676 = .ok (.iaload, 1) := by decide +kernel
theorem dL_law_677 : decode cL_law 677 = .ok (.invokevirtual 93, 3) := by decide +kernel
theorem dL_law_680 : decode cL_law 680 = .ok (.if_icmp .eq 176, 3) := by decide +kernel
theorem dL_law_683 : decode cL_law 683 = .ok (.iconst 0, 1) := by decide +kernel
theorem dL_law_684 : decode cL_law 684 = .ok (.ireturn, 1) := by decide +kernel
theorem dL_law_685 : decode cL_law 685 = .ok (.aload_n 1, 1) := by decide +kernel
theorem dL_law_686 : decode cL_law 686 = .ok (.aload_n 0, 1) := by decide +kernel
theorem dL_law_687 : decode cL_law 687 = .ok (.iload_n 3, 1) := by decide +kernel
theorem dL_law_688 : decode cL_law 688 = .ok (.iconst 1, 1) := by decide +kernel
theorem dL_law_689 : decode cL_law 689 = .ok (.iadd, 1) := by decide +kernel
theorem dL_law_690 : decode cL_law 690 = .ok (.iaload, 1) := by decide +kernel
theorem dL_law_691 : decode cL_law 691 = .ok (.invokevirtual 94, 3) := by decide +kernel
theorem dL_law_694 : decode cL_law 694 = .ok (.aload_n 2, 1) := by decide +kernel
theorem dL_law_695 : decode cL_law 695 = .ok (.aload_n 0, 1) := by decide +kernel
theorem dL_law_696 : decode cL_law 696 = .ok (.iload_n 3, 1) := by decide +kernel
theorem dL_law_697 : decode cL_law 697 = .ok (.iconst 1, 1) := by decide +kernel
theorem dL_law_698 : decode cL_law 698 = .ok (.iadd, 1) := by decide +kernel
theorem dL_law_699 : decode cL_law 699 = .ok (.iaload, 1) := by decide +kernel
theorem dL_law_700 : decode cL_law 700 = .ok (.invokevirtual 97, 3) := by decide +kernel
theorem dL_law_703 : decode cL_law 703 = .ok (.if_icmp .eq 153, 3) := by decide +kernel
theorem dL_law_706 : decode cL_law 706 = .ok (.iconst 0, 1) := by decide +kernel
theorem dL_law_707 : decode cL_law 707 = .ok (.ireturn, 1) := by decide +kernel
theorem dL_law_708 : decode cL_law 708 = .ok (.aload_n 1, 1) := by decide +kernel
theorem dL_law_709 : decode cL_law 709 = .ok (.invokevirtual 98, 3) := by decide +kernel
theorem dL_law_712 : decode cL_law 712 = .ok (.aload_n 2, 1) := by decide +kernel
theorem dL_law_713 : decode cL_law 713 = .ok (.invokevirtual 101, 3) := by decide +kernel
theorem dL_law_716 : decode cL_law 716 = .ok (.if_icmp .eq 140, 3) := by decide +kernel
theorem dL_law_719 : decode cL_law 719 = .ok (.iconst 0, 1) := by decide +kernel
theorem dL_law_720 : decode cL_law 720 = .ok (.ireturn, 1) := by decide +kernel
theorem dL_law_721 : decode cL_law 721 = .ok (.aload_n 1, 1) := by decide +kernel
theorem dL_law_722 : decode cL_law 722 = .ok (.aload_n 0, 1) := by decide +kernel
theorem dL_law_723 : decode cL_law 723 = .ok (.iload_n 3, 1) := by decide +kernel
theorem dL_law_724 : decode cL_law 724 = .ok (.iconst 1, 1) := by decide +kernel
theorem dL_law_725 : decode cL_law 725 = .ok (.iadd, 1) := by decide +kernel
theorem dL_law_726 : decode cL_law 726 = .ok (.iaload, 1) := by decide +kernel
theorem dL_law_727 : decode cL_law 727 = .ok (.aload_n 0, 1) := by decide +kernel
theorem dL_law_728 : decode cL_law 728 = .ok (.iload_n 3, 1) := by decide +kernel
theorem dL_law_729 : decode cL_law 729 = .ok (.iconst 2, 1) := by decide +kernel
theorem dL_law_730 : decode cL_law 730 = .ok (.iadd, 1) := by decide +kernel
theorem dL_law_731 : decode cL_law 731 = .ok (.iaload, 1) := by decide +kernel
theorem dL_law_732 : decode cL_law 732 = .ok (.invokevirtual 102, 3) := by decide +kernel
theorem dL_law_735 : decode cL_law 735 = .ok (.aload_n 2, 1) := by decide +kernel
theorem dL_law_736 : decode cL_law 736 = .ok (.aload_n 0, 1) := by decide +kernel
theorem dL_law_737 : decode cL_law 737 = .ok (.iload_n 3, 1) := by decide +kernel
theorem dL_law_738 : decode cL_law 738 = .ok (.iconst 1, 1) := by decide +kernel
theorem dL_law_739 : decode cL_law 739 = .ok (.iadd, 1) := by decide +kernel
theorem dL_law_740 : decode cL_law 740 = .ok (.iaload, 1) := by decide +kernel
theorem dL_law_741 : decode cL_law 741 = .ok (.aload_n 0, 1) := by decide +kernel
theorem dL_law_742 : decode cL_law 742 = .ok (.iload_n 3, 1) := by decide +kernel
theorem dL_law_743 : decode cL_law 743 = .ok (.iconst 2, 1) := by decide +kernel
theorem dL_law_744 : decode cL_law 744 = .ok (.iadd, 1) := by decide +kernel
theorem dL_law_745 : decode cL_law 745 = .ok (.iaload, 1) := by decide +kernel
theorem dL_law_746 : decode cL_law 746 = .ok (.invokevirtual 105, 3) := by decide +kernel
theorem dL_law_749 : decode cL_law 749 = .ok (.if_icmp .eq 107, 3) := by decide +kernel
theorem dL_law_752 : decode cL_law 752 = .ok (.iconst 0, 1) := by decide +kernel
theorem dL_law_753 : decode cL_law 753 = .ok (.ireturn, 1) := by decide +kernel
theorem dL_law_754 : decode cL_law 754 = .ok (.aload_n 1, 1) := by decide +kernel
theorem dL_law_755 : decode cL_law 755 = .ok (.aload_n 0, 1) := by decide +kernel
theorem dL_law_756 : decode cL_law 756 = .ok (.iload_n 3, 1) := by decide +kernel
theorem dL_law_757 : decode cL_law 757 = .ok (.iconst 1, 1) := by decide +kernel
theorem dL_law_758 : decode cL_law 758 = .ok (.iadd, 1) := by decide +kernel
theorem dL_law_759 : decode cL_law 759 = .ok (.iaload, 1) := by decide +kernel
theorem dL_law_760 : decode cL_law 760 = .ok (.aload_n 0, 1) := by decide +kernel
theorem dL_law_761 : decode cL_law 761 = .ok (.iload_n 3, 1) := by decide +kernel
theorem dL_law_762 : decode cL_law 762 = .ok (.iconst 2, 1) := by decide +kernel
theorem dL_law_763 : decode cL_law 763 = .ok (.iadd, 1) := by decide +kernel
theorem dL_law_764 : decode cL_law 764 = .ok (.iaload, 1) := by decide +kernel
theorem dL_law_765 : decode cL_law 765 = .ok (.invokevirtual 106, 3) := by decide +kernel
theorem dL_law_768 : decode cL_law 768 = .ok (.aload_n 2, 1) := by decide +kernel
theorem dL_law_769 : decode cL_law 769 = .ok (.aload_n 0, 1) := by decide +kernel
theorem dL_law_770 : decode cL_law 770 = .ok (.iload_n 3, 1) := by decide +kernel
theorem dL_law_771 : decode cL_law 771 = .ok (.iconst 1, 1) := by decide +kernel
theorem dL_law_772 : decode cL_law 772 = .ok (.iadd, 1) := by decide +kernel
theorem dL_law_773 : decode cL_law 773 = .ok (.iaload, 1) := by decide +kernel
theorem dL_law_774 : decode cL_law 774 = .ok (.aload_n 0, 1) := by decide +kernel
theorem dL_law_775 : decode cL_law 775 = .ok (.iload_n 3, 1) := by decide +kernel
theorem dL_law_776 : decode cL_law 776 = .ok (.iconst 2, 1) := by decide +kernel
theorem dL_law_777 : decode cL_law 777 = .ok (.iadd, 1) := by decide +kernel
theorem dL_law_778 : decode cL_law 778 = .ok (.iaload, 1) := by decide +kernel
theorem dL_law_779 : decode cL_law 779 = .ok (.invokevirtual 109, 3) := by decide +kernel
theorem dL_law_782 : decode cL_law 782 = .ok (.if_icmp .eq 74, 3) := by decide +kernel
theorem dL_law_785 : decode cL_law 785 = .ok (.iconst 0, 1) := by decide +kernel
theorem dL_law_786 : decode cL_law 786 = .ok (.ireturn, 1) := by decide +kernel
theorem dL_law_787 : decode cL_law 787 = .ok (.aload_n 1, 1) := by decide +kernel
theorem dL_law_788 : decode cL_law 788 = .ok (.aload_n 0, 1) := by decide +kernel
theorem dL_law_789 : decode cL_law 789 = .ok (.iload_n 3, 1) := by decide +kernel
theorem dL_law_790 : decode cL_law 790 = .ok (.iconst 1, 1) := by decide +kernel
theorem dL_law_791 : decode cL_law 791 = .ok (.iadd, 1) := by decide +kernel
theorem dL_law_792 : decode cL_law 792 = .ok (.iaload, 1) := by decide +kernel
theorem dL_law_793 : decode cL_law 793 = .ok (.invokevirtual 110, 3) := by decide +kernel
theorem dL_law_796 : decode cL_law 796 = .ok (.aload_n 2, 1) := by decide +kernel
theorem dL_law_797 : decode cL_law 797 = .ok (.aload_n 0, 1) := by decide +kernel
theorem dL_law_798 : decode cL_law 798 = .ok (.iload_n 3, 1) := by decide +kernel
theorem dL_law_799 : decode cL_law 799 = .ok (.iconst 1, 1) := by decide +kernel
theorem dL_law_800 : decode cL_law 800 = .ok (.iadd, 1) := by decide +kernel
theorem dL_law_801 : decode cL_law 801 = .ok (.iaload, 1) := by decide +kernel
theorem dL_law_802 : decode cL_law 802 = .ok (.invokevirtual 113, 3) := by decide +kernel
theorem dL_law_805 : decode cL_law 805 = .ok (.if_icmp .eq 51, 3) := by decide +kernel
theorem dL_law_808 : decode cL_law 808 = .ok (.iconst 0, 1) := by decide +kernel
theorem dL_law_809 : decode cL_law 809 = .ok (.ireturn, 1) := by decide +kernel
theorem dL_law_810 : decode cL_law 810 = .ok (.aload_n 1, 1) := by decide +kernel
theorem dL_law_811 : decode cL_law 811 = .ok (.aload_n 0, 1) := by decide +kernel
theorem dL_law_812 : decode cL_law 812 = .ok (.iload_n 3, 1) := by decide +kernel
theorem dL_law_813 : decode cL_law 813 = .ok (.iconst 1, 1) := by decide +kernel
theorem dL_law_814 : decode cL_law 814 = .ok (.iadd, 1) := by decide +kernel
theorem dL_law_815 : decode cL_law 815 = .ok (.iaload, 1) := by decide +kernel
theorem dL_law_816 : decode cL_law 816 = .ok (.invokevirtual 114, 3) := by decide +kernel
theorem dL_law_819 : decode cL_law 819 = .ok (.aload_n 2, 1) := by decide +kernel
theorem dL_law_820 : decode cL_law 820 = .ok (.aload_n 0, 1) := by decide +kernel
theorem dL_law_821 : decode cL_law 821 = .ok (.iload_n 3, 1) := by decide +kernel
theorem dL_law_822 : decode cL_law 822 = .ok (.iconst 1, 1) := by decide +kernel
theorem dL_law_823 : decode cL_law 823 = .ok (.iadd, 1) := by decide +kernel
theorem dL_law_824 : decode cL_law 824 = .ok (.iaload, 1) := by decide +kernel
theorem dL_law_825 : decode cL_law 825 = .ok (.invokevirtual 117, 3) := by decide +kernel
theorem dL_law_828 : decode cL_law 828 = .ok (.if_icmp .eq 28, 3) := by decide +kernel
theorem dL_law_831 : decode cL_law 831 = .ok (.iconst 0, 1) := by decide +kernel
theorem dL_law_832 : decode cL_law 832 = .ok (.ireturn, 1) := by decide +kernel
theorem dL_law_833 : decode cL_law 833 = .ok (.aload_n 1, 1) := by decide +kernel
theorem dL_law_834 : decode cL_law 834 = .ok (.aload_n 0, 1) := by decide +kernel
theorem dL_law_835 : decode cL_law 835 = .ok (.iload_n 3, 1) := by decide +kernel
theorem dL_law_836 : decode cL_law 836 = .ok (.iconst 1, 1) := by decide +kernel
theorem dL_law_837 : decode cL_law 837 = .ok (.iadd, 1) := by decide +kernel
theorem dL_law_838 : decode cL_law 838 = .ok (.iaload, 1) := by decide +kernel
theorem dL_law_839 : decode cL_law 839 = .ok (.invokevirtual 118, 3) := by decide +kernel
theorem dL_law_842 : decode cL_law 842 = .ok (.aload_n 2, 1) := by decide +kernel
theorem dL_law_843 : decode cL_law 843 = .ok (.aload_n 0, 1) := by decide +kernel
theorem dL_law_844 : decode cL_law 844 = .ok (.iload_n 3, 1) := by decide +kernel
theorem dL_law_845 : decode cL_law 845 = .ok (.iconst 1, 1) := by decide +kernel
theorem dL_law_846 : decode cL_law 846 = .ok (.iadd, 1) := by decide +kernel
theorem dL_law_847 : decode cL_law 847 = .ok (.iaload, 1) := by decide +kernel
theorem dL_law_848 : decode cL_law 848 = .ok (.invokevirtual 121, 3) := by decide +kernel
theorem dL_law_851 : decode cL_law 851 = .ok (.if_icmp .eq 5, 3) := by decide +kernel
theorem dL_law_854 : decode cL_law 854 = .ok (.iconst 0, 1) := by decide +kernel
theorem dL_law_855 : decode cL_law 855 = .ok (.ireturn, 1) := by decide +kernel
theorem dL_law_856 : decode cL_law 856 = .ok (.iinc 3 4, 3) := by decide +kernel
theorem dL_law_859 : decode cL_law 859 = .ok (.goto (-841), 3) := by decide +kernel
theorem dL_law_862 : decode cL_law 862 = .ok (.iconst 1, 1) := by decide +kernel
theorem dL_law_863 : decode cL_law 863 = .ok (.ireturn, 1) := by decide +kernel
end
section
/-! THE V LAYER: the machine at a pc, with the locals, the stack and the world as lists. Every row turns V at an instruction into V at the next. -/
abbrev clX : List vw_C := [(RX0, TX0, 2), (RX1, TX1, 6), (RX2, TX2, 4), (RX3, TX3, 4), (RX4, TX4, 3), (RX5, TX5, 5), (RX6, TX6, 2), (RX7, TX7, 10)]
abbrev tyD (D : va_G) : List (ClassId × FieldType) := [(D.1 8, .int), (D.1 9, .boolean), (D.1 10, .long), (D.1 11, .array .int), (D.1 12, .object "ChangeImpact$State")]
abbrev aI (D : va_G) (n : Nat) (f : Nat → Int32) : va_E := .inl (D.1 8, n, .inl f)
abbrev aZ (D : va_G) (n : Nat) (f : Nat → Int32) : va_E := .inl (D.1 9, n, .inl f)
abbrev aJ (D : va_G) (n : Nat) (f : Nat → Int64) : va_E := .inl (D.1 10, n, .inr (.inl f))
abbrev aG (D : va_G) (n : Nat) (g : Nat → Option Nat) : va_E := .inl (D.1 11, n, .inr (.inr (.inr (.inr g))))
abbrev aS (D : va_G) (n : Nat) (g : Nat → Option Nat) : va_E := .inl (D.1 12, n, .inr (.inr (.inr (.inr g))))
def lwg : List Cond := lw_tbl.filter goodWord
theorem lwg_of {w : Cond} (h : w ∈ lw_tbl) (g : goodWord w = true) : w ∈ lwg := List.mem_filter.mpr ⟨h, g⟩
theorem lwg_at {w : Cond} (i : Nat) (h : tables_1[i]? = some w) (g : goodWord w = true) : w ∈ lwg := lwg_of (List.mem_append_right _ (List.mem_of_getElem? h)) g
theorem lwg_sel {w : Cond} (i : Nat) (h : (k2_sels lw_privs)[i]? = some w) (g : goodWord w = true) : w ∈ lwg := lwg_of (List.mem_append_left _ (List.mem_of_getElem? h)) g
theorem lwg_good {w : Cond} (h : w ∈ lwg) : (w.onTables && w.keeps) = true ∨ ∃ ty, w = .arrayClass ty := good_of_word (List.mem_filter.mp h).2
theorem lwg_in {c d : Cond} (hc : c ∈ lwg) : GoodIn (d :: lwg) (c :: lwg) := fun w hw => (List.mem_cons.mp hw).elim (fun e => by subst e; exact ⟨List.mem_cons_of_mem _ hc, lwg_good hc⟩) (fun h => ⟨List.mem_cons_of_mem _ h, lwg_good h⟩)
theorem lwg_inT {c : Cond} (hc : c ∈ lwg) : GoodIn lwg (c :: lwg) := fun w hw => (List.mem_cons.mp hw).elim (fun e => by subst e; exact ⟨hc, lwg_good hc⟩) (fun h => ⟨h, lwg_good h⟩)
abbrev wU (y : MethodName) (b : ByteArray) (n : Nat) (r : Option FieldType) : List Cond := Cond.code y b n r :: lwg
def vq_AOA (t : FieldType) (U : State) : Prop := (Cond.arrayOver (.array t)).before #[] U = true
theorem vq_spec {t : FieldType} {U : State} (h : vq_AOA t U) : ∃ (comp c : ClassId) (k : Class), U.vm.findClass (FieldType.array t).toString = some comp ∧ (U.vm.classes.findIdx? fun (x : Class) => match x.kind with | .array component _ => component == comp | _ => false) = some c ∧ U.vm.classes[c]? = some k ∧ k.kind = .array comp (.array t) ∧ U.vm.findClass ("[" ++ (FieldType.array t).toString) = some c := by
  unfold vq_AOA Cond.before at h
  simp only [Cond.holds, Cond.value, beq_iff_eq] at h
  cases hc : U.vm.findClass (FieldType.array t).toString with
  | none => simp [hc] at h
  | some comp =>
    simp only [hc, Option.bind_some, Option.bind_eq_some_iff, Option.map_eq_some_iff] at h
    obtain ⟨c, hi, k, hk, hb⟩ := h
    obtain ⟨hlt, hp, -⟩ := Array.findIdx?_eq_some_iff_getElem.mp hi
    have hkk : U.vm.classes[c] = k := (Array.getElem?_eq_some_iff.mp hk).2
    rw [hkk] at hp
    cases hkind : k.kind with
    | array component ty =>
      rw [hkind] at hb hp
      simp at hb hp
      exact ⟨comp, c, k, rfl, hi, hk, by rw [hkind, hp, hb.1], hb.2⟩
    | _ => rw [hkind] at hb; simp at hb
def vq_is (comp : ClassId) (x : Class) : Bool := match x.kind with | .array component _ => component == comp | _ => false
theorem vq_bare (vm : Vm) (comp : ClassId) : vm.bare.classes.findIdx? (vq_is comp) = vm.classes.findIdx? (vq_is comp) := by
  simp only [Vm.bare, Array.findIdx?_map]
  rfl
theorem vq_AOA.moved {t : FieldType} {u U : State} (hvm : u.vm.Alike U.vm) (h : vq_AOA t u) : vq_AOA t U := by
  obtain ⟨comp, c, k, h1, h2, h3, h4, h5⟩ := vq_spec h
  obtain ⟨k', hk', he⟩ := hvm.2.2 _ _ h3
  have h2' : u.vm.classes.findIdx? (vq_is comp) = some c := h2
  have hi' : U.vm.classes.findIdx? (vq_is comp) = some c := by
    rw [← vq_bare]
    first | rw [hvm.bare_eq] | rw [← hvm.bare_eq]
    rw [vq_bare]
    exact h2'
  have hi : (U.vm.classes.findIdx? fun (x : Class) => match x.kind with | .array component _ => component == comp | _ => false) = some c := hi'
  have hkind : k'.kind = .array comp (.array t) := by rw [he]; exact h4
  have f1 : U.vm.findClass (FieldType.array t).toString = some comp := by rw [hvm.findClass]; exact h1
  have f2 : U.vm.findClass ("[" ++ (FieldType.array t).toString) = some c := by rw [hvm.findClass]; exact h5
  unfold vq_AOA Cond.before Cond.holds
  simp only [Cond.value]
  rw [f1, Option.bind_some]
  refine (congrArg (fun o : Option Nat => (o.bind (fun c => (U.vm.classes[c]?).map fun (k : Class) => match k.kind with | .array _ ty => decide (ty = FieldType.array t) && decide (U.vm.findClass ("[" ++ (FieldType.array t).toString) = some c) | _ => false) == some true)) hi).trans ?_
  simp [hk', hkind, f2]
def lwn : List (String × Nat × MethodName × String) := [(RX6, 11, yX4_init, "ChangeImpact"), (RX4, 11, yX5_init, "ChangeImpact"), (RX5, 46, yX6_setOf, "ChangeImpact"), (RX5, 36, yX6_inRange, "ChangeImpact"), (RX5, 49, yX6_contains, "ChangeImpact"), (RX1, 44, yX6_inRange, "ChangeImpact"), (RX4, 44, yX6_setOf, "ChangeImpact"), (RX4, 48, yX6_pairsWith, "ChangeImpact"), (RX5, 63, yX6_containsPair, "ChangeImpact"), (RX5, 59, yX6_pairsWith, "ChangeImpact"), (RX4, 56, yX6_targetsWith, "ChangeImpact"), (RX0, 15, yX6_setOfPair, "ChangeImpact"), (RX5, 71, yX6_setOfPair, "ChangeImpact"), (RX0, 25, yX6_smallestPair, "ChangeImpact"), (RX5, 83, yX6_targetsWith, "ChangeImpact"), (RX2, 29, yX6_smallestTarget, "ChangeImpact"), (RX2, 36, yX6_setOf, "ChangeImpact"), (RX2, 50, yX6_contains, "ChangeImpact"), (RX3, 39, yX6_setOf, "ChangeImpact")]
def NK (U : State) : Prop := (∀ q ∈ lwn, va_Nw (.methodLinkNest q.1 q.2.1 q.2.2.1 q.2.2.2) U) ∧ va_AO "ChangeImpact$State" U ∧ vq_AOA .int U
theorem NK.warm {s U : State} (hW : s.WarmedH U.vm) (h : NK s) : NK U := ⟨fun q hq => va_Nw.warmM hW (h.1 q hq), va_AO.moved hW.alike h.2.1, vq_AOA.moved hW.alike h.2.2⟩
theorem NK.calling {U : State} {g : JFrame} {mk : MethodId} {a : Array Value} (h : NK U) : NK (U.calling g mk a) := ⟨fun q hq => va_Nw.same rfl (u := U) rfl (h.1 q hq), va_AO.moved (u := U) (Vm.Alike.refl U.vm) h.2.1, vq_AOA.moved (u := U) (Vm.Alike.refl U.vm) h.2.2⟩
def lvh (ls : Array Slot) (nL : Nat) (lv : List (Option Value)) : Prop := ls.size = nL ∧ lv_wf ls ∧ ∀ (i : Nat) (v : Value), lv[i]? = some (some v) → ls[i]? = some (.val v)
def lve (lv : List (Option Value)) : List (Nat × Value) := lv.zipIdx.filterMap (fun q => q.1.map (fun v => (q.2, v)))
theorem lve_mem {lv : List (Option Value)} {j : Nat} {w : Value} : (j, w) ∈ lve lv ↔ lv[j]? = some (some w) := by
  unfold lve
  rw [List.mem_filterMap]
  constructor
  · rintro ⟨⟨o, i⟩, h1, h2⟩
    rw [List.mem_zipIdx_iff_getElem?] at h1
    cases o with
    | none => simp at h2
    | some v =>
      simp at h2
      obtain ⟨rfl, rfl⟩ := h2
      exact h1
  · intro h
    exact ⟨(some w, j), List.mem_zipIdx_iff_getElem?.mpr h, rfl⟩
theorem lvh.has {ls : Array Slot} {nL : Nat} {lv : List (Option Value)} (h : lvh ls nL lv) : lv_has ls nL (lve lv) := ⟨h.1, h.2.1, fun q hq => h.2.2 q.1 q.2 (lve_mem.mp hq)⟩
def okS (lv : List (Option Value)) : Nat → Bool
  | 0 => true
  | k + 1 => match lv[k]? with
    | some (some w) => !(w.category == 2)
    | _ => true
theorem okS_use {lv : List (Option Value)} {i j : Nat} {w : Value} (h : okS lv i = true) (e : j + 1 = i) (hj : lv[j]? = some (some w)) : (w.category == 2) = false := by
  subst e
  simp only [okS, hj] at h
  simpa using h
theorem lvh.st1 {ls : Array Slot} {nL i : Nat} {v : Value} {lv : List (Option Value)} (ok : okS lv i = true) (h : lv_has ls nL ((i, v) :: (lve lv).filter (fun q => !(q.1 == i) && !(q.1 + 1 == i && q.2.category == 2)))) : lvh ls nL (lv.set i (some v)) := by
  refine ⟨h.1, h.2.1, fun j w hj => ?_⟩
  rw [List.getElem?_set] at hj
  by_cases e : i = j
  · subst e
    by_cases hl : i < lv.length
    · simp [hl] at hj
      subst hj
      exact h.2.2 (i, v) List.mem_cons_self
    · simp [hl] at hj
  · rw [if_neg e] at hj
    refine h.2.2 (j, w) (List.mem_cons_of_mem _ (List.mem_filter.mpr ⟨lve_mem.mpr hj, ?_⟩))
    by_cases e2 : j + 1 = i
    · have := okS_use ok e2 hj
      simp [this, Ne.symm e]
    · simp [e2, Ne.symm e]
theorem lvh.st2 {ls : Array Slot} {nL i : Nat} {v : Value} {lv : List (Option Value)} (ok : okS lv i = true) (h : lv_has ls nL ((i, v) :: (lve lv).filter (fun q => !(q.1 == i) && (!(q.1 == i + 1) && !(q.1 + 1 == i && q.2.category == 2))))) : lvh ls nL ((lv.set i (some v)).set (i + 1) none) := by
  refine ⟨h.1, h.2.1, fun j w hj => ?_⟩
  rw [List.getElem?_set] at hj
  by_cases e1 : i + 1 = j
  · rw [if_pos e1] at hj
    split at hj <;> cases hj
  rw [if_neg e1, List.getElem?_set] at hj
  by_cases e : i = j
  · subst e
    by_cases hl : i < lv.length
    · simp [hl] at hj
      subst hj
      exact h.2.2 (i, v) List.mem_cons_self
    · simp [hl] at hj
  · rw [if_neg e] at hj
    refine h.2.2 (j, w) (List.mem_cons_of_mem _ (List.mem_filter.mpr ⟨lve_mem.mpr hj, ?_⟩))
    by_cases e2 : j + 1 = i
    · have := okS_use ok e2 hj
      simp [this, Ne.symm e, Ne.symm e1]
    · simp [e2, Ne.symm e, Ne.symm e1]
abbrev BX : Type := Program × Launch × Env × Room × State × MethodId × Array Value × List Frame × Method × Code × (Nat → Prop) × Nat × (State → Prop)
def V (Z : BX) (D : va_G) (kc ks : Nat) (wd : va_W) (lv : List (Option Value)) (st : List Value) (pc : Nat) : Prop := match Z with
  | (p, l, e, R, s, m, args, below, meth, c, A, nL, Q) => ∀ (H : Heap) (locs : List Loc) (ls : Array Slot), va_P D clX wd H → va_D A wd → va_S A s.heap H locs → lvh ls nL lv → W p l e R s m args below meth c H locs kc ks Q (F0 m pc ls st)
def EF (Z : BX) (D : va_G) (cc : ByteArray) (own : String) (rm : Room) (n0 : Nat) : Prop := match Z with
  | (p, l, e, R, s, m, args, below, meth, c, A, nL, Q) => p.tables.exec = Jvm.exec ∧ c.code = cc ∧ c.maxLocals = n0 ∧ nL = n0 ∧ R = rm ∧ s.vm.findClass own = some m.cls ∧ (∀ w ∈ lwg, w.before args s = true) ∧ va_K D clX (tyD D) s ∧ (∀ q : Nat, s.heap.size ≤ q → A q) ∧ NK s ∧ meth.locks = false
def RQ (Z : BX) (Qf : (Nat → Prop) → Array Value → State → Outcome → State → Prop) (mc ms : Nat) (rt : Option FieldType) : Prop := match Z with
  | (p, l, e, R, s, m, args, below, meth, c, A, nL, Q) => Q = MQ below (Qf A) args s mc ms A ∧ meth.sig.returnType = rt ∧ (meth.name = "<init>" ∨ True)
def PW (D : va_G) (W0 : va_W) (sz : Nat) (U : State) : Prop := U.heap.size = sz ∧ va_P D clX W0 U.heap ∧ va_K D clX (tyD D) U ∧ va_D (fun _ => True) W0 ∧ NK U
def Ct (l : Launch) (y : MethodName) (b : ByteArray) (n : Nat) (rt : Option FieldType) (rm : Room) (D : va_G) (as : List Value) (W0 : va_W) (Qf : (Nat → Prop) → Array Value → State → Outcome → State → Prop) : Prop :=
  ∀ sz : Nat, Met l y (wU y b n rt) rm (va_Pc as (PW D W0 sz)) (Qf (va_A W0 sz)) rm.cells rm.slots (va_A W0 sz)
def lvI : List Value → List (Option Value)
  | [] => []
  | v :: t => if v.category = 2 then some v :: none :: lvI t else some v :: lvI t
theorem lvI_sl : ∀ (vs : List Value) (i : Nat) (v : Value), (lvI vs)[i]? = some (some v) → (lg_sl vs)[i]? = some (.val v)
  | [], i, v, h => by simp [lvI] at h
  | w :: t, i, v, h => by
    have ih := lvI_sl t
    by_cases hc : w.category = 2
    · have e : lg_sl (w :: t) = .val w :: .second :: lg_sl t := by simp [lg_sl, hc]
      have e2 : lvI (w :: t) = some w :: none :: lvI t := by simp [lvI, hc]
      rw [e2] at h
      rw [e]
      match i, h with
      | 0, h => simpa using h
      | 1, h => simp at h
      | i + 2, h => simpa using ih i v (by simpa using h)
    · have e : lg_sl (w :: t) = .val w :: lg_sl t := by simp [lg_sl, hc]
      have e2 : lvI (w :: t) = some w :: lvI t := by simp [lvI, hc]
      rw [e2] at h
      rw [e]
      match i, h with
      | 0, h => simpa using h
      | i + 1, h => simpa using ih i v (by simpa using h)
theorem lvI_len : ∀ vs : List Value, (lvI vs).length = (lg_sl vs).length
  | [] => rfl
  | w :: t => by
    have ih := lvI_len t
    by_cases hc : w.category = 2
    · have e : lg_sl (w :: t) = .val w :: .second :: lg_sl t := by simp [lg_sl, hc]
      have e2 : lvI (w :: t) = some w :: none :: lvI t := by simp [lvI, hc]
      rw [e, e2]; simp [ih]
    · have e : lg_sl (w :: t) = .val w :: lg_sl t := by simp [lg_sl, hc]
      have e2 : lvI (w :: t) = some w :: lvI t := by simp [lvI, hc]
      rw [e, e2]; simp [ih]
theorem lvh_entry {as : List Value} {n k : Nat} {lv0 : List (Option Value)} (h0 : lvI as ++ List.replicate k none = lv0) (hn : lv0.length = n) : lvh ((lg_sl as ++ List.replicate (n - (lg_sl as).length) Slot.unset).toArray) n lv0 := by
  subst h0
  rw [List.length_append, lvI_len, List.length_replicate] at hn
  have hle : (lg_sl as).length ≤ n := by omega
  have he := lv_entry as hle
  refine ⟨he.1, he.2.1, fun i v hi => ?_⟩
  by_cases hl : i < (lvI as).length
  · rw [List.getElem?_append_left hl] at hi
    have := lvI_sl as i v hi
    rw [List.getElem?_toArray, List.getElem?_append_left (by rw [← lvI_len]; exact hl)]
    exact this
  · rw [List.getElem?_append_right (by omega), List.getElem?_replicate] at hi
    split at hi <;> cases hi
theorem Ct.ofV {l : Launch} {y : MethodName} {b : ByteArray} {n : Nat} {rt : Option FieldType} {rm : Room} {D : va_G} {as : List Value} {W0 : va_W} {Qf : (Nat → Prop) → Array Value → State → Outcome → State → Prop} (k : Nat) {lv0 : List (Option Value)} (hy : plainName y.cls = true) (h0 : lvI as ++ List.replicate k none = lv0) (hn : lv0.length = n)
    (body : ∀ Z : BX, EF Z D b y.cls rm n → RQ Z Qf rm.cells rm.slots rt → V Z D 0 0 W0 lv0 [] 0) : Ct l y b n rt rm D as W0 Qf := by
  intro sz
  refine Met.ofW (cc := b) (maxL := n) (ret := rt) hy rfl ?_
  intro p e s m args below meth c s₁ B hml hv
  obtain ⟨rfl, hsz, hP, hK, hD0, hN⟩ := hv
  have hts := atoms_spec (ws := wU y b n rt) B.pre
  have hown : s.vm.findClass y.cls = some m.cls := findClass_of_methodNamed B.named
  subst hsz
  have hD := hD0.self (sz := s.heap.size)
  rw [lg_entry_eq]
  refine body (p, l, e, (headSpec (wU y b n rt) rm).room, s, m, as.toArray, below, meth, c, va_A W0 s.heap.size, n, _) ⟨B.exec, B.bytes, hml, rfl, rfl, hown, fun w hw => hts w (List.mem_cons_of_mem _ hw), hK, fun q h => Or.inr h, hN, B.notSynchronized⟩ ⟨rfl, B.returns, Or.inr trivial⟩ s.heap [] _ hP hD va_S.rf (lvh_entry h0 hn)
/-- the ends -/
def QI {S : Type} (D : va_G) (post : Int32 → S → Prop) (W1 : S → va_W) (A : Nat → Prop) : Array Value → State → Outcome → State → Prop := va_Qi post (fun u t => va_P D clX (W1 u) t.heap ∧ va_D A (W1 u)) A
def QL {S : Type} (D : va_G) (post : Int64 → S → Prop) (W1 : S → va_W) (A : Nat → Prop) : Array Value → State → Outcome → State → Prop := va_Ql post (fun u t => va_P D clX (W1 u) t.heap ∧ va_D A (W1 u)) A
def QV {S : Type} (D : va_G) (post : S → Prop) (W1 : S → va_W) (A : Nat → Prop) : Array Value → State → Outcome → State → Prop := va_Qv post (fun u t => va_P D clX (W1 u) t.heap ∧ va_D A (W1 u)) A
abbrev QI1 (D : va_G) (r : Int32) (W1 : va_W) := QI (S := Unit) D (fun x _ => x = r) (fun _ => W1)
abbrev QL1 (D : va_G) (r : Int64) (W1 : va_W) := QL (S := Unit) D (fun x _ => x = r) (fun _ => W1)
abbrev QV1 (D : va_G) (W1 : va_W) := QV (S := Unit) D (fun _ => True) (fun _ => W1)
section VROWS
variable {Z : BX} {D : va_G} {kc ks : Nat} {wd : va_W} {lv : List (Option Value)} {st rest : List Value} {pc : Nat} {cc : ByteArray} {own : String} {rm : Room} {n0 : Nat}

theorem v_iconst (E : EF Z D cc own rm n0) {n : Int} {v : Int32} (d : decode cc pc = .ok (.iconst n, 1)) (hv : Int32.ofInt n = v) (k : V Z D kc ks wd lv (.int v :: st) (pc + 1)) : V Z D kc ks wd lv st pc := by
  obtain ⟨p, l, e, R, s, m, args, below, meth, c, A, nL, Q⟩ := Z
  obtain ⟨hx, hb, hml, rfl, rfl, hown, hts, hK, hA, hN, hlocks⟩ := E
  intro H locs ls hP hD hS hl
  exact lv_iconst hx hb d hv (k H locs ls hP hD hS hl)
theorem v_bipush (E : EF Z D cc own rm n0) {n : Int} {v : Int32} (d : decode cc pc = .ok (.bipush n, 2)) (hv : (Int8.ofInt n).toInt32 = v) (k : V Z D kc ks wd lv (.int v :: st) (pc + 2)) : V Z D kc ks wd lv st pc := by
  obtain ⟨p, l, e, R, s, m, args, below, meth, c, A, nL, Q⟩ := Z
  obtain ⟨hx, hb, hml, rfl, rfl, hown, hts, hK, hA, hN, hlocks⟩ := E
  intro H locs ls hP hD hS hl
  exact lv_bipush hx hb d hv (k H locs ls hP hD hS hl)
theorem v_sipush (E : EF Z D cc own rm n0) {n : Int} {v : Int32} (d : decode cc pc = .ok (.sipush n, 3)) (hv : (Int16.ofInt n).toInt32 = v) (k : V Z D kc ks wd lv (.int v :: st) (pc + 3)) : V Z D kc ks wd lv st pc := by
  obtain ⟨p, l, e, R, s, m, args, below, meth, c, A, nL, Q⟩ := Z
  obtain ⟨hx, hb, hml, rfl, rfl, hown, hts, hK, hA, hN, hlocks⟩ := E
  intro H locs ls hP hD hS hl
  exact lv_sipush hx hb d hv (k H locs ls hP hD hS hl)
theorem v_lconst (E : EF Z D cc own rm n0) {n : Fin 2} {v : Int64} (d : decode cc pc = .ok (.lconst n, 1)) (hv : Int64.ofNat (n : Nat) = v) (k : V Z D kc ks wd lv (.long v :: st) (pc + 1)) : V Z D kc ks wd lv st pc := by
  obtain ⟨p, l, e, R, s, m, args, below, meth, c, A, nL, Q⟩ := Z
  obtain ⟨hx, hb, hml, rfl, rfl, hown, hts, hK, hA, hN, hlocks⟩ := E
  intro H locs ls hP hD hS hl
  exact lv_lconst hx hb d hv (k H locs ls hP hD hS hl)
theorem v_ldcw (E : EF Z D cc own rm n0) {index : Nat} {v : Int32} (d : decode cc pc = .ok (.ldc_w index, 3)) (hw : Cond.constant own index v ∈ lwg) (k : V Z D kc ks wd lv (.int v :: st) (pc + 3)) : V Z D kc ks wd lv st pc := by
  obtain ⟨p, l, e, R, s, m, args, below, meth, c, A, nL, Q⟩ := Z
  obtain ⟨hx, hb, hml, rfl, rfl, hown, hts, hK, hA, hN, hlocks⟩ := E
  intro H locs ls hP hD hS hl
  exact lv_ldcw hx hb hown (hts _ hw) d (k H locs ls hP hD hS hl)
theorem v_ldc2 (E : EF Z D cc own rm n0) {index : Nat} {v : Int64} (d : decode cc pc = .ok (.ldc2_w index, 3)) (hw : Cond.constantLong own index v ∈ lwg) (k : V Z D kc ks wd lv (.long v :: st) (pc + 3)) : V Z D kc ks wd lv st pc := by
  obtain ⟨p, l, e, R, s, m, args, below, meth, c, A, nL, Q⟩ := Z
  obtain ⟨hx, hb, hml, rfl, rfl, hown, hts, hK, hA, hN, hlocks⟩ := E
  intro H locs ls hP hD hS hl
  exact lv_ldc2 hx hb hown (hts _ hw) d (k H locs ls hP hD hS hl)
theorem v_null (E : EF Z D cc own rm n0) (d : decode cc pc = .ok (.aconst_null, 1)) (k : V Z D kc ks wd lv (.null :: st) (pc + 1)) : V Z D kc ks wd lv st pc := by
  obtain ⟨p, l, e, R, s, m, args, below, meth, c, A, nL, Q⟩ := Z
  obtain ⟨hx, hb, hml, rfl, rfl, hown, hts, hK, hA, hN, hlocks⟩ := E
  intro H locs ls hP hD hS hl
  exact lv_null hx hb d (k H locs ls hP hD hS hl)
theorem v_iload_n (E : EF Z D cc own rm n0) {i : Fin 4} {x : Int32} (d : decode cc pc = .ok (.iload_n i, 1)) (h : lv[(i : Nat)]? = some (some (.int x))) (k : V Z D kc ks wd lv (.int x :: st) (pc + 1)) : V Z D kc ks wd lv st pc := by
  obtain ⟨p, l, e, R, s, m, args, below, meth, c, A, nL, Q⟩ := Z
  obtain ⟨hx, hb, hml, rfl, rfl, hown, hts, hK, hA, hN, hlocks⟩ := E
  intro H locs ls hP hD hS hl
  exact lv_iload_n hx hb d rfl (hl.2.2 _ _ h) (k H locs ls hP hD hS hl)
theorem v_iload (E : EF Z D cc own rm n0) {i : Nat} {x : Int32} (d : decode cc pc = .ok (.iload i, 2)) (h : lv[i]? = some (some (.int x))) (k : V Z D kc ks wd lv (.int x :: st) (pc + 2)) : V Z D kc ks wd lv st pc := by
  obtain ⟨p, l, e, R, s, m, args, below, meth, c, A, nL, Q⟩ := Z
  obtain ⟨hx, hb, hml, rfl, rfl, hown, hts, hK, hA, hN, hlocks⟩ := E
  intro H locs ls hP hD hS hl
  exact lv_iload hx hb d (hl.2.2 _ _ h) (k H locs ls hP hD hS hl)
theorem v_lload_n (E : EF Z D cc own rm n0) {i : Fin 4} {x : Int64} (d : decode cc pc = .ok (.lload_n i, 1)) (h : lv[(i : Nat)]? = some (some (.long x))) (k : V Z D kc ks wd lv (.long x :: st) (pc + 1)) : V Z D kc ks wd lv st pc := by
  obtain ⟨p, l, e, R, s, m, args, below, meth, c, A, nL, Q⟩ := Z
  obtain ⟨hx, hb, hml, rfl, rfl, hown, hts, hK, hA, hN, hlocks⟩ := E
  intro H locs ls hP hD hS hl
  exact lv_lload_n hx hb d rfl (hl.2.2 _ _ h) (k H locs ls hP hD hS hl)
theorem v_lload (E : EF Z D cc own rm n0) {i : Nat} {x : Int64} (d : decode cc pc = .ok (.lload i, 2)) (h : lv[i]? = some (some (.long x))) (k : V Z D kc ks wd lv (.long x :: st) (pc + 2)) : V Z D kc ks wd lv st pc := by
  obtain ⟨p, l, e, R, s, m, args, below, meth, c, A, nL, Q⟩ := Z
  obtain ⟨hx, hb, hml, rfl, rfl, hown, hts, hK, hA, hN, hlocks⟩ := E
  intro H locs ls hP hD hS hl
  exact lv_lload hx hb d (hl.2.2 _ _ h) (k H locs ls hP hD hS hl)
theorem v_aload_n (E : EF Z D cc own rm n0) {i : Fin 4} {x : Nat} (d : decode cc pc = .ok (.aload_n i, 1)) (h : lv[(i : Nat)]? = some (some (.ref x))) (k : V Z D kc ks wd lv (.ref x :: st) (pc + 1)) : V Z D kc ks wd lv st pc := by
  obtain ⟨p, l, e, R, s, m, args, below, meth, c, A, nL, Q⟩ := Z
  obtain ⟨hx, hb, hml, rfl, rfl, hown, hts, hK, hA, hN, hlocks⟩ := E
  intro H locs ls hP hD hS hl
  exact lv_aload_n hx hb d rfl (hl.2.2 _ _ h) (k H locs ls hP hD hS hl)
theorem v_aload (E : EF Z D cc own rm n0) {i : Nat} {x : Nat} (d : decode cc pc = .ok (.aload i, 2)) (h : lv[i]? = some (some (.ref x))) (k : V Z D kc ks wd lv (.ref x :: st) (pc + 2)) : V Z D kc ks wd lv st pc := by
  obtain ⟨p, l, e, R, s, m, args, below, meth, c, A, nL, Q⟩ := Z
  obtain ⟨hx, hb, hml, rfl, rfl, hown, hts, hK, hA, hN, hlocks⟩ := E
  intro H locs ls hP hD hS hl
  exact lv_aload hx hb d (hl.2.2 _ _ h) (k H locs ls hP hD hS hl)
theorem v_aload_nN (E : EF Z D cc own rm n0) {i : Fin 4} (d : decode cc pc = .ok (.aload_n i, 1)) (h : lv[(i : Nat)]? = some (some .null)) (k : V Z D kc ks wd lv (.null :: st) (pc + 1)) : V Z D kc ks wd lv st pc := by
  obtain ⟨p, l, e, R, s, m, args, below, meth, c, A, nL, Q⟩ := Z
  obtain ⟨hx, hb, hml, rfl, rfl, hown, hts, hK, hA, hN, hlocks⟩ := E
  intro H locs ls hP hD hS hl
  exact lv_aload_nN hx hb d rfl (hl.2.2 _ _ h) (k H locs ls hP hD hS hl)
theorem v_istore_n (E : EF Z D cc own rm n0) {i : Fin 4} {x : Int32} (d : decode cc pc = .ok (.istore_n i, 1)) (hn : Nat.ble ((i : Nat) + 1) n0 = true) (ok : okS lv (i : Nat) = true) (k : V Z D kc ks wd (lv.set (i : Nat) (some (.int x))) st (pc + 1)) : V Z D kc ks wd lv (.int x :: st) pc := by
  obtain ⟨p, l, e, R, s, m, args, below, meth, c, A, nL, Q⟩ := Z
  obtain ⟨hx, hb, hml, rfl, rfl, hown, hts, hK, hA, hN, hlocks⟩ := E
  intro H locs ls hP hD hS hl
  exact lv_istore_n hx hb d rfl hl.has (Nat.le_of_ble_eq_true hn) rfl (fun ls hl => k H locs ls hP hD hS (lvh.st1 ok hl))
theorem v_istore (E : EF Z D cc own rm n0) {i : Nat} {x : Int32} (d : decode cc pc = .ok (.istore i, 2)) (hn : Nat.ble (i + 1) n0 = true) (ok : okS lv i = true) (k : V Z D kc ks wd (lv.set i (some (.int x))) st (pc + 2)) : V Z D kc ks wd lv (.int x :: st) pc := by
  obtain ⟨p, l, e, R, s, m, args, below, meth, c, A, nL, Q⟩ := Z
  obtain ⟨hx, hb, hml, rfl, rfl, hown, hts, hK, hA, hN, hlocks⟩ := E
  intro H locs ls hP hD hS hl
  exact lv_istore hx hb d hl.has (Nat.le_of_ble_eq_true hn) rfl (fun ls hl => k H locs ls hP hD hS (lvh.st1 ok hl))
theorem v_astore_n (E : EF Z D cc own rm n0) {i : Fin 4} {x : Nat} (d : decode cc pc = .ok (.astore_n i, 1)) (hn : Nat.ble ((i : Nat) + 1) n0 = true) (ok : okS lv (i : Nat) = true) (k : V Z D kc ks wd (lv.set (i : Nat) (some (.ref x))) st (pc + 1)) : V Z D kc ks wd lv (.ref x :: st) pc := by
  obtain ⟨p, l, e, R, s, m, args, below, meth, c, A, nL, Q⟩ := Z
  obtain ⟨hx, hb, hml, rfl, rfl, hown, hts, hK, hA, hN, hlocks⟩ := E
  intro H locs ls hP hD hS hl
  exact lv_astore_n hx hb d rfl hl.has (Nat.le_of_ble_eq_true hn) rfl (fun ls hl => k H locs ls hP hD hS (lvh.st1 ok hl))
theorem v_astore (E : EF Z D cc own rm n0) {i : Nat} {x : Nat} (d : decode cc pc = .ok (.astore i, 2)) (hn : Nat.ble (i + 1) n0 = true) (ok : okS lv i = true) (k : V Z D kc ks wd (lv.set i (some (.ref x))) st (pc + 2)) : V Z D kc ks wd lv (.ref x :: st) pc := by
  obtain ⟨p, l, e, R, s, m, args, below, meth, c, A, nL, Q⟩ := Z
  obtain ⟨hx, hb, hml, rfl, rfl, hown, hts, hK, hA, hN, hlocks⟩ := E
  intro H locs ls hP hD hS hl
  exact lv_astore hx hb d hl.has (Nat.le_of_ble_eq_true hn) rfl (fun ls hl => k H locs ls hP hD hS (lvh.st1 ok hl))
theorem v_astore_nN (E : EF Z D cc own rm n0) {i : Fin 4} (d : decode cc pc = .ok (.astore_n i, 1)) (hn : Nat.ble ((i : Nat) + 1) n0 = true) (ok : okS lv (i : Nat) = true) (k : V Z D kc ks wd (lv.set (i : Nat) (some .null)) st (pc + 1)) : V Z D kc ks wd lv (.null :: st) pc := by
  obtain ⟨p, l, e, R, s, m, args, below, meth, c, A, nL, Q⟩ := Z
  obtain ⟨hx, hb, hml, rfl, rfl, hown, hts, hK, hA, hN, hlocks⟩ := E
  intro H locs ls hP hD hS hl
  exact lv_astore_nN hx hb d rfl hl.has (Nat.le_of_ble_eq_true hn) rfl (fun ls hl => k H locs ls hP hD hS (lvh.st1 ok hl))
theorem v_lstore_n (E : EF Z D cc own rm n0) {i : Fin 4} {x : Int64} (d : decode cc pc = .ok (.lstore_n i, 1)) (hn : Nat.ble ((i : Nat) + 2) n0 = true) (ok : okS lv (i : Nat) = true) (k : V Z D kc ks wd ((lv.set (i : Nat) (some (.long x))).set ((i : Nat) + 1) none) st (pc + 1)) : V Z D kc ks wd lv (.long x :: st) pc := by
  obtain ⟨p, l, e, R, s, m, args, below, meth, c, A, nL, Q⟩ := Z
  obtain ⟨hx, hb, hml, rfl, rfl, hown, hts, hK, hA, hN, hlocks⟩ := E
  intro H locs ls hP hD hS hl
  exact lv_lstore_n hx hb d rfl hl.has (Nat.le_of_ble_eq_true hn) rfl (fun ls hl => k H locs ls hP hD hS (lvh.st2 ok hl))
theorem v_lstore (E : EF Z D cc own rm n0) {i : Nat} {x : Int64} (d : decode cc pc = .ok (.lstore i, 2)) (hn : Nat.ble (i + 2) n0 = true) (ok : okS lv i = true) (k : V Z D kc ks wd ((lv.set i (some (.long x))).set (i + 1) none) st (pc + 2)) : V Z D kc ks wd lv (.long x :: st) pc := by
  obtain ⟨p, l, e, R, s, m, args, below, meth, c, A, nL, Q⟩ := Z
  obtain ⟨hx, hb, hml, rfl, rfl, hown, hts, hK, hA, hN, hlocks⟩ := E
  intro H locs ls hP hD hS hl
  exact lv_lstore hx hb d hl.has (Nat.le_of_ble_eq_true hn) rfl (fun ls hl => k H locs ls hP hD hS (lvh.st2 ok hl))
theorem v_iinc (E : EF Z D cc own rm n0) {i : Nat} {n : Int} {x v : Int32} (d : decode cc pc = .ok (.iinc i n, 3)) (h : lv[i]? = some (some (.int x))) (hv : x + Int32.ofInt n = v) (hn : Nat.ble (i + 1) n0 = true) (ok : okS lv i = true) (k : V Z D kc ks wd (lv.set i (some (.int v))) st (pc + 3)) : V Z D kc ks wd lv st pc := by
  obtain ⟨p, l, e, R, s, m, args, below, meth, c, A, nL, Q⟩ := Z
  obtain ⟨hx, hb, hml, rfl, rfl, hown, hts, hK, hA, hN, hlocks⟩ := E
  intro H locs ls hP hD hS hl
  obtain ⟨j, hj⟩ := List.getElem?_of_mem (lve_mem.mpr h)
  exact lv_iinc hx hb d hl.has hj hv (Nat.le_of_ble_eq_true hn) rfl (fun ls hl => k H locs ls hP hD hS (lvh.st1 ok hl))
theorem v_iadd (E : EF Z D cc own rm n0) {x y : Int32} (d : decode cc pc = .ok (.iadd, 1)) (k : V Z D kc ks wd lv (.int (x + y) :: st) (pc + 1)) : V Z D kc ks wd lv (.int y :: .int x :: st) pc := by
  obtain ⟨p, l, e, R, s, m, args, below, meth, c, A, nL, Q⟩ := Z
  obtain ⟨hx, hb, hml, rfl, rfl, hown, hts, hK, hA, hN, hlocks⟩ := E
  intro H locs ls hP hD hS hl
  exact lv_iadd hx hb d (k H locs ls hP hD hS hl)
theorem v_isub (E : EF Z D cc own rm n0) {x y : Int32} (d : decode cc pc = .ok (.isub, 1)) (k : V Z D kc ks wd lv (.int (x - y) :: st) (pc + 1)) : V Z D kc ks wd lv (.int y :: .int x :: st) pc := by
  obtain ⟨p, l, e, R, s, m, args, below, meth, c, A, nL, Q⟩ := Z
  obtain ⟨hx, hb, hml, rfl, rfl, hown, hts, hK, hA, hN, hlocks⟩ := E
  intro H locs ls hP hD hS hl
  exact lv_isub hx hb d (k H locs ls hP hD hS hl)
theorem v_imul (E : EF Z D cc own rm n0) {x y : Int32} (d : decode cc pc = .ok (.imul, 1)) (k : V Z D kc ks wd lv (.int (x * y) :: st) (pc + 1)) : V Z D kc ks wd lv (.int y :: .int x :: st) pc := by
  obtain ⟨p, l, e, R, s, m, args, below, meth, c, A, nL, Q⟩ := Z
  obtain ⟨hx, hb, hml, rfl, rfl, hown, hts, hK, hA, hN, hlocks⟩ := E
  intro H locs ls hP hD hS hl
  exact lv_imul hx hb d (k H locs ls hP hD hS hl)
theorem v_iand (E : EF Z D cc own rm n0) {x y : Int32} (d : decode cc pc = .ok (.iand, 1)) (k : V Z D kc ks wd lv (.int (x &&& y) :: st) (pc + 1)) : V Z D kc ks wd lv (.int y :: .int x :: st) pc := by
  obtain ⟨p, l, e, R, s, m, args, below, meth, c, A, nL, Q⟩ := Z
  obtain ⟨hx, hb, hml, rfl, rfl, hown, hts, hK, hA, hN, hlocks⟩ := E
  intro H locs ls hP hD hS hl
  exact lv_iand hx hb d (k H locs ls hP hD hS hl)
theorem v_ior (E : EF Z D cc own rm n0) {x y : Int32} (d : decode cc pc = .ok (.ior, 1)) (k : V Z D kc ks wd lv (.int (x ||| y) :: st) (pc + 1)) : V Z D kc ks wd lv (.int y :: .int x :: st) pc := by
  obtain ⟨p, l, e, R, s, m, args, below, meth, c, A, nL, Q⟩ := Z
  obtain ⟨hx, hb, hml, rfl, rfl, hown, hts, hK, hA, hN, hlocks⟩ := E
  intro H locs ls hP hD hS hl
  exact lv_ior hx hb d (k H locs ls hP hD hS hl)
theorem v_ixor (E : EF Z D cc own rm n0) {x y : Int32} (d : decode cc pc = .ok (.ixor, 1)) (k : V Z D kc ks wd lv (.int (x ^^^ y) :: st) (pc + 1)) : V Z D kc ks wd lv (.int y :: .int x :: st) pc := by
  obtain ⟨p, l, e, R, s, m, args, below, meth, c, A, nL, Q⟩ := Z
  obtain ⟨hx, hb, hml, rfl, rfl, hown, hts, hK, hA, hN, hlocks⟩ := E
  intro H locs ls hP hD hS hl
  exact lv_ixor hx hb d (k H locs ls hP hD hS hl)
theorem v_ishl (E : EF Z D cc own rm n0) {x y : Int32} (d : decode cc pc = .ok (.ishl, 1)) (k : V Z D kc ks wd lv (.int (x <<< (y &&& 31)) :: st) (pc + 1)) : V Z D kc ks wd lv (.int y :: .int x :: st) pc := by
  obtain ⟨p, l, e, R, s, m, args, below, meth, c, A, nL, Q⟩ := Z
  obtain ⟨hx, hb, hml, rfl, rfl, hown, hts, hK, hA, hN, hlocks⟩ := E
  intro H locs ls hP hD hS hl
  exact lv_ishl hx hb d (k H locs ls hP hD hS hl)
theorem v_ishr (E : EF Z D cc own rm n0) {x y : Int32} (d : decode cc pc = .ok (.ishr, 1)) (k : V Z D kc ks wd lv (.int (x >>> (y &&& 31)) :: st) (pc + 1)) : V Z D kc ks wd lv (.int y :: .int x :: st) pc := by
  obtain ⟨p, l, e, R, s, m, args, below, meth, c, A, nL, Q⟩ := Z
  obtain ⟨hx, hb, hml, rfl, rfl, hown, hts, hK, hA, hN, hlocks⟩ := E
  intro H locs ls hP hD hS hl
  exact lv_ishr hx hb d (k H locs ls hP hD hS hl)
theorem v_idiv (E : EF Z D cc own rm n0) {x y : Int32} (d : decode cc pc = .ok (.idiv, 1)) (hne : ¬ y = 0) (k : V Z D kc ks wd lv (.int (x / y) :: st) (pc + 1)) : V Z D kc ks wd lv (.int y :: .int x :: st) pc := by
  obtain ⟨p, l, e, R, s, m, args, below, meth, c, A, nL, Q⟩ := Z
  obtain ⟨hx, hb, hml, rfl, rfl, hown, hts, hK, hA, hN, hlocks⟩ := E
  intro H locs ls hP hD hS hl
  exact lv_idiv hx hb d hne (k H locs ls hP hD hS hl)
theorem v_irem (E : EF Z D cc own rm n0) {x y : Int32} (d : decode cc pc = .ok (.irem, 1)) (hne : ¬ y = 0) (k : V Z D kc ks wd lv (.int (x - x / y * y) :: st) (pc + 1)) : V Z D kc ks wd lv (.int y :: .int x :: st) pc := by
  obtain ⟨p, l, e, R, s, m, args, below, meth, c, A, nL, Q⟩ := Z
  obtain ⟨hx, hb, hml, rfl, rfl, hown, hts, hK, hA, hN, hlocks⟩ := E
  intro H locs ls hP hD hS hl
  exact lv_irem hx hb d hne (k H locs ls hP hD hS hl)
theorem v_iushr (E : EF Z D cc own rm n0) {x y : Int32} (d : decode cc pc = .ok (.iushr, 1)) (k : V Z D kc ks wd lv (.int (x.toUInt32 >>> (y.toUInt32 &&& Int32.toUInt32 31)).toInt32 :: st) (pc + 1)) : V Z D kc ks wd lv (.int y :: .int x :: st) pc := by
  obtain ⟨p, l, e, R, s, m, args, below, meth, c, A, nL, Q⟩ := Z
  obtain ⟨hx, hb, hml, rfl, rfl, hown, hts, hK, hA, hN, hlocks⟩ := E
  intro H locs ls hP hD hS hl
  exact lv_iushr hx hb d rfl (k H locs ls hP hD hS hl)
theorem v_ladd (E : EF Z D cc own rm n0) {x y : Int64} (d : decode cc pc = .ok (.ladd, 1)) (k : V Z D kc ks wd lv (.long (x + y) :: st) (pc + 1)) : V Z D kc ks wd lv (.long y :: .long x :: st) pc := by
  obtain ⟨p, l, e, R, s, m, args, below, meth, c, A, nL, Q⟩ := Z
  obtain ⟨hx, hb, hml, rfl, rfl, hown, hts, hK, hA, hN, hlocks⟩ := E
  intro H locs ls hP hD hS hl
  exact lv_ladd hx hb d (k H locs ls hP hD hS hl)
theorem v_lsub (E : EF Z D cc own rm n0) {x y : Int64} (d : decode cc pc = .ok (.lsub, 1)) (k : V Z D kc ks wd lv (.long (x - y) :: st) (pc + 1)) : V Z D kc ks wd lv (.long y :: .long x :: st) pc := by
  obtain ⟨p, l, e, R, s, m, args, below, meth, c, A, nL, Q⟩ := Z
  obtain ⟨hx, hb, hml, rfl, rfl, hown, hts, hK, hA, hN, hlocks⟩ := E
  intro H locs ls hP hD hS hl
  exact lv_lsub hx hb d (k H locs ls hP hD hS hl)
theorem v_land (E : EF Z D cc own rm n0) {x y : Int64} (d : decode cc pc = .ok (.land, 1)) (k : V Z D kc ks wd lv (.long (x &&& y) :: st) (pc + 1)) : V Z D kc ks wd lv (.long y :: .long x :: st) pc := by
  obtain ⟨p, l, e, R, s, m, args, below, meth, c, A, nL, Q⟩ := Z
  obtain ⟨hx, hb, hml, rfl, rfl, hown, hts, hK, hA, hN, hlocks⟩ := E
  intro H locs ls hP hD hS hl
  exact lv_land hx hb d (k H locs ls hP hD hS hl)
theorem v_lor (E : EF Z D cc own rm n0) {x y : Int64} (d : decode cc pc = .ok (.lor, 1)) (k : V Z D kc ks wd lv (.long (x ||| y) :: st) (pc + 1)) : V Z D kc ks wd lv (.long y :: .long x :: st) pc := by
  obtain ⟨p, l, e, R, s, m, args, below, meth, c, A, nL, Q⟩ := Z
  obtain ⟨hx, hb, hml, rfl, rfl, hown, hts, hK, hA, hN, hlocks⟩ := E
  intro H locs ls hP hD hS hl
  exact lv_lor hx hb d (k H locs ls hP hD hS hl)
theorem v_lxor (E : EF Z D cc own rm n0) {x y : Int64} (d : decode cc pc = .ok (.lxor, 1)) (k : V Z D kc ks wd lv (.long (x ^^^ y) :: st) (pc + 1)) : V Z D kc ks wd lv (.long y :: .long x :: st) pc := by
  obtain ⟨p, l, e, R, s, m, args, below, meth, c, A, nL, Q⟩ := Z
  obtain ⟨hx, hb, hml, rfl, rfl, hown, hts, hK, hA, hN, hlocks⟩ := E
  intro H locs ls hP hD hS hl
  exact lv_lxor hx hb d (k H locs ls hP hD hS hl)
theorem v_lushr (E : EF Z D cc own rm n0) {x : Int64} {y : Int32} (d : decode cc pc = .ok (.lushr, 1)) (k : V Z D kc ks wd lv (.long (x.toUInt64 >>> (y.toInt64.toUInt64 &&& Int64.toUInt64 63)).toInt64 :: st) (pc + 1)) : V Z D kc ks wd lv (.int y :: .long x :: st) pc := by
  obtain ⟨p, l, e, R, s, m, args, below, meth, c, A, nL, Q⟩ := Z
  obtain ⟨hx, hb, hml, rfl, rfl, hown, hts, hK, hA, hN, hlocks⟩ := E
  intro H locs ls hP hD hS hl
  exact lv_lushr hx hb d rfl (k H locs ls hP hD hS hl)
theorem v_lshl (E : EF Z D cc own rm n0) {x : Int64} {y : Int32} (d : decode cc pc = .ok (.lshl, 1)) (k : V Z D kc ks wd lv (.long (x <<< (y.toInt64 &&& 63)) :: st) (pc + 1)) : V Z D kc ks wd lv (.int y :: .long x :: st) pc := by
  obtain ⟨p, l, e, R, s, m, args, below, meth, c, A, nL, Q⟩ := Z
  obtain ⟨hx, hb, hml, rfl, rfl, hown, hts, hK, hA, hN, hlocks⟩ := E
  intro H locs ls hP hD hS hl
  exact lv_lshl hx hb d rfl (k H locs ls hP hD hS hl)
theorem v_lcmp (E : EF Z D cc own rm n0) {x y : Int64} (d : decode cc pc = .ok (.lcmp, 1)) (k : V Z D kc ks wd lv (.int (lg_cmp x y) :: st) (pc + 1)) : V Z D kc ks wd lv (.long y :: .long x :: st) pc := by
  obtain ⟨p, l, e, R, s, m, args, below, meth, c, A, nL, Q⟩ := Z
  obtain ⟨hx, hb, hml, rfl, rfl, hown, hts, hK, hA, hN, hlocks⟩ := E
  intro H locs ls hP hD hS hl
  exact W.lcmp hx hb d (k H locs ls hP hD hS hl)
theorem v_i2l (E : EF Z D cc own rm n0) {x : Int32} (d : decode cc pc = .ok (.i2l, 1)) (k : V Z D kc ks wd lv (.long x.toInt64 :: st) (pc + 1)) : V Z D kc ks wd lv (.int x :: st) pc := by
  obtain ⟨p, l, e, R, s, m, args, below, meth, c, A, nL, Q⟩ := Z
  obtain ⟨hx, hb, hml, rfl, rfl, hown, hts, hK, hA, hN, hlocks⟩ := E
  intro H locs ls hP hD hS hl
  exact lv_i2l hx hb d rfl (k H locs ls hP hD hS hl)
theorem v_l2i (E : EF Z D cc own rm n0) {x : Int64} (d : decode cc pc = .ok (.l2i, 1)) (k : V Z D kc ks wd lv (.int x.toInt32 :: st) (pc + 1)) : V Z D kc ks wd lv (.long x :: st) pc := by
  obtain ⟨p, l, e, R, s, m, args, below, meth, c, A, nL, Q⟩ := Z
  obtain ⟨hx, hb, hml, rfl, rfl, hown, hts, hK, hA, hN, hlocks⟩ := E
  intro H locs ls hP hD hS hl
  exact lv_l2i hx hb d rfl (k H locs ls hP hD hS hl)
theorem v_dup (E : EF Z D cc own rm n0) {va : Value} (d : decode cc pc = .ok (.dup, 1)) (hva : va.category = 1) (k : V Z D kc ks wd lv (va :: va :: st) (pc + 1)) : V Z D kc ks wd lv (va :: st) pc := by
  obtain ⟨p, l, e, R, s, m, args, below, meth, c, A, nL, Q⟩ := Z
  obtain ⟨hx, hb, hml, rfl, rfl, hown, hts, hK, hA, hN, hlocks⟩ := E
  intro H locs ls hP hD hS hl
  exact lv_dup hx hb d hva (k H locs ls hP hD hS hl)
theorem v_pop (E : EF Z D cc own rm n0) {va : Value} (d : decode cc pc = .ok (.pop, 1)) (hva : va.category = 1) (k : V Z D kc ks wd lv st (pc + 1)) : V Z D kc ks wd lv (va :: st) pc := by
  obtain ⟨p, l, e, R, s, m, args, below, meth, c, A, nL, Q⟩ := Z
  obtain ⟨hx, hb, hml, rfl, rfl, hown, hts, hK, hA, hN, hlocks⟩ := E
  intro H locs ls hP hD hS hl
  exact lv_pop hx hb d hva (k H locs ls hP hD hS hl)
theorem v_dup2 (E : EF Z D cc own rm n0) {va vb : Value} (d : decode cc pc = .ok (.dup2, 1)) (hva : va.category = 1) (hvb : vb.category = 1) (k : V Z D kc ks wd lv (va :: vb :: va :: vb :: st) (pc + 1)) : V Z D kc ks wd lv (va :: vb :: st) pc := by
  obtain ⟨p, l, e, R, s, m, args, below, meth, c, A, nL, Q⟩ := Z
  obtain ⟨hx, hb, hml, rfl, rfl, hown, hts, hK, hA, hN, hlocks⟩ := E
  intro H locs ls hP hD hS hl
  exact lv_dup2_11 hx hb d hva hvb (k H locs ls hP hD hS hl)
theorem v_goto (E : EF Z D cc own rm n0) {off : Int} (tgt : Nat) (d : decode cc pc = .ok (.goto off, 3)) (ht : (pc : Int) + off = (tgt : Int)) (k : V Z D kc ks wd lv st tgt) : V Z D kc ks wd lv st pc := by
  obtain ⟨p, l, e, R, s, m, args, below, meth, c, A, nL, Q⟩ := Z
  obtain ⟨hx, hb, hml, rfl, rfl, hown, hts, hK, hA, hN, hlocks⟩ := E
  intro H locs ls hP hD hS hl
  exact lv_goto hx hb d ht (k H locs ls hP hD hS hl)
theorem v_if_eq (E : EF Z D cc own rm n0) {off : Int} (tgt : Nat) {x : Int32} (d : decode cc pc = .ok (.ifCond .eq off, 3)) (ht : (pc : Int) + off = (tgt : Int)) (kt : x = 0 → V Z D kc ks wd lv st tgt) (kf : ¬ x = 0 → V Z D kc ks wd lv st (pc + 3)) : V Z D kc ks wd lv (.int x :: st) pc := by
  obtain ⟨p, l, e, R, s, m, args, below, meth, c, A, nL, Q⟩ := Z
  obtain ⟨hx, hb, hml, rfl, rfl, hown, hts, hK, hA, hN, hlocks⟩ := E
  intro H locs ls hP hD hS hl
  exact lv_if_eq hx hb d ht (fun q => kt q H locs ls hP hD hS hl) (fun q => kf q H locs ls hP hD hS hl)
theorem v_if_ne (E : EF Z D cc own rm n0) {off : Int} (tgt : Nat) {x : Int32} (d : decode cc pc = .ok (.ifCond .ne off, 3)) (ht : (pc : Int) + off = (tgt : Int)) (kt : ¬ x = 0 → V Z D kc ks wd lv st tgt) (kf : x = 0 → V Z D kc ks wd lv st (pc + 3)) : V Z D kc ks wd lv (.int x :: st) pc := by
  obtain ⟨p, l, e, R, s, m, args, below, meth, c, A, nL, Q⟩ := Z
  obtain ⟨hx, hb, hml, rfl, rfl, hown, hts, hK, hA, hN, hlocks⟩ := E
  intro H locs ls hP hD hS hl
  exact lv_if_ne hx hb d ht (fun q => kt q H locs ls hP hD hS hl) (fun q => kf q H locs ls hP hD hS hl)
theorem v_if_lt (E : EF Z D cc own rm n0) {off : Int} (tgt : Nat) {x : Int32} (d : decode cc pc = .ok (.ifCond .lt off, 3)) (ht : (pc : Int) + off = (tgt : Int)) (kt : x < 0 → V Z D kc ks wd lv st tgt) (kf : ¬ x < 0 → V Z D kc ks wd lv st (pc + 3)) : V Z D kc ks wd lv (.int x :: st) pc := by
  obtain ⟨p, l, e, R, s, m, args, below, meth, c, A, nL, Q⟩ := Z
  obtain ⟨hx, hb, hml, rfl, rfl, hown, hts, hK, hA, hN, hlocks⟩ := E
  intro H locs ls hP hD hS hl
  exact lv_if_lt hx hb d ht (fun q => kt q H locs ls hP hD hS hl) (fun q => kf q H locs ls hP hD hS hl)
theorem v_if_ge (E : EF Z D cc own rm n0) {off : Int} (tgt : Nat) {x : Int32} (d : decode cc pc = .ok (.ifCond .ge off, 3)) (ht : (pc : Int) + off = (tgt : Int)) (kt : 0 ≤ x → V Z D kc ks wd lv st tgt) (kf : ¬ 0 ≤ x → V Z D kc ks wd lv st (pc + 3)) : V Z D kc ks wd lv (.int x :: st) pc := by
  obtain ⟨p, l, e, R, s, m, args, below, meth, c, A, nL, Q⟩ := Z
  obtain ⟨hx, hb, hml, rfl, rfl, hown, hts, hK, hA, hN, hlocks⟩ := E
  intro H locs ls hP hD hS hl
  exact lv_if_ge hx hb d ht (fun q => kt q H locs ls hP hD hS hl) (fun q => kf q H locs ls hP hD hS hl)
theorem v_if_gt (E : EF Z D cc own rm n0) {off : Int} (tgt : Nat) {x : Int32} (d : decode cc pc = .ok (.ifCond .gt off, 3)) (ht : (pc : Int) + off = (tgt : Int)) (kt : 0 < x → V Z D kc ks wd lv st tgt) (kf : ¬ 0 < x → V Z D kc ks wd lv st (pc + 3)) : V Z D kc ks wd lv (.int x :: st) pc := by
  obtain ⟨p, l, e, R, s, m, args, below, meth, c, A, nL, Q⟩ := Z
  obtain ⟨hx, hb, hml, rfl, rfl, hown, hts, hK, hA, hN, hlocks⟩ := E
  intro H locs ls hP hD hS hl
  exact lv_if_gt hx hb d ht (fun q => kt q H locs ls hP hD hS hl) (fun q => kf q H locs ls hP hD hS hl)
theorem v_if_le (E : EF Z D cc own rm n0) {off : Int} (tgt : Nat) {x : Int32} (d : decode cc pc = .ok (.ifCond .le off, 3)) (ht : (pc : Int) + off = (tgt : Int)) (kt : x ≤ 0 → V Z D kc ks wd lv st tgt) (kf : ¬ x ≤ 0 → V Z D kc ks wd lv st (pc + 3)) : V Z D kc ks wd lv (.int x :: st) pc := by
  obtain ⟨p, l, e, R, s, m, args, below, meth, c, A, nL, Q⟩ := Z
  obtain ⟨hx, hb, hml, rfl, rfl, hown, hts, hK, hA, hN, hlocks⟩ := E
  intro H locs ls hP hD hS hl
  exact lv_if_le hx hb d ht (fun q => kt q H locs ls hP hD hS hl) (fun q => kf q H locs ls hP hD hS hl)
theorem v_icmp_eq (E : EF Z D cc own rm n0) {off : Int} (tgt : Nat) {x y : Int32} (d : decode cc pc = .ok (.if_icmp .eq off, 3)) (ht : (pc : Int) + off = (tgt : Int)) (kt : x = y → V Z D kc ks wd lv st tgt) (kf : ¬ x = y → V Z D kc ks wd lv st (pc + 3)) : V Z D kc ks wd lv (.int y :: .int x :: st) pc := by
  obtain ⟨p, l, e, R, s, m, args, below, meth, c, A, nL, Q⟩ := Z
  obtain ⟨hx, hb, hml, rfl, rfl, hown, hts, hK, hA, hN, hlocks⟩ := E
  intro H locs ls hP hD hS hl
  exact lv_icmp_eq hx hb d ht (fun q => kt q H locs ls hP hD hS hl) (fun q => kf q H locs ls hP hD hS hl)
theorem v_icmp_ne (E : EF Z D cc own rm n0) {off : Int} (tgt : Nat) {x y : Int32} (d : decode cc pc = .ok (.if_icmp .ne off, 3)) (ht : (pc : Int) + off = (tgt : Int)) (kt : ¬ x = y → V Z D kc ks wd lv st tgt) (kf : x = y → V Z D kc ks wd lv st (pc + 3)) : V Z D kc ks wd lv (.int y :: .int x :: st) pc := by
  obtain ⟨p, l, e, R, s, m, args, below, meth, c, A, nL, Q⟩ := Z
  obtain ⟨hx, hb, hml, rfl, rfl, hown, hts, hK, hA, hN, hlocks⟩ := E
  intro H locs ls hP hD hS hl
  exact lv_icmp_ne hx hb d ht (fun q => kt q H locs ls hP hD hS hl) (fun q => kf q H locs ls hP hD hS hl)
theorem v_icmp_lt (E : EF Z D cc own rm n0) {off : Int} (tgt : Nat) {x y : Int32} (d : decode cc pc = .ok (.if_icmp .lt off, 3)) (ht : (pc : Int) + off = (tgt : Int)) (kt : x < y → V Z D kc ks wd lv st tgt) (kf : ¬ x < y → V Z D kc ks wd lv st (pc + 3)) : V Z D kc ks wd lv (.int y :: .int x :: st) pc := by
  obtain ⟨p, l, e, R, s, m, args, below, meth, c, A, nL, Q⟩ := Z
  obtain ⟨hx, hb, hml, rfl, rfl, hown, hts, hK, hA, hN, hlocks⟩ := E
  intro H locs ls hP hD hS hl
  exact lv_icmp_lt hx hb d ht (fun q => kt q H locs ls hP hD hS hl) (fun q => kf q H locs ls hP hD hS hl)
theorem v_icmp_ge (E : EF Z D cc own rm n0) {off : Int} (tgt : Nat) {x y : Int32} (d : decode cc pc = .ok (.if_icmp .ge off, 3)) (ht : (pc : Int) + off = (tgt : Int)) (kt : y ≤ x → V Z D kc ks wd lv st tgt) (kf : ¬ y ≤ x → V Z D kc ks wd lv st (pc + 3)) : V Z D kc ks wd lv (.int y :: .int x :: st) pc := by
  obtain ⟨p, l, e, R, s, m, args, below, meth, c, A, nL, Q⟩ := Z
  obtain ⟨hx, hb, hml, rfl, rfl, hown, hts, hK, hA, hN, hlocks⟩ := E
  intro H locs ls hP hD hS hl
  exact lv_icmp_ge hx hb d ht (fun q => kt q H locs ls hP hD hS hl) (fun q => kf q H locs ls hP hD hS hl)
theorem v_icmp_gt (E : EF Z D cc own rm n0) {off : Int} (tgt : Nat) {x y : Int32} (d : decode cc pc = .ok (.if_icmp .gt off, 3)) (ht : (pc : Int) + off = (tgt : Int)) (kt : y < x → V Z D kc ks wd lv st tgt) (kf : ¬ y < x → V Z D kc ks wd lv st (pc + 3)) : V Z D kc ks wd lv (.int y :: .int x :: st) pc := by
  obtain ⟨p, l, e, R, s, m, args, below, meth, c, A, nL, Q⟩ := Z
  obtain ⟨hx, hb, hml, rfl, rfl, hown, hts, hK, hA, hN, hlocks⟩ := E
  intro H locs ls hP hD hS hl
  exact lv_icmp_gt hx hb d ht (fun q => kt q H locs ls hP hD hS hl) (fun q => kf q H locs ls hP hD hS hl)
theorem v_icmp_le (E : EF Z D cc own rm n0) {off : Int} (tgt : Nat) {x y : Int32} (d : decode cc pc = .ok (.if_icmp .le off, 3)) (ht : (pc : Int) + off = (tgt : Int)) (kt : x ≤ y → V Z D kc ks wd lv st tgt) (kf : ¬ x ≤ y → V Z D kc ks wd lv st (pc + 3)) : V Z D kc ks wd lv (.int y :: .int x :: st) pc := by
  obtain ⟨p, l, e, R, s, m, args, below, meth, c, A, nL, Q⟩ := Z
  obtain ⟨hx, hb, hml, rfl, rfl, hown, hts, hK, hA, hN, hlocks⟩ := E
  intro H locs ls hP hD hS hl
  exact lv_icmp_le hx hb d ht (fun q => kt q H locs ls hP hD hS hl) (fun q => kf q H locs ls hP hD hS hl)
theorem v_ifnonnull (E : EF Z D cc own rm n0) {x : Nat} {off : Int} (tgt : Nat) (d : decode cc pc = .ok (.ifnonnull off, 3)) (ht : (pc : Int) + off = (tgt : Int)) (k : V Z D kc ks wd lv st tgt) : V Z D kc ks wd lv (.ref x :: st) pc := by
  obtain ⟨p, l, e, R, s, m, args, below, meth, c, A, nL, Q⟩ := Z
  obtain ⟨hx, hb, hml, rfl, rfl, hown, hts, hK, hA, hN, hlocks⟩ := E
  intro H locs ls hP hD hS hl
  exact lv_ifnonnull hx hb d ht (k H locs ls hP hD hS hl)
theorem v_ifnonnullN (E : EF Z D cc own rm n0) {off : Int} (d : decode cc pc = .ok (.ifnonnull off, 3)) (k : V Z D kc ks wd lv st (pc + 3)) : V Z D kc ks wd lv (.null :: st) pc := by
  obtain ⟨p, l, e, R, s, m, args, below, meth, c, A, nL, Q⟩ := Z
  obtain ⟨hx, hb, hml, rfl, rfl, hown, hts, hK, hA, hN, hlocks⟩ := E
  intro H locs ls hP hD hS hl
  exact lv_ifnonnullN hx hb d (k H locs ls hP hD hS hl)
theorem nI_inB {i : Int32} {k n : Nat} (hi : i = nI k) (hk : k < n) (hn : Nat.ble n 2147483647 = true) : vp_in i n ∧ i.toNatClampNeg = k := by
  have h1 := Nat.le_of_ble_eq_true hn
  subst hi
  exact ⟨vp_in_nI hk (by omega), nI_clamp (by omega)⟩
theorem v_iald (E : EF Z D cc own rm n0) {a n : Nat} {f : Nat → Int32} {i : Int32} (d : decode cc pc = .ok (.iaload, 1)) (q0 : Nat) (ha : wd[q0]? = some (a, aI D n f)) (j : Nat) (hi : i = nI j) (hj : j < n) (hn : Nat.ble n 2147483647 = true) (k : V Z D kc ks wd lv (.int (f j) :: st) (pc + 1)) : V Z D kc ks wd lv (.int i :: .ref a :: st) pc := by
  obtain ⟨p, l, e, R, s, m, args, below, meth, c, A, nL, Q⟩ := Z
  obtain ⟨hx, hb, hml, rfl, rfl, hown, hts, hK, hA, hN, hlocks⟩ := E
  intro H locs ls hP hD hS hl
  obtain ⟨h1, h2⟩ := nI_inB hi hj hn
  refine va_iald hx hb hK hP q0 0 ha rfl h1 d ?_
  rw [h2]
  exact k H locs ls hP hD hS hl
theorem v_zald (E : EF Z D cc own rm n0) {a n : Nat} {f : Nat → Int32} {i : Int32} (d : decode cc pc = .ok (.baload, 1)) (q0 : Nat) (ha : wd[q0]? = some (a, aZ D n f)) (j : Nat) (hi : i = nI j) (hj : j < n) (hn : Nat.ble n 2147483647 = true) (k : V Z D kc ks wd lv (.int (f j) :: st) (pc + 1)) : V Z D kc ks wd lv (.int i :: .ref a :: st) pc := by
  obtain ⟨p, l, e, R, s, m, args, below, meth, c, A, nL, Q⟩ := Z
  obtain ⟨hx, hb, hml, rfl, rfl, hown, hts, hK, hA, hN, hlocks⟩ := E
  intro H locs ls hP hD hS hl
  obtain ⟨h1, h2⟩ := nI_inB hi hj hn
  refine va_zald hx hb hK hP q0 1 ha rfl h1 d ?_
  rw [h2]
  exact k H locs ls hP hD hS hl
theorem v_lald (E : EF Z D cc own rm n0) {a n : Nat} {f : Nat → Int64} {i : Int32} (d : decode cc pc = .ok (.laload, 1)) (q0 : Nat) (ha : wd[q0]? = some (a, aJ D n f)) (j : Nat) (hi : i = nI j) (hj : j < n) (hn : Nat.ble n 2147483647 = true) (k : V Z D kc ks wd lv (.long (f j) :: st) (pc + 1)) : V Z D kc ks wd lv (.int i :: .ref a :: st) pc := by
  obtain ⟨p, l, e, R, s, m, args, below, meth, c, A, nL, Q⟩ := Z
  obtain ⟨hx, hb, hml, rfl, rfl, hown, hts, hK, hA, hN, hlocks⟩ := E
  intro H locs ls hP hD hS hl
  obtain ⟨h1, h2⟩ := nI_inB hi hj hn
  refine va_lald hx hb hK hP q0 2 ha rfl h1 d ?_
  rw [h2]
  exact k H locs ls hP hD hS hl
theorem v_iast (E : EF Z D cc own rm n0) {a n : Nat} {f : Nat → Int32} {i : Int32} {x : Int32} (d : decode cc pc = .ok (.iastore, 1)) (q0 : Nat) (ha : wd[q0]? = some (a, aI D n f)) (j : Nat) (hi : i = nI j) (hj : j < n) (hn : Nat.ble n 2147483647 = true) (k : V Z D kc ks (wd.set q0 (a, aI D n (upd f j x))) lv st (pc + 1)) : V Z D kc ks wd lv (.int x :: .int i :: .ref a :: st) pc := by
  obtain ⟨p, l, e, R, s, m, args, below, meth, c, A, nL, Q⟩ := Z
  obtain ⟨hx, hb, hml, rfl, rfl, hown, hts, hK, hA, hN, hlocks⟩ := E
  intro H locs ls hP hD hS hl
  obtain ⟨h1, h2⟩ := nI_inB hi hj hn
  refine va_iast hx hb hK hP hD hS q0 0 ha rfl h1 d (fun H1 locs1 hP hD hS => ?_)
  rw [h2] at hP hD
  exact k H1 locs1 ls hP hD hS hl
theorem v_zast (E : EF Z D cc own rm n0) {a n : Nat} {f : Nat → Int32} {i : Int32} {x : Int32} (d : decode cc pc = .ok (.bastore, 1)) (q0 : Nat) (ha : wd[q0]? = some (a, aZ D n f)) (j : Nat) (hi : i = nI j) (hj : j < n) (hn : Nat.ble n 2147483647 = true) (k : V Z D kc ks (wd.set q0 (a, aZ D n (upd f j (vp_nar .boolean x)))) lv st (pc + 1)) : V Z D kc ks wd lv (.int x :: .int i :: .ref a :: st) pc := by
  obtain ⟨p, l, e, R, s, m, args, below, meth, c, A, nL, Q⟩ := Z
  obtain ⟨hx, hb, hml, rfl, rfl, hown, hts, hK, hA, hN, hlocks⟩ := E
  intro H locs ls hP hD hS hl
  obtain ⟨h1, h2⟩ := nI_inB hi hj hn
  refine va_zast hx hb hK hP hD hS q0 1 ha rfl h1 d (fun H1 locs1 hP hD hS => ?_)
  rw [h2] at hP hD
  exact k H1 locs1 ls hP hD hS hl
theorem v_last (E : EF Z D cc own rm n0) {a n : Nat} {f : Nat → Int64} {i : Int32} {x : Int64} (d : decode cc pc = .ok (.lastore, 1)) (q0 : Nat) (ha : wd[q0]? = some (a, aJ D n f)) (j : Nat) (hi : i = nI j) (hj : j < n) (hn : Nat.ble n 2147483647 = true) (k : V Z D kc ks (wd.set q0 (a, aJ D n (vp_updL f j x))) lv st (pc + 1)) : V Z D kc ks wd lv (.long x :: .int i :: .ref a :: st) pc := by
  obtain ⟨p, l, e, R, s, m, args, below, meth, c, A, nL, Q⟩ := Z
  obtain ⟨hx, hb, hml, rfl, rfl, hown, hts, hK, hA, hN, hlocks⟩ := E
  intro H locs ls hP hD hS hl
  obtain ⟨h1, h2⟩ := nI_inB hi hj hn
  refine va_last hx hb hK hP hD hS q0 2 ha rfl h1 d (fun H1 locs1 hP hD hS => ?_)
  rw [h2] at hP hD
  exact k H1 locs1 ls hP hD hS hl
theorem v_gald (E : EF Z D cc own rm n0) {a n : Nat} {f : Nat → Option Nat} {i : Int32} (d : decode cc pc = .ok (.aaload, 1)) (q0 : Nat) (ha : wd[q0]? = some (a, aG D n f)) (j : Nat) (hi : i = nI j) (hj : j < n) (hn : Nat.ble n 2147483647 = true) (k : V Z D kc ks wd lv (va_rf (f j) :: st) (pc + 1)) : V Z D kc ks wd lv (.int i :: .ref a :: st) pc := by
  obtain ⟨p, l, e, R, s, m, args, below, meth, c, A, nL, Q⟩ := Z
  obtain ⟨hx, hb, hml, rfl, rfl, hown, hts, hK, hA, hN, hlocks⟩ := E
  intro H locs ls hP hD hS hl
  obtain ⟨h1, h2⟩ := nI_inB hi hj hn
  have hlt : i.toNatClampNeg < n := by rw [h2]; exact hj
  refine W.aald (v := va_rf (f i.toNatClampNeg)) (ty := .array .int) hx hb (hP q0 _ ha) ((hK.2 3 (D.1 11, .array .int) rfl).1 n (fun j => va_rf (f j))) rfl (fun q => by cases q) (by show ¬ (i < 0 ∨ (arrV _ _ _).slots.size ≤ _); rw [arrV_size]; exact h1) (by show (arrV _ _ _).slots[_]? = _; rw [arrV_read _ _ hlt]) rfl rfl d ?_
  rw [h2]
  exact k H locs ls hP hD hS hl
theorem v_sald (E : EF Z D cc own rm n0) {a n : Nat} {f : Nat → Option Nat} {i : Int32} (d : decode cc pc = .ok (.aaload, 1)) (q0 : Nat) (ha : wd[q0]? = some (a, aS D n f)) (j : Nat) (hi : i = nI j) (hj : j < n) (hn : Nat.ble n 2147483647 = true) (k : V Z D kc ks wd lv (va_rf (f j) :: st) (pc + 1)) : V Z D kc ks wd lv (.int i :: .ref a :: st) pc := by
  obtain ⟨p, l, e, R, s, m, args, below, meth, c, A, nL, Q⟩ := Z
  obtain ⟨hx, hb, hml, rfl, rfl, hown, hts, hK, hA, hN, hlocks⟩ := E
  intro H locs ls hP hD hS hl
  obtain ⟨h1, h2⟩ := nI_inB hi hj hn
  refine va_aldq hx hb hK hP q0 4 ha rfl h1 d ?_
  rw [h2]
  exact k H locs ls hP hD hS hl
theorem v_sast (E : EF Z D cc own rm n0) {a n v : Nat} {f : Nat → Option Nat} {vs : List Value} {i : Int32} (d : decode cc pc = .ok (.aastore, 1)) (q0 : Nat) (ha : wd[q0]? = some (a, aS D n f)) (qk : Nat) (hv : wd[qk]? = some (v, .inr (4, vs))) (j : Nat) (hi : i = nI j) (hj : j < n) (hn : Nat.ble n 2147483647 = true) (k : V Z D kc ks (wd.set q0 (a, aS D n (va_up f j (some v)))) lv st (pc + 1)) : V Z D kc ks wd lv (.ref v :: .int i :: .ref a :: st) pc := by
  obtain ⟨p, l, e, R, s, m, args, below, meth, c, A, nL, Q⟩ := Z
  obtain ⟨hx, hb, hml, rfl, rfl, hown, hts, hK, hA, hN, hlocks⟩ := E
  intro H locs ls hP hD hS hl
  obtain ⟨h1, h2⟩ := nI_inB hi hj hn
  refine va_astq (r := (RX4, TX4, 3)) hx hb hK hP hD hS q0 4 qk 4 ha rfl hv rfl h1 d (fun H1 locs1 hP hD hS => ?_)
  rw [h2] at hP hD
  exact k H1 locs1 ls hP hD hS hl
theorem v_alen (E : EF Z D cc own rm n0) {a n : Nat} {f : Nat → Int32} {v : Int32} (d : decode cc pc = .ok (.arraylength, 1)) (q0 : Nat) (ha : wd[q0]? = some (a, aI D n f)) (hv : nI n = v) (k : V Z D kc ks wd lv (.int v :: st) (pc + 1)) : V Z D kc ks wd lv (.ref a :: st) pc := by
  obtain ⟨p, l, e, R, s, m, args, below, meth, c, A, nL, Q⟩ := Z
  obtain ⟨hx, hb, hml, rfl, rfl, hown, hts, hK, hA, hN, hlocks⟩ := E
  intro H locs ls hP hD hS hl
  exact va_alen hx hb hK hP q0 0 ha (ty := .int) rfl hv d (k H locs ls hP hD hS hl)
theorem v_get (E : EF Z D cc own rm n0) {a ci N index : Nat} {C : String} {T : u_T} {fs : List Value} {v : Value} (d : decode cc pc = .ok (.getfield index, 3)) (hc : clX[ci]? = some (C, T, N)) (hin : ∀ w ∈ u_ws C T N, w ∈ lwg) (q0 : Nat) (he : wd[q0]? = some (a, .inr (ci, fs))) (j : Nat) (hj : Nat.ble (j + 1) N = true) (hw : Cond.fieldLink own index (T j).1 (T j).2.1 (T j).2.2.1 ∈ lwg) (hv : fs[j]? = some v) (k : V Z D kc ks wd lv (v :: st) (pc + 3)) : V Z D kc ks wd lv (.ref a :: st) pc := by
  obtain ⟨p, l, e, R, s, m, args, below, meth, c, A, nL, Q⟩ := Z
  obtain ⟨hx, hb, hml, rfl, rfl, hown, hts, hK, hA, hN, hlocks⟩ := E
  intro H locs ls hP hD hS hl
  exact va_get hx hb hts hin hown hK hP q0 he hc j (Nat.le_of_ble_eq_true hj) (hts _ hw) (fun _ h9 => h9) hv d (k H locs ls hP hD hS hl)
theorem v_put (E : EF Z D cc own rm n0) {a ci N index : Nat} {C : String} {T : u_T} {fs : List Value} {v : Value} {ty : FieldType} (d : decode cc pc = .ok (.putfield index, 3)) (hc : clX[ci]? = some (C, T, N)) (hin : ∀ w ∈ u_ws C T N, w ∈ lwg) (ty0 : Nat → FieldType) (hty : ∀ k, k < N → parseFieldDescriptor (T k).2.2.1 = some (ty0 k)) (hnm : ∀ a, a < N → ∀ b, b < N → a ≠ b → (T a).2.1 ≠ (T b).2.1) (q0 : Nat) (he : wd[q0]? = some (a, .inr (ci, fs))) (j : Nat) (hj : Nat.ble (j + 1) N = true) (hw : Cond.fieldLink own index (T j).1 (T j).2.1 (T j).2.2.1 ∈ lwg) (hfin : (T j).2.2.2 = false) (ht : ty0 j = ty) (hn : narrow ty v = v) (hfit : fits ty v = true) (hl0 : Nat.ble (j + 1) fs.length = true) (k : V Z D kc ks (wd.set q0 (a, .inr (ci, fs.set j v))) lv st (pc + 3)) : V Z D kc ks wd lv (v :: .ref a :: st) pc := by
  obtain ⟨p, l, e, R, s, m, args, below, meth, c, A, nL, Q⟩ := Z
  obtain ⟨hx, hb, hml, rfl, rfl, hown, hts, hK, hA, hN, hlocks⟩ := E
  intro H locs ls hP hD hS hl
  exact va_put hx hb hts hin ty0 hty hnm hown hK hP hD hS q0 he hc j (Nat.le_of_ble_eq_true hj) (hts _ hw) (fun _ h9 => h9) hfin (by rw [← ht]; exact hty j (Nat.le_of_ble_eq_true hj)) hn hfit (Nat.le_of_ble_eq_true hl0) d (fun H1 locs1 hP hD hS => k H1 locs1 ls hP hD hS hl)
def InitZ (Z : BX) : Prop := match Z with
  | (p, l, e, R, s, m, args, below, meth, c, A, nL, Q) => meth.name = "<init>"
theorem v_putF (E : EF Z D cc own rm n0) (I : InitZ Z) {a ci N index : Nat} {C : String} {T : u_T} {fs : List Value} {v : Value} {ty : FieldType} (d : decode cc pc = .ok (.putfield index, 3)) (hc : clX[ci]? = some (C, T, N)) (hin : ∀ w ∈ u_ws C T N, w ∈ lwg) (ty0 : Nat → FieldType) (hty : ∀ k, k < N → parseFieldDescriptor (T k).2.2.1 = some (ty0 k)) (hnm : ∀ a, a < N → ∀ b, b < N → a ≠ b → (T a).2.1 ≠ (T b).2.1) (q0 : Nat) (he : wd[q0]? = some (a, .inr (ci, fs))) (j : Nat) (hj : Nat.ble (j + 1) N = true) (hw : Cond.fieldLink own index (T j).1 (T j).2.1 (T j).2.2.1 ∈ lwg) (hfin : (T j).2.2.2 = true) (hdc : (T j).1 = own) (ht : ty0 j = ty) (hn : narrow ty v = v) (hfit : fits ty v = true) (hl0 : Nat.ble (j + 1) fs.length = true) (k : V Z D kc ks (wd.set q0 (a, .inr (ci, fs.set j v))) lv st (pc + 3)) : V Z D kc ks wd lv (v :: .ref a :: st) pc := by
  obtain ⟨p, l, e, R, s, m, args, below, meth, c, A, nL, Q⟩ := Z
  obtain ⟨hx, hb, hml, rfl, rfl, hown, hts, hK, hA, hN, hlocks⟩ := E
  intro H locs ls hP hD hS hl
  exact va_putF hx hb hts hin ty0 hty hnm hown hK hP hD hS q0 he hc j (Nat.le_of_ble_eq_true hj) (hts _ hw) (fun _ h9 => h9) hfin I hdc (by rw [← ht]; exact hty j (Nat.le_of_ble_eq_true hj)) hn hfit (Nat.le_of_ble_eq_true hl0) d (fun H1 locs1 hP hD hS => k H1 locs1 ls hP hD hS hl)
theorem v_widen {c1 s1 : Nat} (h1 : kc ≤ c1) (h2 : ks ≤ s1) (k : V Z D c1 s1 wd lv st pc) : V Z D kc ks wd lv st pc := by
  obtain ⟨p, l, e, R, s, m, args, below, meth, c, A, nL, Q⟩ := Z
  intro H locs ls hP hD hS hl
  exact W.widen h1 h2 (k H locs ls hP hD hS hl)
theorem va_P.subm {D : va_G} {cl : List vw_C} {ws ws' : va_W} {H : Heap} (h : va_P D cl ws H) (is : List Nat) (hs : is.map (fun i => ws[i]?) = ws'.map some) : va_P D cl ws' H := by
  intro k q hk
  have h1 : (is.map (fun i => ws[i]?))[k]? = some (some q) := by rw [hs, List.getElem?_map, hk]; rfl
  rw [List.getElem?_map] at h1
  cases hi : is[k]? with
  | none => rw [hi] at h1; cases h1
  | some i => rw [hi] at h1; exact h i q (Option.some.inj h1)
theorem v_sub {wd' : va_W} (is : List Nat) (hn : va_nd is = true) (hs : is.map (fun i => wd[i]?) = wd'.map some) (k : V Z D kc ks wd' lv st pc) : V Z D kc ks wd lv st pc := by
  obtain ⟨p, l, e, R, s, m, args, below, meth, c, A, nL, Q⟩ := Z
  intro H locs ls hP hD hS hl
  exact k H locs ls (hP.subm is hs) (hD.sub is hn hs) hS hl
theorem v_lv {lv' : List (Option Value)} (h : ∀ (i : Nat) (v : Value), lv'[i]? = some (some v) → lv[i]? = some (some v)) (k : V Z D kc ks wd lv' st pc) : V Z D kc ks wd lv st pc := by
  obtain ⟨p, l, e, R, s, m, args, below, meth, c, A, nL, Q⟩ := Z
  intro H locs ls hP hD hS hl
  exact k H locs ls hP hD hS ⟨hl.1, hl.2.1, fun i v hi => hl.2.2 i v (h i v hi)⟩
theorem v_iret (E : EF Z D cc own rm n0) {S : Type} {post : Int32 → S → Prop} {W1 : S → va_W} {mc ms : Nat} {rt : Option FieldType} (F : RQ Z (QI D post W1) mc ms rt) {x : Int32} {ty : FieldType} (d : decode cc pc = .ok (.ireturn, 1)) (hrt : rt = some ty) (hnr : narrow ty (.int x) = .int x) (u : S) (hp : post x u) (hw : W1 u = wd) (h1 : kc ≤ mc) (h2 : ks ≤ ms) : V Z D kc ks wd lv [.int x] pc := by
  obtain ⟨p, l, e, R, s, m, args, below, meth, c, A, nL, Q⟩ := Z
  obtain ⟨hx, hb, hml, rfl, rfl, hown, hts, hK, hA, hN, hlocks⟩ := E
  obtain ⟨rfl, hr, -⟩ := F
  intro H locs ls hP hD hS hl
  subst hw
  refine W.widen h1 h2 ?_
  exact W.zret hx hb (hr.trans hrt) hnr (fun t ht hW => ⟨⟨x, u, rfl, hp, by rw [ht]; exact hP, hD⟩, hS.F ht⟩) hS.2.2 d hlocks
theorem v_lret (E : EF Z D cc own rm n0) {S : Type} {post : Int64 → S → Prop} {W1 : S → va_W} {mc ms : Nat} {rt : Option FieldType} (F : RQ Z (QL D post W1) mc ms rt) {x : Int64} (d : decode cc pc = .ok (.lreturn, 1)) (hrt : rt = some .long) (u : S) (hp : post x u) (hw : W1 u = wd) (h1 : kc ≤ mc) (h2 : ks ≤ ms) : V Z D kc ks wd lv [.long x] pc := by
  obtain ⟨p, l, e, R, s, m, args, below, meth, c, A, nL, Q⟩ := Z
  obtain ⟨hx, hb, hml, rfl, rfl, hown, hts, hK, hA, hN, hlocks⟩ := E
  obtain ⟨rfl, hr, -⟩ := F
  intro H locs ls hP hD hS hl
  subst hw
  refine W.widen h1 h2 ?_
  exact W.lret hx hb (hr.trans hrt) (fun t ht hW => ⟨⟨x, u, rfl, hp, by rw [ht]; exact hP, hD⟩, hS.F ht⟩) hS.2.2 d hlocks
theorem v_vret (E : EF Z D cc own rm n0) {S : Type} {post : S → Prop} {W1 : S → va_W} {mc ms : Nat} {rt : Option FieldType} (F : RQ Z (QV D post W1) mc ms rt) (d : decode cc pc = .ok (.return_, 1)) (hrt : rt = none) (u : S) (hp : post u) (hw : W1 u = wd) (h1 : kc ≤ mc) (h2 : ks ≤ ms) : V Z D kc ks wd lv [] pc := by
  obtain ⟨p, l, e, R, s, m, args, below, meth, c, A, nL, Q⟩ := Z
  obtain ⟨hx, hb, hml, rfl, rfl, hown, hts, hK, hA, hN, hlocks⟩ := E
  obtain ⟨rfl, hr, -⟩ := F
  intro H locs ls hP hD hS hl
  subst hw
  refine W.widen h1 h2 ?_
  exact W.vret hx hb (hr.trans hrt) (fun t ht hW => ⟨⟨u, rfl, hp, by rw [ht]; exact hP, hD⟩, hS.F ht⟩) hS.2.2 d hlocks
end VROWS
end
section
/-! CALLS: in place (RO: the callee leaves its world as it was; UP: the callee's world comes back at the same addresses; GN: with new cells) -/
def upW : va_W → List Nat → va_W → va_W
  | w, i :: is, x :: xs => upW (w.set i x) is xs
  | w, _, _ => w
theorem upW_get : ∀ (is : List Nat) (xs : va_W) (w : va_W) (k : Nat) (q : Nat × va_E), is.length = xs.length → (upW w is xs)[k]? = some q → q ∈ xs ∨ (w[k]? = some q ∧ k ∉ is)
  | [], [], w, k, q, _, h => Or.inr ⟨h, by simp⟩
  | [], x :: xs, w, k, q, hl, h => by simp at hl
  | i :: is, [], w, k, q, hl, h => by simp at hl
  | i :: is, x :: xs, w, k, q, hl, h => by
    have ih := upW_get is xs (w.set i x) k q (by simpa using hl) h
    rcases ih with h1 | ⟨h1, h2⟩
    · exact Or.inl (List.mem_cons_of_mem _ h1)
    · rw [List.getElem?_set] at h1
      by_cases e : i = k
      · rw [if_pos e] at h1
        split at h1
        · cases h1
          exact Or.inl List.mem_cons_self
        · cases h1
      · rw [if_neg e] at h1
        exact Or.inr ⟨h1, by simp [h2, Ne.symm e]⟩
theorem upW_fst : ∀ (is : List Nat) (xs : va_W) (w : va_W), is.map (fun i => (w.map Prod.fst)[i]?) = xs.map (fun x => some x.1) → (upW w is xs).map Prod.fst = w.map Prod.fst
  | [], [], w, _ => rfl
  | [], x :: xs, w, h => rfl
  | i :: is, [], w, h => rfl
  | i :: is, x :: xs, w, h => by
    simp only [List.map_cons, List.cons.injEq] at h
    have e : (w.set i x).map Prod.fst = w.map Prod.fst := by
      apply List.ext_getElem?
      intro j
      rw [List.map_set, List.getElem?_set]
      by_cases e : i = j
      · subst e
        rw [if_pos rfl]
        split
        · exact h.1.symm
        · rename_i hh
          rw [List.getElem?_eq_none (by omega)]
      · rw [if_neg e]
    have ih := upW_fst is xs (w.set i x) (by rw [e]; exact h.2)
    show (upW (w.set i x) is xs).map Prod.fst = _
    rw [ih, e]
theorem va_D.fst {A : Nat → Prop} {w w' : va_W} (h : va_D A w) (e : w'.map Prod.fst = w.map Prod.fst) : va_D A w' := by
  have at' : ∀ (k : Nat) (q : Nat × va_E), w'[k]? = some q → ∃ q2 : Nat × va_E, w[k]? = some q2 ∧ q2.1 = q.1 := by
    intro k q hq
    have h1 : (w'.map Prod.fst)[k]? = some q.1 := by rw [List.getElem?_map, hq]; rfl
    rw [e, List.getElem?_map] at h1
    cases hw : w[k]? with
    | none => rw [hw] at h1; cases h1
    | some q2 => rw [hw] at h1; exact ⟨q2, rfl, Option.some.inj h1⟩
  refine ⟨fun i j p q hi hj hpq => ?_, fun k q hk => ?_⟩
  · obtain ⟨p2, a1, a2⟩ := at' i p hi
    obtain ⟨q2, b1, b2⟩ := at' j q hj
    exact h.1 i j p2 q2 a1 b1 (by rw [a2, b2, hpq])
  · obtain ⟨q2, b1, b2⟩ := at' k q hk
    rw [← b2]
    exact h.2 k q2 b1
theorem va_atC {ws wc : va_W} {isC : List Nat} (hC : isC.map (fun i => ws[i]?) = wc.map some) (k : Nat) (q : Nat × va_E) (hq : wc[k]? = some q) : ∃ i, isC[k]? = some i ∧ ws[i]? = some q := by
  have h1 : (isC.map (fun i => ws[i]?))[k]? = some (some q) := by rw [hC, List.getElem?_map, hq]; rfl
  rw [List.getElem?_map] at h1
  cases hi : isC[k]? with
  | none => rw [hi] at h1; cases h1
  | some i => rw [hi] at h1; exact ⟨i, rfl, Option.some.inj h1⟩
theorem va_ro {A0 : Nat → Prop} {D : va_G} {cl : List vw_C} {ws wc : va_W} {H H1 : Heap} (hP : va_P D cl ws H) (hD : va_D A0 ws) (isC : List Nat) (hC : isC.map (fun i => ws[i]?) = wc.map some) (hk : ∀ q : Nat, q < H.size → ¬ va_A wc H.size q → H1[q]? = H[q]?) (hP1 : va_P D cl wc H1) : va_P D cl ws H1 := by
  intro k q hq
  have hlt := (hP k q hq).lt
  by_cases h : va_A wc H.size q.1
  · rcases h with ⟨k2, e, h⟩ | h
    · obtain ⟨i, h3, h4⟩ := va_atC hC k2 (q.1, e) h
      have hik := hD.1 k i q (q.1, e) hq h4 rfl
      subst hik
      have : q = (q.1, e) := Option.some.inj (hq.symm.trans h4)
      rw [this]
      exact hP1 k2 _ h
    · omega
  · exact (hP k q hq).kept (hk q.1 hlt h)
theorem va_upP {A0 : Nat → Prop} {D : va_G} {cl : List vw_C} {ws wc w1 : va_W} {H H1 : Heap} (hP : va_P D cl ws H) (hD : va_D A0 ws) (isC : List Nat) (hC : isC.map (fun i => ws[i]?) = wc.map some) (he : w1.map Prod.fst = wc.map Prod.fst) (hk : ∀ q : Nat, q < H.size → ¬ va_A wc H.size q → H1[q]? = H[q]?) (hP1 : va_P D cl w1 H1) : va_P D cl (upW ws isC w1) H1 ∧ va_D A0 (upW ws isC w1) := by
  have hlen : isC.length = wc.length := by simpa using congrArg List.length hC
  have hlen1 : w1.length = wc.length := by simpa using congrArg List.length he
  refine ⟨fun k q hq => ?_, hD.fst (upW_fst isC w1 ws ?_)⟩
  · rcases upW_get isC w1 ws k q (by omega) hq with h | ⟨h1, h2⟩
    · obtain ⟨j, hj⟩ := List.getElem?_of_mem h
      exact hP1 j q hj
    · have hlt := (hP k q h1).lt
      refine (hP k q h1).kept (hk q.1 hlt fun h => ?_)
      rcases h with ⟨k2, e, h⟩ | h
      · obtain ⟨i, h3, h4⟩ := va_atC hC k2 (q.1, e) h
        have hik := hD.1 k i q (q.1, e) h1 h4 rfl
        subst hik
        exact h2 (List.mem_of_getElem? h3)
      · omega
  · apply List.ext_getElem?
    intro k
    rw [List.getElem?_map, List.getElem?_map]
    have e2 : (w1.map Prod.fst)[k]? = (wc.map Prod.fst)[k]? := by rw [he]
    rw [List.getElem?_map, List.getElem?_map] at e2
    cases hc : wc[k]? with
    | none =>
      rw [hc] at e2
      have : isC[k]? = none := List.getElem?_eq_none (by have := List.getElem?_eq_none_iff.mp hc; omega)
      rw [this]
      cases hw : w1[k]? with
      | none => rfl
      | some z => rw [hw] at e2; cases e2
    | some z =>
      obtain ⟨i, h3, h4⟩ := va_atC hC k z hc
      rw [hc] at e2
      cases hw : w1[k]? with
      | none => rw [hw] at e2; cases e2
      | some z1 =>
        rw [hw] at e2
        rw [h3]
        simp only [Option.map_some, List.getElem?_map, h4]
        exact congrArg some e2.symm
def hdK (y : MethodName) (k : Nat) : Prop := y.cls ≠ "java/lang/invoke/MethodHandle" ∧ y.cls ≠ "java/lang/invoke/VarHandle" ∧ (parseMethodDescriptor y.desc).map (fun d => d.parameters.length) = some k
def CSok (own : String) (idx : Nat) (y : MethodName) (b : ByteArray) (n : Nat) (rt : Option FieldType) (k : Nat) : Prop := Cond.methodLink own idx y ∈ lwg ∧ Cond.static y ∈ lwg ∧ Cond.initialized y.cls ∈ lwg ∧ Cond.code y b n rt ∈ lwg ∧ hdK y k
def CNok (own : String) (idx : Nat) (y : MethodName) (b : ByteArray) (n : Nat) (rt : Option FieldType) (k : Nat) : Prop := (own, idx, y, "ChangeImpact") ∈ lwn ∧ Cond.static y ∈ lwg ∧ Cond.initialized y.cls ∈ lwg ∧ Cond.code y b n rt ∈ lwg ∧ hdK y k
def CVok (own : String) (idx : Nat) (C : String) (y : MethodName) (b : ByteArray) (n : Nat) (rt : Option FieldType) (k : Nat) : Prop := Cond.methodLink own idx y ∈ lwg ∧ (Cond.instanceMethod y ∈ lwg ∧ Cond.selects C y y ∈ lwg) ∧ Cond.initialized y.cls ∈ lwg ∧ Cond.code y b n rt ∈ lwg ∧ hdK y k
def CIok (own : String) (idx : Nat) (y : MethodName) (b : ByteArray) (n : Nat) (k : Nat) : Prop := Cond.methodLink own idx y ∈ lwg ∧ (y.name = "<init>" ∧ Cond.instanceMethod y ∈ lwg) ∧ Cond.initialized y.cls ∈ lwg ∧ Cond.code y b n none ∈ lwg ∧ hdK y k
def CJok (own : String) (idx : Nat) (y : MethodName) (b : ByteArray) (n : Nat) (k : Nat) : Prop := (own, idx, y, "ChangeImpact") ∈ lwn ∧ (y.name = "<init>" ∧ Cond.instanceMethod y ∈ lwg) ∧ Cond.initialized y.cls ∈ lwg ∧ Cond.code y b n none ∈ lwg ∧ hdK y k
def okR (r1 : Room) (n : Nat) (r : Room) : Bool := Nat.ble (r1.frames + 1) r.frames && Nat.ble (8 + (n + 11) + r1.locals) r.locals
theorem okR_use {r1 r : Room} {n : Nat} (h : okR r1 n r = true) : r1.frames + 1 ≤ r.frames ∧ 8 + (n + 11) + r1.locals ≤ r.locals := by
  simp only [okR, Bool.and_eq_true] at h
  exact ⟨Nat.le_of_ble_eq_true h.1, Nat.le_of_ble_eq_true h.2⟩
theorem pw_blind {D : va_G} {W0 : va_W} {sz : Nat} {as : List Value} : FrameBlind (va_Pc as (PW D W0 sz)) := fun a U g mk q => by
  obtain ⟨q0, q1, qP, qK, qD, qN⟩ := q
  exact ⟨q0, q1, qP, va_K.moved (u := U) (U := U.calling g mk a) (Vm.Alike.refl U.vm) qK, qD, qN.calling⟩
section VCALLS
variable {Z : BX} {D : va_G} {kc ks : Nat} {wd : va_W} {lv : List (Option Value)} {st rest : List Value} {pc : Nat} {cc : ByteArray} {own : String} {rm : Room} {n0 : Nat}

theorem v_cS_i (E : EF Z D cc own rm n0) {y : MethodName} {b : ByteArray} {n idx ka : Nat} {rt : Option FieldType} {rm1 : Room} {As : List Value} {W0 : va_W} {r : Int32} (d : decode cc pc = .ok (.invokestatic idx, 3)) (Cc : ∀ l, Ct l y b n rt rm1 D As W0 (QI1 D r W0)) (ok : CSok own idx y b n rt ka) (hn : As.length = ka) (hst : As.reverse ++ rest = st) (hrm : okR rm1 n rm = true) (hcr : (rest.map fun v => v.category).sum ≤ 8) (isC : List Nat) (hnd : va_nd isC = true) (hC : isC.map (fun i => wd[i]?) = W0.map some) (hcs : kc + rm1.cells ≤ rm.cells ∧ ks + rm1.slots ≤ rm.slots) (k : V Z D (kc + rm1.cells) (ks + rm1.slots) wd lv (.int r :: rest) (pc + 3)) : V Z D kc ks wd lv st pc := by
  obtain ⟨p, l, e, R, s, m, args, below, meth, c, A, nL, Q⟩ := Z
  obtain ⟨hx, hb, hml, rfl, rfl, hown, hts, hK, hA, hN, hlocks⟩ := E
  subst hst
  intro H locs ls hP hD hS hl
  have hFc := va_free (wc := W0) hD hS hA isC hC
  have hPc := hP.subm isC hC
  have hDc := hD.sub isC hnd hC
  refine va_calli (va_runS (As := As) (rest := rest) (g := F0 m pc ls (As.reverse ++ rest)) ⟨hx, hb, hml, hown, hts⟩ (Cc l H.size) ⟨callB_of ka hts (lwg_inT ok.2.2.2.1) rfl rfl rfl (hts _ ok.2.2.1) (hts _ ok.1) ok.2.2.2.2 (okR_use hrm), hts _ ok.2.1⟩ ⟨pw_blind, fun U hU hW => ⟨rfl, by rw [hU], by rw [hU]; exact hPc, va_K.moved hW.alike hK, hDc.weaken (fun _ _ _ _ => trivial), hN.warm hW⟩⟩ rfl hn hl.1 rfl (lv_room hcr) d hcs) hS (fun q _ h => hFc q h) hFc (fun r0 u t H1 locs1 ht hvm hw hB hz1 hk1 hS => ?_)
  obtain rfl : r0 = r := hw
  obtain ⟨hP1, -⟩ := hB
  rw [ht] at hP1
  exact k H1 locs1 ls (va_ro hP hD isC hC hk1 hP1) hD hS hl
theorem v_cS_iU (E : EF Z D cc own rm n0) {y : MethodName} {b : ByteArray} {n idx ka : Nat} {rt : Option FieldType} {rm1 : Room} {As : List Value} {W0 : va_W} {r : Int32} {W1 : va_W} (d : decode cc pc = .ok (.invokestatic idx, 3)) (Cc : ∀ l, Ct l y b n rt rm1 D As W0 (QI1 D r W1)) (ok : CSok own idx y b n rt ka) (hn : As.length = ka) (hst : As.reverse ++ rest = st) (hrm : okR rm1 n rm = true) (hcr : (rest.map fun v => v.category).sum ≤ 8) (isC : List Nat) (hnd : va_nd isC = true) (hC : isC.map (fun i => wd[i]?) = W0.map some) (hcs : kc + rm1.cells ≤ rm.cells ∧ ks + rm1.slots ≤ rm.slots) (La : List Nat) (hf1 : W1.map Prod.fst = La) (hf0 : W0.map Prod.fst = La) (k : V Z D (kc + rm1.cells) (ks + rm1.slots) (upW wd isC W1) lv (.int r :: rest) (pc + 3)) : V Z D kc ks wd lv st pc := by
  obtain ⟨p, l, e, R, s, m, args, below, meth, c, A, nL, Q⟩ := Z
  obtain ⟨hx, hb, hml, rfl, rfl, hown, hts, hK, hA, hN, hlocks⟩ := E
  subst hst
  intro H locs ls hP hD hS hl
  have hFc := va_free (wc := W0) hD hS hA isC hC
  have hPc := hP.subm isC hC
  have hDc := hD.sub isC hnd hC
  refine va_calli (va_runS (As := As) (rest := rest) (g := F0 m pc ls (As.reverse ++ rest)) ⟨hx, hb, hml, hown, hts⟩ (Cc l H.size) ⟨callB_of ka hts (lwg_inT ok.2.2.2.1) rfl rfl rfl (hts _ ok.2.2.1) (hts _ ok.1) ok.2.2.2.2 (okR_use hrm), hts _ ok.2.1⟩ ⟨pw_blind, fun U hU hW => ⟨rfl, by rw [hU], by rw [hU]; exact hPc, va_K.moved hW.alike hK, hDc.weaken (fun _ _ _ _ => trivial), hN.warm hW⟩⟩ rfl hn hl.1 rfl (lv_room hcr) d hcs) hS (fun q _ h => hFc q h) hFc (fun r0 u t H1 locs1 ht hvm hw hB hz1 hk1 hS => ?_)
  obtain rfl : r0 = r := hw
  obtain ⟨hP1, -⟩ := hB
  rw [ht] at hP1
  obtain ⟨h1, h2⟩ := va_upP hP hD isC hC (hf1.trans hf0.symm) hk1 hP1
  exact k H1 locs1 ls h1 h2 hS hl
theorem v_cS_l (E : EF Z D cc own rm n0) {y : MethodName} {b : ByteArray} {n idx ka : Nat} {rt : Option FieldType} {rm1 : Room} {As : List Value} {W0 : va_W} {r : Int64} (d : decode cc pc = .ok (.invokestatic idx, 3)) (Cc : ∀ l, Ct l y b n rt rm1 D As W0 (QL1 D r W0)) (ok : CSok own idx y b n rt ka) (hn : As.length = ka) (hst : As.reverse ++ rest = st) (hrm : okR rm1 n rm = true) (hcr : (rest.map fun v => v.category).sum ≤ 8) (isC : List Nat) (hnd : va_nd isC = true) (hC : isC.map (fun i => wd[i]?) = W0.map some) (hcs : kc + rm1.cells ≤ rm.cells ∧ ks + rm1.slots ≤ rm.slots) (k : V Z D (kc + rm1.cells) (ks + rm1.slots) wd lv (.long r :: rest) (pc + 3)) : V Z D kc ks wd lv st pc := by
  obtain ⟨p, l, e, R, s, m, args, below, meth, c, A, nL, Q⟩ := Z
  obtain ⟨hx, hb, hml, rfl, rfl, hown, hts, hK, hA, hN, hlocks⟩ := E
  subst hst
  intro H locs ls hP hD hS hl
  have hFc := va_free (wc := W0) hD hS hA isC hC
  have hPc := hP.subm isC hC
  have hDc := hD.sub isC hnd hC
  refine va_calll (va_runS (As := As) (rest := rest) (g := F0 m pc ls (As.reverse ++ rest)) ⟨hx, hb, hml, hown, hts⟩ (Cc l H.size) ⟨callB_of ka hts (lwg_inT ok.2.2.2.1) rfl rfl rfl (hts _ ok.2.2.1) (hts _ ok.1) ok.2.2.2.2 (okR_use hrm), hts _ ok.2.1⟩ ⟨pw_blind, fun U hU hW => ⟨rfl, by rw [hU], by rw [hU]; exact hPc, va_K.moved hW.alike hK, hDc.weaken (fun _ _ _ _ => trivial), hN.warm hW⟩⟩ rfl hn hl.1 rfl (lv_room hcr) d hcs) hS (fun q _ h => hFc q h) hFc (fun r0 u t H1 locs1 ht hvm hw hB hz1 hk1 hS => ?_)
  obtain rfl : r0 = r := hw
  obtain ⟨hP1, -⟩ := hB
  rw [ht] at hP1
  exact k H1 locs1 ls (va_ro hP hD isC hC hk1 hP1) hD hS hl
theorem v_cS_lU (E : EF Z D cc own rm n0) {y : MethodName} {b : ByteArray} {n idx ka : Nat} {rt : Option FieldType} {rm1 : Room} {As : List Value} {W0 : va_W} {r : Int64} {W1 : va_W} (d : decode cc pc = .ok (.invokestatic idx, 3)) (Cc : ∀ l, Ct l y b n rt rm1 D As W0 (QL1 D r W1)) (ok : CSok own idx y b n rt ka) (hn : As.length = ka) (hst : As.reverse ++ rest = st) (hrm : okR rm1 n rm = true) (hcr : (rest.map fun v => v.category).sum ≤ 8) (isC : List Nat) (hnd : va_nd isC = true) (hC : isC.map (fun i => wd[i]?) = W0.map some) (hcs : kc + rm1.cells ≤ rm.cells ∧ ks + rm1.slots ≤ rm.slots) (La : List Nat) (hf1 : W1.map Prod.fst = La) (hf0 : W0.map Prod.fst = La) (k : V Z D (kc + rm1.cells) (ks + rm1.slots) (upW wd isC W1) lv (.long r :: rest) (pc + 3)) : V Z D kc ks wd lv st pc := by
  obtain ⟨p, l, e, R, s, m, args, below, meth, c, A, nL, Q⟩ := Z
  obtain ⟨hx, hb, hml, rfl, rfl, hown, hts, hK, hA, hN, hlocks⟩ := E
  subst hst
  intro H locs ls hP hD hS hl
  have hFc := va_free (wc := W0) hD hS hA isC hC
  have hPc := hP.subm isC hC
  have hDc := hD.sub isC hnd hC
  refine va_calll (va_runS (As := As) (rest := rest) (g := F0 m pc ls (As.reverse ++ rest)) ⟨hx, hb, hml, hown, hts⟩ (Cc l H.size) ⟨callB_of ka hts (lwg_inT ok.2.2.2.1) rfl rfl rfl (hts _ ok.2.2.1) (hts _ ok.1) ok.2.2.2.2 (okR_use hrm), hts _ ok.2.1⟩ ⟨pw_blind, fun U hU hW => ⟨rfl, by rw [hU], by rw [hU]; exact hPc, va_K.moved hW.alike hK, hDc.weaken (fun _ _ _ _ => trivial), hN.warm hW⟩⟩ rfl hn hl.1 rfl (lv_room hcr) d hcs) hS (fun q _ h => hFc q h) hFc (fun r0 u t H1 locs1 ht hvm hw hB hz1 hk1 hS => ?_)
  obtain rfl : r0 = r := hw
  obtain ⟨hP1, -⟩ := hB
  rw [ht] at hP1
  obtain ⟨h1, h2⟩ := va_upP hP hD isC hC (hf1.trans hf0.symm) hk1 hP1
  exact k H1 locs1 ls h1 h2 hS hl
theorem v_cS_v (E : EF Z D cc own rm n0) {y : MethodName} {b : ByteArray} {n idx ka : Nat} {rt : Option FieldType} {rm1 : Room} {As : List Value} {W0 : va_W} (d : decode cc pc = .ok (.invokestatic idx, 3)) (Cc : ∀ l, Ct l y b n rt rm1 D As W0 (QV1 D W0)) (ok : CSok own idx y b n rt ka) (hn : As.length = ka) (hst : As.reverse ++ rest = st) (hrm : okR rm1 n rm = true) (hcr : (rest.map fun v => v.category).sum ≤ 8) (isC : List Nat) (hnd : va_nd isC = true) (hC : isC.map (fun i => wd[i]?) = W0.map some) (hcs : kc + rm1.cells ≤ rm.cells ∧ ks + rm1.slots ≤ rm.slots) (k : V Z D (kc + rm1.cells) (ks + rm1.slots) wd lv rest (pc + 3)) : V Z D kc ks wd lv st pc := by
  obtain ⟨p, l, e, R, s, m, args, below, meth, c, A, nL, Q⟩ := Z
  obtain ⟨hx, hb, hml, rfl, rfl, hown, hts, hK, hA, hN, hlocks⟩ := E
  subst hst
  intro H locs ls hP hD hS hl
  have hFc := va_free (wc := W0) hD hS hA isC hC
  have hPc := hP.subm isC hC
  have hDc := hD.sub isC hnd hC
  refine va_callv (va_runS (As := As) (rest := rest) (g := F0 m pc ls (As.reverse ++ rest)) ⟨hx, hb, hml, hown, hts⟩ (Cc l H.size) ⟨callB_of ka hts (lwg_inT ok.2.2.2.1) rfl rfl rfl (hts _ ok.2.2.1) (hts _ ok.1) ok.2.2.2.2 (okR_use hrm), hts _ ok.2.1⟩ ⟨pw_blind, fun U hU hW => ⟨rfl, by rw [hU], by rw [hU]; exact hPc, va_K.moved hW.alike hK, hDc.weaken (fun _ _ _ _ => trivial), hN.warm hW⟩⟩ rfl hn hl.1 rfl (lv_room hcr) d hcs) hS (fun q _ h => hFc q h) hFc (fun u t H1 locs1 ht hvm hw hB hz1 hk1 hS => ?_)
  obtain ⟨hP1, -⟩ := hB
  rw [ht] at hP1
  exact k H1 locs1 ls (va_ro hP hD isC hC hk1 hP1) hD hS hl
theorem v_cS_vU (E : EF Z D cc own rm n0) {y : MethodName} {b : ByteArray} {n idx ka : Nat} {rt : Option FieldType} {rm1 : Room} {As : List Value} {W0 : va_W} {W1 : va_W} (d : decode cc pc = .ok (.invokestatic idx, 3)) (Cc : ∀ l, Ct l y b n rt rm1 D As W0 (QV1 D W1)) (ok : CSok own idx y b n rt ka) (hn : As.length = ka) (hst : As.reverse ++ rest = st) (hrm : okR rm1 n rm = true) (hcr : (rest.map fun v => v.category).sum ≤ 8) (isC : List Nat) (hnd : va_nd isC = true) (hC : isC.map (fun i => wd[i]?) = W0.map some) (hcs : kc + rm1.cells ≤ rm.cells ∧ ks + rm1.slots ≤ rm.slots) (La : List Nat) (hf1 : W1.map Prod.fst = La) (hf0 : W0.map Prod.fst = La) (k : V Z D (kc + rm1.cells) (ks + rm1.slots) (upW wd isC W1) lv rest (pc + 3)) : V Z D kc ks wd lv st pc := by
  obtain ⟨p, l, e, R, s, m, args, below, meth, c, A, nL, Q⟩ := Z
  obtain ⟨hx, hb, hml, rfl, rfl, hown, hts, hK, hA, hN, hlocks⟩ := E
  subst hst
  intro H locs ls hP hD hS hl
  have hFc := va_free (wc := W0) hD hS hA isC hC
  have hPc := hP.subm isC hC
  have hDc := hD.sub isC hnd hC
  refine va_callv (va_runS (As := As) (rest := rest) (g := F0 m pc ls (As.reverse ++ rest)) ⟨hx, hb, hml, hown, hts⟩ (Cc l H.size) ⟨callB_of ka hts (lwg_inT ok.2.2.2.1) rfl rfl rfl (hts _ ok.2.2.1) (hts _ ok.1) ok.2.2.2.2 (okR_use hrm), hts _ ok.2.1⟩ ⟨pw_blind, fun U hU hW => ⟨rfl, by rw [hU], by rw [hU]; exact hPc, va_K.moved hW.alike hK, hDc.weaken (fun _ _ _ _ => trivial), hN.warm hW⟩⟩ rfl hn hl.1 rfl (lv_room hcr) d hcs) hS (fun q _ h => hFc q h) hFc (fun u t H1 locs1 ht hvm hw hB hz1 hk1 hS => ?_)
  obtain ⟨hP1, -⟩ := hB
  rw [ht] at hP1
  obtain ⟨h1, h2⟩ := va_upP hP hD isC hC (hf1.trans hf0.symm) hk1 hP1
  exact k H1 locs1 ls h1 h2 hS hl
theorem v_cN_i (E : EF Z D cc own rm n0) {y : MethodName} {b : ByteArray} {n idx ka : Nat} {rt : Option FieldType} {rm1 : Room} {As : List Value} {W0 : va_W} {r : Int32} (d : decode cc pc = .ok (.invokestatic idx, 3)) (Cc : ∀ l, Ct l y b n rt rm1 D As W0 (QI1 D r W0)) (ok : CNok own idx y b n rt ka) (hn : As.length = ka) (hst : As.reverse ++ rest = st) (hrm : okR rm1 n rm = true) (hcr : (rest.map fun v => v.category).sum ≤ 8) (isC : List Nat) (hnd : va_nd isC = true) (hC : isC.map (fun i => wd[i]?) = W0.map some) (hcs : kc + rm1.cells ≤ rm.cells ∧ ks + rm1.slots ≤ rm.slots) (k : V Z D (kc + rm1.cells) (ks + rm1.slots) wd lv (.int r :: rest) (pc + 3)) : V Z D kc ks wd lv st pc := by
  obtain ⟨p, l, e, R, s, m, args, below, meth, c, A, nL, Q⟩ := Z
  obtain ⟨hx, hb, hml, rfl, rfl, hown, hts, hK, hA, hN, hlocks⟩ := E
  subst hst
  intro H locs ls hP hD hS hl
  have hFc := va_free (wc := W0) hD hS hA isC hC
  have hPc := hP.subm isC hC
  have hDc := hD.sub isC hnd hC
  refine va_calli (va_runSN (As := As) (rest := rest) (g := F0 m pc ls (As.reverse ++ rest)) ⟨hx, hb, hml, hown, hts⟩ (Cc l H.size) ⟨va_cnB ka hts (lwg_inT ok.2.2.2.1) rfl rfl rfl (hN.1 _ ok.1) (hts _ ok.2.2.1) ok.2.2.2.2 (okR_use hrm), hts _ ok.2.1, trivial⟩ ⟨pw_blind, fun U hU hW => ⟨rfl, by rw [hU], by rw [hU]; exact hPc, va_K.moved hW.alike hK, hDc.weaken (fun _ _ _ _ => trivial), hN.warm hW⟩⟩ rfl hn hl.1 rfl (lv_room hcr) d hcs) hS (fun q _ h => hFc q h) hFc (fun r0 u t H1 locs1 ht hvm hw hB hz1 hk1 hS => ?_)
  obtain rfl : r0 = r := hw
  obtain ⟨hP1, -⟩ := hB
  rw [ht] at hP1
  exact k H1 locs1 ls (va_ro hP hD isC hC hk1 hP1) hD hS hl
theorem v_cN_iU (E : EF Z D cc own rm n0) {y : MethodName} {b : ByteArray} {n idx ka : Nat} {rt : Option FieldType} {rm1 : Room} {As : List Value} {W0 : va_W} {r : Int32} {W1 : va_W} (d : decode cc pc = .ok (.invokestatic idx, 3)) (Cc : ∀ l, Ct l y b n rt rm1 D As W0 (QI1 D r W1)) (ok : CNok own idx y b n rt ka) (hn : As.length = ka) (hst : As.reverse ++ rest = st) (hrm : okR rm1 n rm = true) (hcr : (rest.map fun v => v.category).sum ≤ 8) (isC : List Nat) (hnd : va_nd isC = true) (hC : isC.map (fun i => wd[i]?) = W0.map some) (hcs : kc + rm1.cells ≤ rm.cells ∧ ks + rm1.slots ≤ rm.slots) (La : List Nat) (hf1 : W1.map Prod.fst = La) (hf0 : W0.map Prod.fst = La) (k : V Z D (kc + rm1.cells) (ks + rm1.slots) (upW wd isC W1) lv (.int r :: rest) (pc + 3)) : V Z D kc ks wd lv st pc := by
  obtain ⟨p, l, e, R, s, m, args, below, meth, c, A, nL, Q⟩ := Z
  obtain ⟨hx, hb, hml, rfl, rfl, hown, hts, hK, hA, hN, hlocks⟩ := E
  subst hst
  intro H locs ls hP hD hS hl
  have hFc := va_free (wc := W0) hD hS hA isC hC
  have hPc := hP.subm isC hC
  have hDc := hD.sub isC hnd hC
  refine va_calli (va_runSN (As := As) (rest := rest) (g := F0 m pc ls (As.reverse ++ rest)) ⟨hx, hb, hml, hown, hts⟩ (Cc l H.size) ⟨va_cnB ka hts (lwg_inT ok.2.2.2.1) rfl rfl rfl (hN.1 _ ok.1) (hts _ ok.2.2.1) ok.2.2.2.2 (okR_use hrm), hts _ ok.2.1, trivial⟩ ⟨pw_blind, fun U hU hW => ⟨rfl, by rw [hU], by rw [hU]; exact hPc, va_K.moved hW.alike hK, hDc.weaken (fun _ _ _ _ => trivial), hN.warm hW⟩⟩ rfl hn hl.1 rfl (lv_room hcr) d hcs) hS (fun q _ h => hFc q h) hFc (fun r0 u t H1 locs1 ht hvm hw hB hz1 hk1 hS => ?_)
  obtain rfl : r0 = r := hw
  obtain ⟨hP1, -⟩ := hB
  rw [ht] at hP1
  obtain ⟨h1, h2⟩ := va_upP hP hD isC hC (hf1.trans hf0.symm) hk1 hP1
  exact k H1 locs1 ls h1 h2 hS hl
theorem v_cN_l (E : EF Z D cc own rm n0) {y : MethodName} {b : ByteArray} {n idx ka : Nat} {rt : Option FieldType} {rm1 : Room} {As : List Value} {W0 : va_W} {r : Int64} (d : decode cc pc = .ok (.invokestatic idx, 3)) (Cc : ∀ l, Ct l y b n rt rm1 D As W0 (QL1 D r W0)) (ok : CNok own idx y b n rt ka) (hn : As.length = ka) (hst : As.reverse ++ rest = st) (hrm : okR rm1 n rm = true) (hcr : (rest.map fun v => v.category).sum ≤ 8) (isC : List Nat) (hnd : va_nd isC = true) (hC : isC.map (fun i => wd[i]?) = W0.map some) (hcs : kc + rm1.cells ≤ rm.cells ∧ ks + rm1.slots ≤ rm.slots) (k : V Z D (kc + rm1.cells) (ks + rm1.slots) wd lv (.long r :: rest) (pc + 3)) : V Z D kc ks wd lv st pc := by
  obtain ⟨p, l, e, R, s, m, args, below, meth, c, A, nL, Q⟩ := Z
  obtain ⟨hx, hb, hml, rfl, rfl, hown, hts, hK, hA, hN, hlocks⟩ := E
  subst hst
  intro H locs ls hP hD hS hl
  have hFc := va_free (wc := W0) hD hS hA isC hC
  have hPc := hP.subm isC hC
  have hDc := hD.sub isC hnd hC
  refine va_calll (va_runSN (As := As) (rest := rest) (g := F0 m pc ls (As.reverse ++ rest)) ⟨hx, hb, hml, hown, hts⟩ (Cc l H.size) ⟨va_cnB ka hts (lwg_inT ok.2.2.2.1) rfl rfl rfl (hN.1 _ ok.1) (hts _ ok.2.2.1) ok.2.2.2.2 (okR_use hrm), hts _ ok.2.1, trivial⟩ ⟨pw_blind, fun U hU hW => ⟨rfl, by rw [hU], by rw [hU]; exact hPc, va_K.moved hW.alike hK, hDc.weaken (fun _ _ _ _ => trivial), hN.warm hW⟩⟩ rfl hn hl.1 rfl (lv_room hcr) d hcs) hS (fun q _ h => hFc q h) hFc (fun r0 u t H1 locs1 ht hvm hw hB hz1 hk1 hS => ?_)
  obtain rfl : r0 = r := hw
  obtain ⟨hP1, -⟩ := hB
  rw [ht] at hP1
  exact k H1 locs1 ls (va_ro hP hD isC hC hk1 hP1) hD hS hl
theorem v_cN_lU (E : EF Z D cc own rm n0) {y : MethodName} {b : ByteArray} {n idx ka : Nat} {rt : Option FieldType} {rm1 : Room} {As : List Value} {W0 : va_W} {r : Int64} {W1 : va_W} (d : decode cc pc = .ok (.invokestatic idx, 3)) (Cc : ∀ l, Ct l y b n rt rm1 D As W0 (QL1 D r W1)) (ok : CNok own idx y b n rt ka) (hn : As.length = ka) (hst : As.reverse ++ rest = st) (hrm : okR rm1 n rm = true) (hcr : (rest.map fun v => v.category).sum ≤ 8) (isC : List Nat) (hnd : va_nd isC = true) (hC : isC.map (fun i => wd[i]?) = W0.map some) (hcs : kc + rm1.cells ≤ rm.cells ∧ ks + rm1.slots ≤ rm.slots) (La : List Nat) (hf1 : W1.map Prod.fst = La) (hf0 : W0.map Prod.fst = La) (k : V Z D (kc + rm1.cells) (ks + rm1.slots) (upW wd isC W1) lv (.long r :: rest) (pc + 3)) : V Z D kc ks wd lv st pc := by
  obtain ⟨p, l, e, R, s, m, args, below, meth, c, A, nL, Q⟩ := Z
  obtain ⟨hx, hb, hml, rfl, rfl, hown, hts, hK, hA, hN, hlocks⟩ := E
  subst hst
  intro H locs ls hP hD hS hl
  have hFc := va_free (wc := W0) hD hS hA isC hC
  have hPc := hP.subm isC hC
  have hDc := hD.sub isC hnd hC
  refine va_calll (va_runSN (As := As) (rest := rest) (g := F0 m pc ls (As.reverse ++ rest)) ⟨hx, hb, hml, hown, hts⟩ (Cc l H.size) ⟨va_cnB ka hts (lwg_inT ok.2.2.2.1) rfl rfl rfl (hN.1 _ ok.1) (hts _ ok.2.2.1) ok.2.2.2.2 (okR_use hrm), hts _ ok.2.1, trivial⟩ ⟨pw_blind, fun U hU hW => ⟨rfl, by rw [hU], by rw [hU]; exact hPc, va_K.moved hW.alike hK, hDc.weaken (fun _ _ _ _ => trivial), hN.warm hW⟩⟩ rfl hn hl.1 rfl (lv_room hcr) d hcs) hS (fun q _ h => hFc q h) hFc (fun r0 u t H1 locs1 ht hvm hw hB hz1 hk1 hS => ?_)
  obtain rfl : r0 = r := hw
  obtain ⟨hP1, -⟩ := hB
  rw [ht] at hP1
  obtain ⟨h1, h2⟩ := va_upP hP hD isC hC (hf1.trans hf0.symm) hk1 hP1
  exact k H1 locs1 ls h1 h2 hS hl
theorem v_cN_v (E : EF Z D cc own rm n0) {y : MethodName} {b : ByteArray} {n idx ka : Nat} {rt : Option FieldType} {rm1 : Room} {As : List Value} {W0 : va_W} (d : decode cc pc = .ok (.invokestatic idx, 3)) (Cc : ∀ l, Ct l y b n rt rm1 D As W0 (QV1 D W0)) (ok : CNok own idx y b n rt ka) (hn : As.length = ka) (hst : As.reverse ++ rest = st) (hrm : okR rm1 n rm = true) (hcr : (rest.map fun v => v.category).sum ≤ 8) (isC : List Nat) (hnd : va_nd isC = true) (hC : isC.map (fun i => wd[i]?) = W0.map some) (hcs : kc + rm1.cells ≤ rm.cells ∧ ks + rm1.slots ≤ rm.slots) (k : V Z D (kc + rm1.cells) (ks + rm1.slots) wd lv rest (pc + 3)) : V Z D kc ks wd lv st pc := by
  obtain ⟨p, l, e, R, s, m, args, below, meth, c, A, nL, Q⟩ := Z
  obtain ⟨hx, hb, hml, rfl, rfl, hown, hts, hK, hA, hN, hlocks⟩ := E
  subst hst
  intro H locs ls hP hD hS hl
  have hFc := va_free (wc := W0) hD hS hA isC hC
  have hPc := hP.subm isC hC
  have hDc := hD.sub isC hnd hC
  refine va_callv (va_runSN (As := As) (rest := rest) (g := F0 m pc ls (As.reverse ++ rest)) ⟨hx, hb, hml, hown, hts⟩ (Cc l H.size) ⟨va_cnB ka hts (lwg_inT ok.2.2.2.1) rfl rfl rfl (hN.1 _ ok.1) (hts _ ok.2.2.1) ok.2.2.2.2 (okR_use hrm), hts _ ok.2.1, trivial⟩ ⟨pw_blind, fun U hU hW => ⟨rfl, by rw [hU], by rw [hU]; exact hPc, va_K.moved hW.alike hK, hDc.weaken (fun _ _ _ _ => trivial), hN.warm hW⟩⟩ rfl hn hl.1 rfl (lv_room hcr) d hcs) hS (fun q _ h => hFc q h) hFc (fun u t H1 locs1 ht hvm hw hB hz1 hk1 hS => ?_)
  obtain ⟨hP1, -⟩ := hB
  rw [ht] at hP1
  exact k H1 locs1 ls (va_ro hP hD isC hC hk1 hP1) hD hS hl
theorem v_cN_vU (E : EF Z D cc own rm n0) {y : MethodName} {b : ByteArray} {n idx ka : Nat} {rt : Option FieldType} {rm1 : Room} {As : List Value} {W0 : va_W} {W1 : va_W} (d : decode cc pc = .ok (.invokestatic idx, 3)) (Cc : ∀ l, Ct l y b n rt rm1 D As W0 (QV1 D W1)) (ok : CNok own idx y b n rt ka) (hn : As.length = ka) (hst : As.reverse ++ rest = st) (hrm : okR rm1 n rm = true) (hcr : (rest.map fun v => v.category).sum ≤ 8) (isC : List Nat) (hnd : va_nd isC = true) (hC : isC.map (fun i => wd[i]?) = W0.map some) (hcs : kc + rm1.cells ≤ rm.cells ∧ ks + rm1.slots ≤ rm.slots) (La : List Nat) (hf1 : W1.map Prod.fst = La) (hf0 : W0.map Prod.fst = La) (k : V Z D (kc + rm1.cells) (ks + rm1.slots) (upW wd isC W1) lv rest (pc + 3)) : V Z D kc ks wd lv st pc := by
  obtain ⟨p, l, e, R, s, m, args, below, meth, c, A, nL, Q⟩ := Z
  obtain ⟨hx, hb, hml, rfl, rfl, hown, hts, hK, hA, hN, hlocks⟩ := E
  subst hst
  intro H locs ls hP hD hS hl
  have hFc := va_free (wc := W0) hD hS hA isC hC
  have hPc := hP.subm isC hC
  have hDc := hD.sub isC hnd hC
  refine va_callv (va_runSN (As := As) (rest := rest) (g := F0 m pc ls (As.reverse ++ rest)) ⟨hx, hb, hml, hown, hts⟩ (Cc l H.size) ⟨va_cnB ka hts (lwg_inT ok.2.2.2.1) rfl rfl rfl (hN.1 _ ok.1) (hts _ ok.2.2.1) ok.2.2.2.2 (okR_use hrm), hts _ ok.2.1, trivial⟩ ⟨pw_blind, fun U hU hW => ⟨rfl, by rw [hU], by rw [hU]; exact hPc, va_K.moved hW.alike hK, hDc.weaken (fun _ _ _ _ => trivial), hN.warm hW⟩⟩ rfl hn hl.1 rfl (lv_room hcr) d hcs) hS (fun q _ h => hFc q h) hFc (fun u t H1 locs1 ht hvm hw hB hz1 hk1 hS => ?_)
  obtain ⟨hP1, -⟩ := hB
  rw [ht] at hP1
  obtain ⟨h1, h2⟩ := va_upP hP hD isC hC (hf1.trans hf0.symm) hk1 hP1
  exact k H1 locs1 ls h1 h2 hS hl
theorem v_cV_i (E : EF Z D cc own rm n0) {y : MethodName} {b : ByteArray} {n idx ka : Nat} {rt : Option FieldType} {rm1 : Room} {As : List Value} {W0 : va_W} {a ci : Nat} {fs : List Value} {C : String} {T : u_T} {N : Nat} {r : Int32} (d : decode cc pc = .ok (.invokevirtual idx, 3)) (Cc : ∀ l, Ct l y b n rt rm1 D (.ref a :: As) W0 (QI1 D r W0)) (ok : CVok own idx C y b n rt ka) (hn : As.length = ka) (hst : As.reverse ++ .ref a :: rest = st) (hrm : okR rm1 n rm = true) (hcr : (rest.map fun v => v.category).sum ≤ 8) (q0 : Nat) (he : wd[q0]? = some (a, .inr (ci, fs))) (hc : clX[ci]? = some (C, T, N)) (isC : List Nat) (hnd : va_nd isC = true) (hC : isC.map (fun i => wd[i]?) = W0.map some) (hcs : kc + rm1.cells ≤ rm.cells ∧ ks + rm1.slots ≤ rm.slots) (k : V Z D (kc + rm1.cells) (ks + rm1.slots) wd lv (.int r :: rest) (pc + 3)) : V Z D kc ks wd lv st pc := by
  obtain ⟨p, l, e, R, s, m, args, below, meth, c, A, nL, Q⟩ := Z
  obtain ⟨hx, hb, hml, rfl, rfl, hown, hts, hK, hA, hN, hlocks⟩ := E
  subst hst
  intro H locs ls hP hD hS hl
  have hFc := va_free (wc := W0) hD hS hA isC hC
  have hPc := hP.subm isC hC
  have hDc := hD.sub isC hnd hC
  refine va_calli (va_runV (As := As) (rest := rest) (g := F0 m pc ls (As.reverse ++ .ref a :: rest)) ⟨hx, hb, hml, hown, hts⟩ (Cc l H.size) ⟨callB_of ka hts (lwg_inT ok.2.2.2.1) rfl rfl rfl (hts _ ok.2.2.1) (hts _ ok.1) ok.2.2.2.2 (okR_use hrm), hts _ ok.2.1.1, hts _ ok.2.1.2⟩ ⟨pw_blind, va_recv hK hP hc he, fun U hU hW => ⟨rfl, by rw [hU], by rw [hU]; exact hPc, va_K.moved hW.alike hK, hDc.weaken (fun _ _ _ _ => trivial), hN.warm hW⟩⟩ rfl hn hl.1 rfl (lv_room hcr) d hcs) hS (fun q _ h => hFc q h) hFc (fun r0 u t H1 locs1 ht hvm hw hB hz1 hk1 hS => ?_)
  obtain rfl : r0 = r := hw
  obtain ⟨hP1, -⟩ := hB
  rw [ht] at hP1
  exact k H1 locs1 ls (va_ro hP hD isC hC hk1 hP1) hD hS hl
theorem v_cV_iU (E : EF Z D cc own rm n0) {y : MethodName} {b : ByteArray} {n idx ka : Nat} {rt : Option FieldType} {rm1 : Room} {As : List Value} {W0 : va_W} {a ci : Nat} {fs : List Value} {C : String} {T : u_T} {N : Nat} {r : Int32} {W1 : va_W} (d : decode cc pc = .ok (.invokevirtual idx, 3)) (Cc : ∀ l, Ct l y b n rt rm1 D (.ref a :: As) W0 (QI1 D r W1)) (ok : CVok own idx C y b n rt ka) (hn : As.length = ka) (hst : As.reverse ++ .ref a :: rest = st) (hrm : okR rm1 n rm = true) (hcr : (rest.map fun v => v.category).sum ≤ 8) (q0 : Nat) (he : wd[q0]? = some (a, .inr (ci, fs))) (hc : clX[ci]? = some (C, T, N)) (isC : List Nat) (hnd : va_nd isC = true) (hC : isC.map (fun i => wd[i]?) = W0.map some) (hcs : kc + rm1.cells ≤ rm.cells ∧ ks + rm1.slots ≤ rm.slots) (La : List Nat) (hf1 : W1.map Prod.fst = La) (hf0 : W0.map Prod.fst = La) (k : V Z D (kc + rm1.cells) (ks + rm1.slots) (upW wd isC W1) lv (.int r :: rest) (pc + 3)) : V Z D kc ks wd lv st pc := by
  obtain ⟨p, l, e, R, s, m, args, below, meth, c, A, nL, Q⟩ := Z
  obtain ⟨hx, hb, hml, rfl, rfl, hown, hts, hK, hA, hN, hlocks⟩ := E
  subst hst
  intro H locs ls hP hD hS hl
  have hFc := va_free (wc := W0) hD hS hA isC hC
  have hPc := hP.subm isC hC
  have hDc := hD.sub isC hnd hC
  refine va_calli (va_runV (As := As) (rest := rest) (g := F0 m pc ls (As.reverse ++ .ref a :: rest)) ⟨hx, hb, hml, hown, hts⟩ (Cc l H.size) ⟨callB_of ka hts (lwg_inT ok.2.2.2.1) rfl rfl rfl (hts _ ok.2.2.1) (hts _ ok.1) ok.2.2.2.2 (okR_use hrm), hts _ ok.2.1.1, hts _ ok.2.1.2⟩ ⟨pw_blind, va_recv hK hP hc he, fun U hU hW => ⟨rfl, by rw [hU], by rw [hU]; exact hPc, va_K.moved hW.alike hK, hDc.weaken (fun _ _ _ _ => trivial), hN.warm hW⟩⟩ rfl hn hl.1 rfl (lv_room hcr) d hcs) hS (fun q _ h => hFc q h) hFc (fun r0 u t H1 locs1 ht hvm hw hB hz1 hk1 hS => ?_)
  obtain rfl : r0 = r := hw
  obtain ⟨hP1, -⟩ := hB
  rw [ht] at hP1
  obtain ⟨h1, h2⟩ := va_upP hP hD isC hC (hf1.trans hf0.symm) hk1 hP1
  exact k H1 locs1 ls h1 h2 hS hl
theorem v_cV_l (E : EF Z D cc own rm n0) {y : MethodName} {b : ByteArray} {n idx ka : Nat} {rt : Option FieldType} {rm1 : Room} {As : List Value} {W0 : va_W} {a ci : Nat} {fs : List Value} {C : String} {T : u_T} {N : Nat} {r : Int64} (d : decode cc pc = .ok (.invokevirtual idx, 3)) (Cc : ∀ l, Ct l y b n rt rm1 D (.ref a :: As) W0 (QL1 D r W0)) (ok : CVok own idx C y b n rt ka) (hn : As.length = ka) (hst : As.reverse ++ .ref a :: rest = st) (hrm : okR rm1 n rm = true) (hcr : (rest.map fun v => v.category).sum ≤ 8) (q0 : Nat) (he : wd[q0]? = some (a, .inr (ci, fs))) (hc : clX[ci]? = some (C, T, N)) (isC : List Nat) (hnd : va_nd isC = true) (hC : isC.map (fun i => wd[i]?) = W0.map some) (hcs : kc + rm1.cells ≤ rm.cells ∧ ks + rm1.slots ≤ rm.slots) (k : V Z D (kc + rm1.cells) (ks + rm1.slots) wd lv (.long r :: rest) (pc + 3)) : V Z D kc ks wd lv st pc := by
  obtain ⟨p, l, e, R, s, m, args, below, meth, c, A, nL, Q⟩ := Z
  obtain ⟨hx, hb, hml, rfl, rfl, hown, hts, hK, hA, hN, hlocks⟩ := E
  subst hst
  intro H locs ls hP hD hS hl
  have hFc := va_free (wc := W0) hD hS hA isC hC
  have hPc := hP.subm isC hC
  have hDc := hD.sub isC hnd hC
  refine va_calll (va_runV (As := As) (rest := rest) (g := F0 m pc ls (As.reverse ++ .ref a :: rest)) ⟨hx, hb, hml, hown, hts⟩ (Cc l H.size) ⟨callB_of ka hts (lwg_inT ok.2.2.2.1) rfl rfl rfl (hts _ ok.2.2.1) (hts _ ok.1) ok.2.2.2.2 (okR_use hrm), hts _ ok.2.1.1, hts _ ok.2.1.2⟩ ⟨pw_blind, va_recv hK hP hc he, fun U hU hW => ⟨rfl, by rw [hU], by rw [hU]; exact hPc, va_K.moved hW.alike hK, hDc.weaken (fun _ _ _ _ => trivial), hN.warm hW⟩⟩ rfl hn hl.1 rfl (lv_room hcr) d hcs) hS (fun q _ h => hFc q h) hFc (fun r0 u t H1 locs1 ht hvm hw hB hz1 hk1 hS => ?_)
  obtain rfl : r0 = r := hw
  obtain ⟨hP1, -⟩ := hB
  rw [ht] at hP1
  exact k H1 locs1 ls (va_ro hP hD isC hC hk1 hP1) hD hS hl
theorem v_cV_lU (E : EF Z D cc own rm n0) {y : MethodName} {b : ByteArray} {n idx ka : Nat} {rt : Option FieldType} {rm1 : Room} {As : List Value} {W0 : va_W} {a ci : Nat} {fs : List Value} {C : String} {T : u_T} {N : Nat} {r : Int64} {W1 : va_W} (d : decode cc pc = .ok (.invokevirtual idx, 3)) (Cc : ∀ l, Ct l y b n rt rm1 D (.ref a :: As) W0 (QL1 D r W1)) (ok : CVok own idx C y b n rt ka) (hn : As.length = ka) (hst : As.reverse ++ .ref a :: rest = st) (hrm : okR rm1 n rm = true) (hcr : (rest.map fun v => v.category).sum ≤ 8) (q0 : Nat) (he : wd[q0]? = some (a, .inr (ci, fs))) (hc : clX[ci]? = some (C, T, N)) (isC : List Nat) (hnd : va_nd isC = true) (hC : isC.map (fun i => wd[i]?) = W0.map some) (hcs : kc + rm1.cells ≤ rm.cells ∧ ks + rm1.slots ≤ rm.slots) (La : List Nat) (hf1 : W1.map Prod.fst = La) (hf0 : W0.map Prod.fst = La) (k : V Z D (kc + rm1.cells) (ks + rm1.slots) (upW wd isC W1) lv (.long r :: rest) (pc + 3)) : V Z D kc ks wd lv st pc := by
  obtain ⟨p, l, e, R, s, m, args, below, meth, c, A, nL, Q⟩ := Z
  obtain ⟨hx, hb, hml, rfl, rfl, hown, hts, hK, hA, hN, hlocks⟩ := E
  subst hst
  intro H locs ls hP hD hS hl
  have hFc := va_free (wc := W0) hD hS hA isC hC
  have hPc := hP.subm isC hC
  have hDc := hD.sub isC hnd hC
  refine va_calll (va_runV (As := As) (rest := rest) (g := F0 m pc ls (As.reverse ++ .ref a :: rest)) ⟨hx, hb, hml, hown, hts⟩ (Cc l H.size) ⟨callB_of ka hts (lwg_inT ok.2.2.2.1) rfl rfl rfl (hts _ ok.2.2.1) (hts _ ok.1) ok.2.2.2.2 (okR_use hrm), hts _ ok.2.1.1, hts _ ok.2.1.2⟩ ⟨pw_blind, va_recv hK hP hc he, fun U hU hW => ⟨rfl, by rw [hU], by rw [hU]; exact hPc, va_K.moved hW.alike hK, hDc.weaken (fun _ _ _ _ => trivial), hN.warm hW⟩⟩ rfl hn hl.1 rfl (lv_room hcr) d hcs) hS (fun q _ h => hFc q h) hFc (fun r0 u t H1 locs1 ht hvm hw hB hz1 hk1 hS => ?_)
  obtain rfl : r0 = r := hw
  obtain ⟨hP1, -⟩ := hB
  rw [ht] at hP1
  obtain ⟨h1, h2⟩ := va_upP hP hD isC hC (hf1.trans hf0.symm) hk1 hP1
  exact k H1 locs1 ls h1 h2 hS hl
theorem v_cV_v (E : EF Z D cc own rm n0) {y : MethodName} {b : ByteArray} {n idx ka : Nat} {rt : Option FieldType} {rm1 : Room} {As : List Value} {W0 : va_W} {a ci : Nat} {fs : List Value} {C : String} {T : u_T} {N : Nat} (d : decode cc pc = .ok (.invokevirtual idx, 3)) (Cc : ∀ l, Ct l y b n rt rm1 D (.ref a :: As) W0 (QV1 D W0)) (ok : CVok own idx C y b n rt ka) (hn : As.length = ka) (hst : As.reverse ++ .ref a :: rest = st) (hrm : okR rm1 n rm = true) (hcr : (rest.map fun v => v.category).sum ≤ 8) (q0 : Nat) (he : wd[q0]? = some (a, .inr (ci, fs))) (hc : clX[ci]? = some (C, T, N)) (isC : List Nat) (hnd : va_nd isC = true) (hC : isC.map (fun i => wd[i]?) = W0.map some) (hcs : kc + rm1.cells ≤ rm.cells ∧ ks + rm1.slots ≤ rm.slots) (k : V Z D (kc + rm1.cells) (ks + rm1.slots) wd lv rest (pc + 3)) : V Z D kc ks wd lv st pc := by
  obtain ⟨p, l, e, R, s, m, args, below, meth, c, A, nL, Q⟩ := Z
  obtain ⟨hx, hb, hml, rfl, rfl, hown, hts, hK, hA, hN, hlocks⟩ := E
  subst hst
  intro H locs ls hP hD hS hl
  have hFc := va_free (wc := W0) hD hS hA isC hC
  have hPc := hP.subm isC hC
  have hDc := hD.sub isC hnd hC
  refine va_callv (va_runV (As := As) (rest := rest) (g := F0 m pc ls (As.reverse ++ .ref a :: rest)) ⟨hx, hb, hml, hown, hts⟩ (Cc l H.size) ⟨callB_of ka hts (lwg_inT ok.2.2.2.1) rfl rfl rfl (hts _ ok.2.2.1) (hts _ ok.1) ok.2.2.2.2 (okR_use hrm), hts _ ok.2.1.1, hts _ ok.2.1.2⟩ ⟨pw_blind, va_recv hK hP hc he, fun U hU hW => ⟨rfl, by rw [hU], by rw [hU]; exact hPc, va_K.moved hW.alike hK, hDc.weaken (fun _ _ _ _ => trivial), hN.warm hW⟩⟩ rfl hn hl.1 rfl (lv_room hcr) d hcs) hS (fun q _ h => hFc q h) hFc (fun u t H1 locs1 ht hvm hw hB hz1 hk1 hS => ?_)
  obtain ⟨hP1, -⟩ := hB
  rw [ht] at hP1
  exact k H1 locs1 ls (va_ro hP hD isC hC hk1 hP1) hD hS hl
theorem v_cV_vU (E : EF Z D cc own rm n0) {y : MethodName} {b : ByteArray} {n idx ka : Nat} {rt : Option FieldType} {rm1 : Room} {As : List Value} {W0 : va_W} {a ci : Nat} {fs : List Value} {C : String} {T : u_T} {N : Nat} {W1 : va_W} (d : decode cc pc = .ok (.invokevirtual idx, 3)) (Cc : ∀ l, Ct l y b n rt rm1 D (.ref a :: As) W0 (QV1 D W1)) (ok : CVok own idx C y b n rt ka) (hn : As.length = ka) (hst : As.reverse ++ .ref a :: rest = st) (hrm : okR rm1 n rm = true) (hcr : (rest.map fun v => v.category).sum ≤ 8) (q0 : Nat) (he : wd[q0]? = some (a, .inr (ci, fs))) (hc : clX[ci]? = some (C, T, N)) (isC : List Nat) (hnd : va_nd isC = true) (hC : isC.map (fun i => wd[i]?) = W0.map some) (hcs : kc + rm1.cells ≤ rm.cells ∧ ks + rm1.slots ≤ rm.slots) (La : List Nat) (hf1 : W1.map Prod.fst = La) (hf0 : W0.map Prod.fst = La) (k : V Z D (kc + rm1.cells) (ks + rm1.slots) (upW wd isC W1) lv rest (pc + 3)) : V Z D kc ks wd lv st pc := by
  obtain ⟨p, l, e, R, s, m, args, below, meth, c, A, nL, Q⟩ := Z
  obtain ⟨hx, hb, hml, rfl, rfl, hown, hts, hK, hA, hN, hlocks⟩ := E
  subst hst
  intro H locs ls hP hD hS hl
  have hFc := va_free (wc := W0) hD hS hA isC hC
  have hPc := hP.subm isC hC
  have hDc := hD.sub isC hnd hC
  refine va_callv (va_runV (As := As) (rest := rest) (g := F0 m pc ls (As.reverse ++ .ref a :: rest)) ⟨hx, hb, hml, hown, hts⟩ (Cc l H.size) ⟨callB_of ka hts (lwg_inT ok.2.2.2.1) rfl rfl rfl (hts _ ok.2.2.1) (hts _ ok.1) ok.2.2.2.2 (okR_use hrm), hts _ ok.2.1.1, hts _ ok.2.1.2⟩ ⟨pw_blind, va_recv hK hP hc he, fun U hU hW => ⟨rfl, by rw [hU], by rw [hU]; exact hPc, va_K.moved hW.alike hK, hDc.weaken (fun _ _ _ _ => trivial), hN.warm hW⟩⟩ rfl hn hl.1 rfl (lv_room hcr) d hcs) hS (fun q _ h => hFc q h) hFc (fun u t H1 locs1 ht hvm hw hB hz1 hk1 hS => ?_)
  obtain ⟨hP1, -⟩ := hB
  rw [ht] at hP1
  obtain ⟨h1, h2⟩ := va_upP hP hD isC hC (hf1.trans hf0.symm) hk1 hP1
  exact k H1 locs1 ls h1 h2 hS hl
theorem v_cI_v (E : EF Z D cc own rm n0) {y : MethodName} {b : ByteArray} {n idx ka : Nat} {rm1 : Room} {As : List Value} {W0 : va_W} {a : Nat} (d : decode cc pc = .ok (.invokespecial idx, 3)) (Cc : ∀ l, Ct l y b n none rm1 D (.ref a :: As) W0 (QV1 D W0)) (ok : CIok own idx y b n ka) (hn : As.length = ka) (hst : As.reverse ++ .ref a :: rest = st) (hrm : okR rm1 n rm = true) (hcr : (rest.map fun v => v.category).sum ≤ 8) (isC : List Nat) (hnd : va_nd isC = true) (hC : isC.map (fun i => wd[i]?) = W0.map some) (hcs : kc + rm1.cells ≤ rm.cells ∧ ks + rm1.slots ≤ rm.slots) (k : V Z D (kc + rm1.cells) (ks + rm1.slots) wd lv rest (pc + 3)) : V Z D kc ks wd lv st pc := by
  obtain ⟨p, l, e, R, s, m, args, below, meth, c, A, nL, Q⟩ := Z
  obtain ⟨hx, hb, hml, rfl, rfl, hown, hts, hK, hA, hN, hlocks⟩ := E
  subst hst
  intro H locs ls hP hD hS hl
  have hFc := va_free (wc := W0) hD hS hA isC hC
  have hPc := hP.subm isC hC
  have hDc := hD.sub isC hnd hC
  refine va_callv (va_runI (As := As) (rest := rest) (g := F0 m pc ls (As.reverse ++ .ref a :: rest)) ⟨hx, hb, hml, hown, hts⟩ (Cc l H.size) ⟨callB_of ka hts (lwg_inT ok.2.2.2.1) rfl rfl rfl (hts _ ok.2.2.1) (hts _ ok.1) ok.2.2.2.2 (okR_use hrm), ok.2.1.1, hts _ ok.2.1.2⟩ ⟨pw_blind, fun U hU hW => ⟨rfl, by rw [hU], by rw [hU]; exact hPc, va_K.moved hW.alike hK, hDc.weaken (fun _ _ _ _ => trivial), hN.warm hW⟩⟩ rfl hn hl.1 rfl (lv_room hcr) d hcs) hS (fun q _ h => hFc q h) hFc (fun u t H1 locs1 ht hvm hw hB hz1 hk1 hS => ?_)
  obtain ⟨hP1, -⟩ := hB
  rw [ht] at hP1
  exact k H1 locs1 ls (va_ro hP hD isC hC hk1 hP1) hD hS hl
theorem v_cI_vU (E : EF Z D cc own rm n0) {y : MethodName} {b : ByteArray} {n idx ka : Nat} {rm1 : Room} {As : List Value} {W0 : va_W} {a : Nat} {W1 : va_W} (d : decode cc pc = .ok (.invokespecial idx, 3)) (Cc : ∀ l, Ct l y b n none rm1 D (.ref a :: As) W0 (QV1 D W1)) (ok : CIok own idx y b n ka) (hn : As.length = ka) (hst : As.reverse ++ .ref a :: rest = st) (hrm : okR rm1 n rm = true) (hcr : (rest.map fun v => v.category).sum ≤ 8) (isC : List Nat) (hnd : va_nd isC = true) (hC : isC.map (fun i => wd[i]?) = W0.map some) (hcs : kc + rm1.cells ≤ rm.cells ∧ ks + rm1.slots ≤ rm.slots) (La : List Nat) (hf1 : W1.map Prod.fst = La) (hf0 : W0.map Prod.fst = La) (k : V Z D (kc + rm1.cells) (ks + rm1.slots) (upW wd isC W1) lv rest (pc + 3)) : V Z D kc ks wd lv st pc := by
  obtain ⟨p, l, e, R, s, m, args, below, meth, c, A, nL, Q⟩ := Z
  obtain ⟨hx, hb, hml, rfl, rfl, hown, hts, hK, hA, hN, hlocks⟩ := E
  subst hst
  intro H locs ls hP hD hS hl
  have hFc := va_free (wc := W0) hD hS hA isC hC
  have hPc := hP.subm isC hC
  have hDc := hD.sub isC hnd hC
  refine va_callv (va_runI (As := As) (rest := rest) (g := F0 m pc ls (As.reverse ++ .ref a :: rest)) ⟨hx, hb, hml, hown, hts⟩ (Cc l H.size) ⟨callB_of ka hts (lwg_inT ok.2.2.2.1) rfl rfl rfl (hts _ ok.2.2.1) (hts _ ok.1) ok.2.2.2.2 (okR_use hrm), ok.2.1.1, hts _ ok.2.1.2⟩ ⟨pw_blind, fun U hU hW => ⟨rfl, by rw [hU], by rw [hU]; exact hPc, va_K.moved hW.alike hK, hDc.weaken (fun _ _ _ _ => trivial), hN.warm hW⟩⟩ rfl hn hl.1 rfl (lv_room hcr) d hcs) hS (fun q _ h => hFc q h) hFc (fun u t H1 locs1 ht hvm hw hB hz1 hk1 hS => ?_)
  obtain ⟨hP1, -⟩ := hB
  rw [ht] at hP1
  obtain ⟨h1, h2⟩ := va_upP hP hD isC hC (hf1.trans hf0.symm) hk1 hP1
  exact k H1 locs1 ls h1 h2 hS hl
theorem v_cI_vG (E : EF Z D cc own rm n0) {y : MethodName} {b : ByteArray} {n idx ka : Nat} {rm1 : Room} {As : List Value} {W0 : va_W} {a : Nat} {S : Type} {post : S → Prop} {W1 : S → va_W} {wr : va_W} (d : decode cc pc = .ok (.invokespecial idx, 3)) (Cc : ∀ l, Ct l y b n none rm1 D (.ref a :: As) W0 (QV D post W1)) (ok : CIok own idx y b n ka) (hn : As.length = ka) (hst : As.reverse ++ .ref a :: rest = st) (hrm : okR rm1 n rm = true) (hcr : (rest.map fun v => v.category).sum ≤ 8) (isC : List Nat) (hnd : va_nd isC = true) (hC : isC.map (fun i => wd[i]?) = W0.map some) (hcs : kc + rm1.cells ≤ rm.cells ∧ ks + rm1.slots ≤ rm.slots) (isR : List Nat) (hR : isR.map (fun i => wd[i]?) = wr.map some) (hnR : va_nd isR = true) (hdis : ∀ i ∈ isR, i ∉ isC) (k : ∀ u, post u → V Z D (kc + rm1.cells) (ks + rm1.slots) (wr ++ W1 u) lv rest (pc + 3)) : V Z D kc ks wd lv st pc := by
  obtain ⟨p, l, e, R, s, m, args, below, meth, c, A, nL, Q⟩ := Z
  obtain ⟨hx, hb, hml, rfl, rfl, hown, hts, hK, hA, hN, hlocks⟩ := E
  subst hst
  intro H locs ls hP hD hS hl
  have hFc := va_free (wc := W0) hD hS hA isC hC
  have hPc := hP.subm isC hC
  have hDc := hD.sub isC hnd hC
  refine va_callv (va_runI (As := As) (rest := rest) (g := F0 m pc ls (As.reverse ++ .ref a :: rest)) ⟨hx, hb, hml, hown, hts⟩ (Cc l H.size) ⟨callB_of ka hts (lwg_inT ok.2.2.2.1) rfl rfl rfl (hts _ ok.2.2.1) (hts _ ok.1) ok.2.2.2.2 (okR_use hrm), ok.2.1.1, hts _ ok.2.1.2⟩ ⟨pw_blind, fun U hU hW => ⟨rfl, by rw [hU], by rw [hU]; exact hPc, va_K.moved hW.alike hK, hDc.weaken (fun _ _ _ _ => trivial), hN.warm hW⟩⟩ rfl hn hl.1 rfl (lv_room hcr) d hcs) hS (fun q _ h => hFc q h) hFc (fun u t H1 locs1 ht hvm hw hB hz1 hk1 hS => ?_)
  obtain ⟨hP1, hD1⟩ := hB
  rw [ht] at hP1
  obtain ⟨h1, h2⟩ := va_join (wr := wr) hP hD isC isR hC hR hnR hdis hk1 hFc hP1 hD1
  exact k u hw H1 locs1 ls h1 h2 hS hl
theorem v_cJ_v (E : EF Z D cc own rm n0) {y : MethodName} {b : ByteArray} {n idx ka : Nat} {rm1 : Room} {As : List Value} {W0 : va_W} {a : Nat} (d : decode cc pc = .ok (.invokespecial idx, 3)) (Cc : ∀ l, Ct l y b n none rm1 D (.ref a :: As) W0 (QV1 D W0)) (ok : CJok own idx y b n ka) (hn : As.length = ka) (hst : As.reverse ++ .ref a :: rest = st) (hrm : okR rm1 n rm = true) (hcr : (rest.map fun v => v.category).sum ≤ 8) (isC : List Nat) (hnd : va_nd isC = true) (hC : isC.map (fun i => wd[i]?) = W0.map some) (hcs : kc + rm1.cells ≤ rm.cells ∧ ks + rm1.slots ≤ rm.slots) (k : V Z D (kc + rm1.cells) (ks + rm1.slots) wd lv rest (pc + 3)) : V Z D kc ks wd lv st pc := by
  obtain ⟨p, l, e, R, s, m, args, below, meth, c, A, nL, Q⟩ := Z
  obtain ⟨hx, hb, hml, rfl, rfl, hown, hts, hK, hA, hN, hlocks⟩ := E
  subst hst
  intro H locs ls hP hD hS hl
  have hFc := va_free (wc := W0) hD hS hA isC hC
  have hPc := hP.subm isC hC
  have hDc := hD.sub isC hnd hC
  refine va_callv (va_runIN (As := As) (rest := rest) (g := F0 m pc ls (As.reverse ++ .ref a :: rest)) ⟨hx, hb, hml, hown, hts⟩ (Cc l H.size) ⟨va_cnB ka hts (lwg_inT ok.2.2.2.1) rfl rfl rfl (hN.1 _ ok.1) (hts _ ok.2.2.1) ok.2.2.2.2 (okR_use hrm), ok.2.1.1, hts _ ok.2.1.2⟩ ⟨pw_blind, fun U hU hW => ⟨rfl, by rw [hU], by rw [hU]; exact hPc, va_K.moved hW.alike hK, hDc.weaken (fun _ _ _ _ => trivial), hN.warm hW⟩⟩ rfl hn hl.1 rfl (lv_room hcr) d hcs) hS (fun q _ h => hFc q h) hFc (fun u t H1 locs1 ht hvm hw hB hz1 hk1 hS => ?_)
  obtain ⟨hP1, -⟩ := hB
  rw [ht] at hP1
  exact k H1 locs1 ls (va_ro hP hD isC hC hk1 hP1) hD hS hl
theorem v_cJ_vU (E : EF Z D cc own rm n0) {y : MethodName} {b : ByteArray} {n idx ka : Nat} {rm1 : Room} {As : List Value} {W0 : va_W} {a : Nat} {W1 : va_W} (d : decode cc pc = .ok (.invokespecial idx, 3)) (Cc : ∀ l, Ct l y b n none rm1 D (.ref a :: As) W0 (QV1 D W1)) (ok : CJok own idx y b n ka) (hn : As.length = ka) (hst : As.reverse ++ .ref a :: rest = st) (hrm : okR rm1 n rm = true) (hcr : (rest.map fun v => v.category).sum ≤ 8) (isC : List Nat) (hnd : va_nd isC = true) (hC : isC.map (fun i => wd[i]?) = W0.map some) (hcs : kc + rm1.cells ≤ rm.cells ∧ ks + rm1.slots ≤ rm.slots) (La : List Nat) (hf1 : W1.map Prod.fst = La) (hf0 : W0.map Prod.fst = La) (k : V Z D (kc + rm1.cells) (ks + rm1.slots) (upW wd isC W1) lv rest (pc + 3)) : V Z D kc ks wd lv st pc := by
  obtain ⟨p, l, e, R, s, m, args, below, meth, c, A, nL, Q⟩ := Z
  obtain ⟨hx, hb, hml, rfl, rfl, hown, hts, hK, hA, hN, hlocks⟩ := E
  subst hst
  intro H locs ls hP hD hS hl
  have hFc := va_free (wc := W0) hD hS hA isC hC
  have hPc := hP.subm isC hC
  have hDc := hD.sub isC hnd hC
  refine va_callv (va_runIN (As := As) (rest := rest) (g := F0 m pc ls (As.reverse ++ .ref a :: rest)) ⟨hx, hb, hml, hown, hts⟩ (Cc l H.size) ⟨va_cnB ka hts (lwg_inT ok.2.2.2.1) rfl rfl rfl (hN.1 _ ok.1) (hts _ ok.2.2.1) ok.2.2.2.2 (okR_use hrm), ok.2.1.1, hts _ ok.2.1.2⟩ ⟨pw_blind, fun U hU hW => ⟨rfl, by rw [hU], by rw [hU]; exact hPc, va_K.moved hW.alike hK, hDc.weaken (fun _ _ _ _ => trivial), hN.warm hW⟩⟩ rfl hn hl.1 rfl (lv_room hcr) d hcs) hS (fun q _ h => hFc q h) hFc (fun u t H1 locs1 ht hvm hw hB hz1 hk1 hS => ?_)
  obtain ⟨hP1, -⟩ := hB
  rw [ht] at hP1
  obtain ⟨h1, h2⟩ := va_upP hP hD isC hC (hf1.trans hf0.symm) hk1 hP1
  exact k H1 locs1 ls h1 h2 hS hl
theorem v_cJ_vG (E : EF Z D cc own rm n0) {y : MethodName} {b : ByteArray} {n idx ka : Nat} {rm1 : Room} {As : List Value} {W0 : va_W} {a : Nat} {S : Type} {post : S → Prop} {W1 : S → va_W} {wr : va_W} (d : decode cc pc = .ok (.invokespecial idx, 3)) (Cc : ∀ l, Ct l y b n none rm1 D (.ref a :: As) W0 (QV D post W1)) (ok : CJok own idx y b n ka) (hn : As.length = ka) (hst : As.reverse ++ .ref a :: rest = st) (hrm : okR rm1 n rm = true) (hcr : (rest.map fun v => v.category).sum ≤ 8) (isC : List Nat) (hnd : va_nd isC = true) (hC : isC.map (fun i => wd[i]?) = W0.map some) (hcs : kc + rm1.cells ≤ rm.cells ∧ ks + rm1.slots ≤ rm.slots) (isR : List Nat) (hR : isR.map (fun i => wd[i]?) = wr.map some) (hnR : va_nd isR = true) (hdis : ∀ i ∈ isR, i ∉ isC) (k : ∀ u, post u → V Z D (kc + rm1.cells) (ks + rm1.slots) (wr ++ W1 u) lv rest (pc + 3)) : V Z D kc ks wd lv st pc := by
  obtain ⟨p, l, e, R, s, m, args, below, meth, c, A, nL, Q⟩ := Z
  obtain ⟨hx, hb, hml, rfl, rfl, hown, hts, hK, hA, hN, hlocks⟩ := E
  subst hst
  intro H locs ls hP hD hS hl
  have hFc := va_free (wc := W0) hD hS hA isC hC
  have hPc := hP.subm isC hC
  have hDc := hD.sub isC hnd hC
  refine va_callv (va_runIN (As := As) (rest := rest) (g := F0 m pc ls (As.reverse ++ .ref a :: rest)) ⟨hx, hb, hml, hown, hts⟩ (Cc l H.size) ⟨va_cnB ka hts (lwg_inT ok.2.2.2.1) rfl rfl rfl (hN.1 _ ok.1) (hts _ ok.2.2.1) ok.2.2.2.2 (okR_use hrm), ok.2.1.1, hts _ ok.2.1.2⟩ ⟨pw_blind, fun U hU hW => ⟨rfl, by rw [hU], by rw [hU]; exact hPc, va_K.moved hW.alike hK, hDc.weaken (fun _ _ _ _ => trivial), hN.warm hW⟩⟩ rfl hn hl.1 rfl (lv_room hcr) d hcs) hS (fun q _ h => hFc q h) hFc (fun u t H1 locs1 ht hvm hw hB hz1 hk1 hS => ?_)
  obtain ⟨hP1, hD1⟩ := hB
  rw [ht] at hP1
  obtain ⟨h1, h2⟩ := va_join (wr := wr) hP hD isC isR hC hR hnR hdis hk1 hFc hP1 hD1
  exact k u hw H1 locs1 ls h1 h2 hS hl
end VCALLS
end
section
theorem tw_ly_X0_0 : u_lay RX0 TX0 0 ∈ lwg := lwg_at 333 (by decide +kernel) (by decide +kernel)
theorem tw_ly_X0_1 : u_lay RX0 TX0 1 ∈ lwg := lwg_at 335 (by decide +kernel) (by decide +kernel)
theorem iwX0 : ∀ w ∈ u_ws RX0 TX0 2, w ∈ lwg := List.forall_mem_cons.mpr ⟨tw_ly_X0_0, List.forall_mem_cons.mpr ⟨tw_ly_X0_1, fun _ h => absurd h List.not_mem_nil⟩⟩
theorem tw_ly_X1_0 : u_lay RX1 TX1 0 ∈ lwg := lwg_at 81 (by decide +kernel) (by decide +kernel)
theorem tw_ly_X1_1 : u_lay RX1 TX1 1 ∈ lwg := lwg_at 83 (by decide +kernel) (by decide +kernel)
theorem tw_ly_X1_2 : u_lay RX1 TX1 2 ∈ lwg := lwg_at 85 (by decide +kernel) (by decide +kernel)
theorem tw_ly_X1_3 : u_lay RX1 TX1 3 ∈ lwg := lwg_at 87 (by decide +kernel) (by decide +kernel)
theorem tw_ly_X1_4 : u_lay RX1 TX1 4 ∈ lwg := lwg_at 89 (by decide +kernel) (by decide +kernel)
theorem tw_ly_X1_5 : u_lay RX1 TX1 5 ∈ lwg := lwg_at 91 (by decide +kernel) (by decide +kernel)
theorem iwX1 : ∀ w ∈ u_ws RX1 TX1 6, w ∈ lwg := List.forall_mem_cons.mpr ⟨tw_ly_X1_0, List.forall_mem_cons.mpr ⟨tw_ly_X1_1, List.forall_mem_cons.mpr ⟨tw_ly_X1_2, List.forall_mem_cons.mpr ⟨tw_ly_X1_3, List.forall_mem_cons.mpr ⟨tw_ly_X1_4, List.forall_mem_cons.mpr ⟨tw_ly_X1_5, fun _ h => absurd h List.not_mem_nil⟩⟩⟩⟩⟩⟩
theorem tw_ly_X2_0 : u_lay RX2 TX2 0 ∈ lwg := lwg_at 375 (by decide +kernel) (by decide +kernel)
theorem tw_ly_X2_1 : u_lay RX2 TX2 1 ∈ lwg := lwg_at 377 (by decide +kernel) (by decide +kernel)
theorem tw_ly_X2_2 : u_lay RX2 TX2 2 ∈ lwg := lwg_at 379 (by decide +kernel) (by decide +kernel)
theorem tw_ly_X2_3 : u_lay RX2 TX2 3 ∈ lwg := lwg_at 381 (by decide +kernel) (by decide +kernel)
theorem iwX2 : ∀ w ∈ u_ws RX2 TX2 4, w ∈ lwg := List.forall_mem_cons.mpr ⟨tw_ly_X2_0, List.forall_mem_cons.mpr ⟨tw_ly_X2_1, List.forall_mem_cons.mpr ⟨tw_ly_X2_2, List.forall_mem_cons.mpr ⟨tw_ly_X2_3, fun _ h => absurd h List.not_mem_nil⟩⟩⟩⟩
theorem tw_ly_X3_0 : u_lay RX3 TX3 0 ∈ lwg := lwg_at 425 (by decide +kernel) (by decide +kernel)
theorem tw_ly_X3_1 : u_lay RX3 TX3 1 ∈ lwg := lwg_at 427 (by decide +kernel) (by decide +kernel)
theorem tw_ly_X3_2 : u_lay RX3 TX3 2 ∈ lwg := lwg_at 429 (by decide +kernel) (by decide +kernel)
theorem tw_ly_X3_3 : u_lay RX3 TX3 3 ∈ lwg := lwg_at 431 (by decide +kernel) (by decide +kernel)
theorem iwX3 : ∀ w ∈ u_ws RX3 TX3 4, w ∈ lwg := List.forall_mem_cons.mpr ⟨tw_ly_X3_0, List.forall_mem_cons.mpr ⟨tw_ly_X3_1, List.forall_mem_cons.mpr ⟨tw_ly_X3_2, List.forall_mem_cons.mpr ⟨tw_ly_X3_3, fun _ h => absurd h List.not_mem_nil⟩⟩⟩⟩
theorem tw_ly_X4_0 : u_lay RX4 TX4 0 ∈ lwg := lwg_at 101 (by decide +kernel) (by decide +kernel)
theorem tw_ly_X4_1 : u_lay RX4 TX4 1 ∈ lwg := lwg_at 103 (by decide +kernel) (by decide +kernel)
theorem tw_ly_X4_2 : u_lay RX4 TX4 2 ∈ lwg := lwg_at 105 (by decide +kernel) (by decide +kernel)
theorem iwX4 : ∀ w ∈ u_ws RX4 TX4 3, w ∈ lwg := List.forall_mem_cons.mpr ⟨tw_ly_X4_0, List.forall_mem_cons.mpr ⟨tw_ly_X4_1, List.forall_mem_cons.mpr ⟨tw_ly_X4_2, fun _ h => absurd h List.not_mem_nil⟩⟩⟩
theorem tw_ly_X5_0 : u_lay RX5 TX5 0 ∈ lwg := lwg_at 46 (by decide +kernel) (by decide +kernel)
theorem tw_ly_X5_1 : u_lay RX5 TX5 1 ∈ lwg := lwg_at 48 (by decide +kernel) (by decide +kernel)
theorem tw_ly_X5_2 : u_lay RX5 TX5 2 ∈ lwg := lwg_at 50 (by decide +kernel) (by decide +kernel)
theorem tw_ly_X5_3 : u_lay RX5 TX5 3 ∈ lwg := lwg_at 52 (by decide +kernel) (by decide +kernel)
theorem tw_ly_X5_4 : u_lay RX5 TX5 4 ∈ lwg := lwg_at 54 (by decide +kernel) (by decide +kernel)
theorem iwX5 : ∀ w ∈ u_ws RX5 TX5 5, w ∈ lwg := List.forall_mem_cons.mpr ⟨tw_ly_X5_0, List.forall_mem_cons.mpr ⟨tw_ly_X5_1, List.forall_mem_cons.mpr ⟨tw_ly_X5_2, List.forall_mem_cons.mpr ⟨tw_ly_X5_3, List.forall_mem_cons.mpr ⟨tw_ly_X5_4, fun _ h => absurd h List.not_mem_nil⟩⟩⟩⟩⟩
theorem tw_ly_X6_0 : u_lay RX6 TX6 0 ∈ lwg := lwg_at 111 (by decide +kernel) (by decide +kernel)
theorem tw_ly_X6_1 : u_lay RX6 TX6 1 ∈ lwg := lwg_at 113 (by decide +kernel) (by decide +kernel)
theorem iwX6 : ∀ w ∈ u_ws RX6 TX6 2, w ∈ lwg := List.forall_mem_cons.mpr ⟨tw_ly_X6_0, List.forall_mem_cons.mpr ⟨tw_ly_X6_1, fun _ h => absurd h List.not_mem_nil⟩⟩
theorem tw_ly_X7_0 : u_lay RX7 TX7 0 ∈ lwg := lwg_at 499 (by decide +kernel) (by decide +kernel)
theorem tw_ly_X7_1 : u_lay RX7 TX7 1 ∈ lwg := lwg_at 501 (by decide +kernel) (by decide +kernel)
theorem tw_ly_X7_2 : u_lay RX7 TX7 2 ∈ lwg := lwg_at 503 (by decide +kernel) (by decide +kernel)
theorem tw_ly_X7_3 : u_lay RX7 TX7 3 ∈ lwg := lwg_at 505 (by decide +kernel) (by decide +kernel)
theorem tw_ly_X7_4 : u_lay RX7 TX7 4 ∈ lwg := lwg_at 507 (by decide +kernel) (by decide +kernel)
theorem tw_ly_X7_5 : u_lay RX7 TX7 5 ∈ lwg := lwg_at 509 (by decide +kernel) (by decide +kernel)
theorem tw_ly_X7_6 : u_lay RX7 TX7 6 ∈ lwg := lwg_at 511 (by decide +kernel) (by decide +kernel)
theorem tw_ly_X7_7 : u_lay RX7 TX7 7 ∈ lwg := lwg_at 513 (by decide +kernel) (by decide +kernel)
theorem tw_ly_X7_8 : u_lay RX7 TX7 8 ∈ lwg := lwg_at 515 (by decide +kernel) (by decide +kernel)
theorem tw_ly_X7_9 : u_lay RX7 TX7 9 ∈ lwg := lwg_at 517 (by decide +kernel) (by decide +kernel)
theorem iwX7 : ∀ w ∈ u_ws RX7 TX7 10, w ∈ lwg := List.forall_mem_cons.mpr ⟨tw_ly_X7_0, List.forall_mem_cons.mpr ⟨tw_ly_X7_1, List.forall_mem_cons.mpr ⟨tw_ly_X7_2, List.forall_mem_cons.mpr ⟨tw_ly_X7_3, List.forall_mem_cons.mpr ⟨tw_ly_X7_4, List.forall_mem_cons.mpr ⟨tw_ly_X7_5, List.forall_mem_cons.mpr ⟨tw_ly_X7_6, List.forall_mem_cons.mpr ⟨tw_ly_X7_7, List.forall_mem_cons.mpr ⟨tw_ly_X7_8, List.forall_mem_cons.mpr ⟨tw_ly_X7_9, fun _ h => absurd h List.not_mem_nil⟩⟩⟩⟩⟩⟩⟩⟩⟩⟩
theorem fl_X6_12 : Cond.fieldLink RX6 12 (TX6 0).1 (TX6 0).2.1 (TX6 0).2.2.1 ∈ lwg := lwg_at 109 (by decide +kernel) (by decide +kernel)
theorem fl_X6_16 : Cond.fieldLink RX6 16 (TX6 1).1 (TX6 1).2.1 (TX6 1).2.2.1 ∈ lwg := lwg_at 110 (by decide +kernel) (by decide +kernel)
theorem fl_X6_20 : Cond.fieldLink RX6 20 (TX4 0).1 (TX4 0).2.1 (TX4 0).2.2.1 ∈ lwg := lwg_at 96 (by decide +kernel) (by decide +kernel)
theorem fl_X6_28 : Cond.fieldLink RX6 28 (TX5 0).1 (TX5 0).2.1 (TX5 0).2.2.1 ∈ lwg := lwg_at 37 (by decide +kernel) (by decide +kernel)
theorem fl_X6_63 : Cond.fieldLink RX6 63 (TX5 1).1 (TX5 1).2.1 (TX5 1).2.2.1 ∈ lwg := lwg_at 39 (by decide +kernel) (by decide +kernel)
theorem fl_X6_73 : Cond.fieldLink RX6 73 (TX4 1).1 (TX4 1).2.1 (TX4 1).2.2.1 ∈ lwg := lwg_at 98 (by decide +kernel) (by decide +kernel)
theorem fl_X6_82 : Cond.fieldLink RX6 82 (TX1 0).1 (TX1 0).2.1 (TX1 0).2.2.1 ∈ lwg := lwg_at 68 (by decide +kernel) (by decide +kernel)
theorem fl_X6_91 : Cond.fieldLink RX6 91 (TX1 1).1 (TX1 1).2.1 (TX1 1).2.2.1 ∈ lwg := lwg_at 71 (by decide +kernel) (by decide +kernel)
theorem fl_X6_95 : Cond.fieldLink RX6 95 (TX1 2).1 (TX1 2).2.1 (TX1 2).2.2.1 ∈ lwg := lwg_at 73 (by decide +kernel) (by decide +kernel)
theorem fl_X6_102 : Cond.fieldLink RX6 102 (TX1 3).1 (TX1 3).2.1 (TX1 3).2.2.1 ∈ lwg := lwg_at 76 (by decide +kernel) (by decide +kernel)
theorem fl_X6_106 : Cond.fieldLink RX6 106 (TX1 4).1 (TX1 4).2.1 (TX1 4).2.2.1 ∈ lwg := lwg_at 78 (by decide +kernel) (by decide +kernel)
theorem fl_X6_109 : Cond.fieldLink RX6 109 (TX1 5).1 (TX1 5).2.1 (TX1 5).2.2.1 ∈ lwg := lwg_at 80 (by decide +kernel) (by decide +kernel)
theorem fl_X6_112 : Cond.fieldLink RX6 112 (TX4 2).1 (TX4 2).2.1 (TX4 2).2.2.1 ∈ lwg := lwg_at 100 (by decide +kernel) (by decide +kernel)
theorem fl_X6_141 : Cond.fieldLink RX6 141 (TX0 1).1 (TX0 1).2.1 (TX0 1).2.2.1 ∈ lwg := lwg_at 332 (by decide +kernel) (by decide +kernel)
theorem fl_X6_144 : Cond.fieldLink RX6 144 (TX0 0).1 (TX0 0).2.1 (TX0 0).2.2.1 ∈ lwg := lwg_at 330 (by decide +kernel) (by decide +kernel)
theorem fl_X6_158 : Cond.fieldLink RX6 158 (TX2 3).1 (TX2 3).2.1 (TX2 3).2.2.1 ∈ lwg := lwg_at 374 (by decide +kernel) (by decide +kernel)
theorem fl_X6_159 : Cond.fieldLink RX6 159 (TX2 2).1 (TX2 2).2.1 (TX2 2).2.2.1 ∈ lwg := lwg_at 372 (by decide +kernel) (by decide +kernel)
theorem fl_X6_173 : Cond.fieldLink RX6 173 (TX3 1).1 (TX3 1).2.1 (TX3 1).2.2.1 ∈ lwg := lwg_at 422 (by decide +kernel) (by decide +kernel)
theorem fl_X6_176 : Cond.fieldLink RX6 176 (TX3 0).1 (TX3 0).2.1 (TX3 0).2.2.1 ∈ lwg := lwg_at 420 (by decide +kernel) (by decide +kernel)
theorem fl_X0_9 : Cond.fieldLink RX0 9 (TX0 0).1 (TX0 0).2.1 (TX0 0).2.2.1 ∈ lwg := lwg_at 329 (by decide +kernel) (by decide +kernel)
theorem fl_X0_29 : Cond.fieldLink RX0 29 (TX0 1).1 (TX0 1).2.1 (TX0 1).2.2.1 ∈ lwg := lwg_at 331 (by decide +kernel) (by decide +kernel)
theorem fl_X1_9 : Cond.fieldLink RX1 9 (TX1 1).1 (TX1 1).2.1 (TX1 1).2.2.1 ∈ lwg := lwg_at 69 (by decide +kernel) (by decide +kernel)
theorem fl_X1_15 : Cond.fieldLink RX1 15 (TX1 2).1 (TX1 2).2.1 (TX1 2).2.2.1 ∈ lwg := lwg_at 72 (by decide +kernel) (by decide +kernel)
theorem fl_X1_18 : Cond.fieldLink RX1 18 (TX1 3).1 (TX1 3).2.1 (TX1 3).2.2.1 ∈ lwg := lwg_at 74 (by decide +kernel) (by decide +kernel)
theorem fl_X1_22 : Cond.fieldLink RX1 22 (TX1 4).1 (TX1 4).2.1 (TX1 4).2.2.1 ∈ lwg := lwg_at 77 (by decide +kernel) (by decide +kernel)
theorem fl_X1_31 : Cond.fieldLink RX1 31 (TX1 5).1 (TX1 5).2.1 (TX1 5).2.2.1 ∈ lwg := lwg_at 79 (by decide +kernel) (by decide +kernel)
theorem fl_X1_34 : Cond.fieldLink RX1 34 (TX1 0).1 (TX1 0).2.1 (TX1 0).2.2.1 ∈ lwg := lwg_at 67 (by decide +kernel) (by decide +kernel)
theorem fl_X2_9 : Cond.fieldLink RX2 9 (TX2 2).1 (TX2 2).2.1 (TX2 2).2.2.1 ∈ lwg := lwg_at 371 (by decide +kernel) (by decide +kernel)
theorem fl_X2_15 : Cond.fieldLink RX2 15 (TX2 0).1 (TX2 0).2.1 (TX2 0).2.2.1 ∈ lwg := lwg_at 369 (by decide +kernel) (by decide +kernel)
theorem fl_X2_19 : Cond.fieldLink RX2 19 (TX2 1).1 (TX2 1).2.1 (TX2 1).2.2.1 ∈ lwg := lwg_at 370 (by decide +kernel) (by decide +kernel)
theorem fl_X2_33 : Cond.fieldLink RX2 33 (TX2 3).1 (TX2 3).2.1 (TX2 3).2.2.1 ∈ lwg := lwg_at 373 (by decide +kernel) (by decide +kernel)
theorem fl_X2_39 : Cond.fieldLink RX2 39 (TX5 2).1 (TX5 2).2.1 (TX5 2).2.2.1 ∈ lwg := lwg_at 42 (by decide +kernel) (by decide +kernel)
theorem fl_X3_9 : Cond.fieldLink RX3 9 (TX3 1).1 (TX3 1).2.1 (TX3 1).2.2.1 ∈ lwg := lwg_at 421 (by decide +kernel) (by decide +kernel)
theorem fl_X3_15 : Cond.fieldLink RX3 15 (TX3 2).1 (TX3 2).2.1 (TX3 2).2.2.1 ∈ lwg := lwg_at 423 (by decide +kernel) (by decide +kernel)
theorem fl_X3_32 : Cond.fieldLink RX3 32 (TX5 2).1 (TX5 2).2.1 (TX5 2).2.2.1 ∈ lwg := lwg_at 41 (by decide +kernel) (by decide +kernel)
theorem fl_X3_35 : Cond.fieldLink RX3 35 (TX3 3).1 (TX3 3).2.1 (TX3 3).2.2.1 ∈ lwg := lwg_at 424 (by decide +kernel) (by decide +kernel)
theorem fl_X3_42 : Cond.fieldLink RX3 42 (TX3 0).1 (TX3 0).2.1 (TX3 0).2.2.1 ∈ lwg := lwg_at 419 (by decide +kernel) (by decide +kernel)
theorem fl_X4_12 : Cond.fieldLink RX4 12 (TX4 0).1 (TX4 0).2.1 (TX4 0).2.2.1 ∈ lwg := lwg_at 95 (by decide +kernel) (by decide +kernel)
theorem fl_X4_21 : Cond.fieldLink RX4 21 (TX4 1).1 (TX4 1).2.1 (TX4 1).2.2.1 ∈ lwg := lwg_at 97 (by decide +kernel) (by decide +kernel)
theorem fl_X4_32 : Cond.fieldLink RX4 32 (TX4 2).1 (TX4 2).2.1 (TX4 2).2.2.1 ∈ lwg := lwg_at 99 (by decide +kernel) (by decide +kernel)
theorem fl_X4_36 : Cond.fieldLink RX4 36 (TX1 3).1 (TX1 3).2.1 (TX1 3).2.2.1 ∈ lwg := lwg_at 75 (by decide +kernel) (by decide +kernel)
theorem fl_X4_40 : Cond.fieldLink RX4 40 (TX1 1).1 (TX1 1).2.1 (TX1 1).2.2.1 ∈ lwg := lwg_at 70 (by decide +kernel) (by decide +kernel)
theorem fl_X4_68 : Cond.fieldLink RX4 68 (TX5 3).1 (TX5 3).2.1 (TX5 3).2.2.1 ∈ lwg := lwg_at 44 (by decide +kernel) (by decide +kernel)
theorem fl_X5_9 : Cond.fieldLink RX5 9 (TX5 2).1 (TX5 2).2.1 (TX5 2).2.2.1 ∈ lwg := lwg_at 40 (by decide +kernel) (by decide +kernel)
theorem fl_X5_15 : Cond.fieldLink RX5 15 (TX5 3).1 (TX5 3).2.1 (TX5 3).2.2.1 ∈ lwg := lwg_at 43 (by decide +kernel) (by decide +kernel)
theorem fl_X5_20 : Cond.fieldLink RX5 20 (TX5 4).1 (TX5 4).2.1 (TX5 4).2.2.1 ∈ lwg := lwg_at 45 (by decide +kernel) (by decide +kernel)
theorem fl_X5_23 : Cond.fieldLink RX5 23 (TX5 0).1 (TX5 0).2.1 (TX5 0).2.2.1 ∈ lwg := lwg_at 36 (by decide +kernel) (by decide +kernel)
theorem fl_X5_27 : Cond.fieldLink RX5 27 (TX5 1).1 (TX5 1).2.1 (TX5 1).2.2.1 ∈ lwg := lwg_at 38 (by decide +kernel) (by decide +kernel)
theorem fl_X7_7 : Cond.fieldLink RX7 7 (TX7 0).1 (TX7 0).2.1 (TX7 0).2.2.1 ∈ lwg := lwg_at 489 (by decide +kernel) (by decide +kernel)
theorem fl_X7_13 : Cond.fieldLink RX7 13 (TX7 1).1 (TX7 1).2.1 (TX7 1).2.2.1 ∈ lwg := lwg_at 490 (by decide +kernel) (by decide +kernel)
theorem fl_X7_16 : Cond.fieldLink RX7 16 (TX7 2).1 (TX7 2).2.1 (TX7 2).2.2.1 ∈ lwg := lwg_at 491 (by decide +kernel) (by decide +kernel)
theorem fl_X7_20 : Cond.fieldLink RX7 20 (TX7 3).1 (TX7 3).2.1 (TX7 3).2.2.1 ∈ lwg := lwg_at 492 (by decide +kernel) (by decide +kernel)
theorem fl_X7_23 : Cond.fieldLink RX7 23 (TX7 4).1 (TX7 4).2.1 (TX7 4).2.2.1 ∈ lwg := lwg_at 493 (by decide +kernel) (by decide +kernel)
theorem fl_X7_26 : Cond.fieldLink RX7 26 (TX7 5).1 (TX7 5).2.1 (TX7 5).2.2.1 ∈ lwg := lwg_at 494 (by decide +kernel) (by decide +kernel)
theorem fl_X7_29 : Cond.fieldLink RX7 29 (TX7 6).1 (TX7 6).2.1 (TX7 6).2.2.1 ∈ lwg := lwg_at 495 (by decide +kernel) (by decide +kernel)
theorem fl_X7_32 : Cond.fieldLink RX7 32 (TX7 7).1 (TX7 7).2.1 (TX7 7).2.2.1 ∈ lwg := lwg_at 496 (by decide +kernel) (by decide +kernel)
theorem fl_X7_35 : Cond.fieldLink RX7 35 (TX7 8).1 (TX7 8).2.1 (TX7 8).2.2.1 ∈ lwg := lwg_at 497 (by decide +kernel) (by decide +kernel)
theorem fl_X7_38 : Cond.fieldLink RX7 38 (TX7 9).1 (TX7 9).2.1 (TX7 9).2.2.1 ∈ lwg := lwg_at 498 (by decide +kernel) (by decide +kernel)
theorem cl_X6_9 : Cond.classLink RX6 9 RX4 ∈ lwg := lwg_at 22 (by decide +kernel) (by decide +kernel)
theorem cl_X6_133 : Cond.classLink RX6 133 RX0 ∈ lwg := lwg_at 309 (by decide +kernel) (by decide +kernel)
theorem cl_X6_150 : Cond.classLink RX6 150 RX2 ∈ lwg := lwg_at 357 (by decide +kernel) (by decide +kernel)
theorem cl_X6_168 : Cond.classLink RX6 168 RX3 ∈ lwg := lwg_at 404 (by decide +kernel) (by decide +kernel)
theorem cl_X4_9 : Cond.classLink RX4 9 RX5 ∈ lwg := lwg_at 28 (by decide +kernel) (by decide +kernel)
theorem cl_X4_18 : Cond.classLink RX4 18 RX1 ∈ lwg := lwg_at 58 (by decide +kernel) (by decide +kernel)
theorem cl_X5_18 : Cond.classLink RX5 18 "[[I" ∈ lwg := lwg_at 34 (by decide +kernel) (by decide +kernel)
theorem cl_L_7 : Cond.classLink RL 7 RX6 ∈ lwg := lwg_at 14 (by decide +kernel) (by decide +kernel)
theorem cl_L_10 : Cond.classLink RL 10 RX7 ∈ lwg := lwg_at 483 (by decide +kernel) (by decide +kernel)
theorem ib_X6 : Cond.instantiable RX6 2 ∈ lwg := lwg_at 15 (by decide +kernel) (by decide +kernel)
theorem ib_X4 : Cond.instantiable RX4 3 ∈ lwg := lwg_at 23 (by decide +kernel) (by decide +kernel)
theorem ib_X5 : Cond.instantiable RX5 5 ∈ lwg := lwg_at 29 (by decide +kernel) (by decide +kernel)
theorem ib_X1 : Cond.instantiable RX1 6 ∈ lwg := lwg_at 59 (by decide +kernel) (by decide +kernel)
theorem ib_X0 : Cond.instantiable RX0 2 ∈ lwg := lwg_at 310 (by decide +kernel) (by decide +kernel)
theorem ib_X2 : Cond.instantiable RX2 4 ∈ lwg := lwg_at 358 (by decide +kernel) (by decide +kernel)
theorem ib_X3 : Cond.instantiable RX3 4 ∈ lwg := lwg_at 405 (by decide +kernel) (by decide +kernel)
theorem ib_X7 : Cond.instantiable RX7 10 ∈ lwg := lwg_at 484 (by decide +kernel) (by decide +kernel)
theorem tw_in_L : Cond.initialized RL ∈ lwg := lwg_at 0 (by decide +kernel) (by decide +kernel)
theorem tw_in_X6 : Cond.initialized RX6 ∈ lwg := lwg_at 1 (by decide +kernel) (by decide +kernel)
theorem tw_in_X4 : Cond.initialized RX4 ∈ lwg := lwg_at 2 (by decide +kernel) (by decide +kernel)
theorem tw_in_X5 : Cond.initialized RX5 ∈ lwg := lwg_at 3 (by decide +kernel) (by decide +kernel)
theorem tw_in_X1 : Cond.initialized RX1 ∈ lwg := lwg_at 4 (by decide +kernel) (by decide +kernel)
theorem tw_in_J7 : Cond.initialized RJ7 ∈ lwg := lwg_at 5 (by decide +kernel) (by decide +kernel)
theorem tw_in_X7 : Cond.initialized RX7 ∈ lwg := lwg_at 6 (by decide +kernel) (by decide +kernel)
theorem tw_in_J6 : Cond.initialized RJ6 ∈ lwg := lwg_at 7 (by decide +kernel) (by decide +kernel)
theorem tw_in_J13 : Cond.initialized RJ13 ∈ lwg := lwg_at 8 (by decide +kernel) (by decide +kernel)
theorem tw_in_X0 : Cond.initialized RX0 ∈ lwg := lwg_at 9 (by decide +kernel) (by decide +kernel)
theorem tw_in_X2 : Cond.initialized RX2 ∈ lwg := lwg_at 10 (by decide +kernel) (by decide +kernel)
theorem tw_in_J9 : Cond.initialized "java/lang/Math" ∈ lwg := lwg_at 11 (by decide +kernel) (by decide +kernel)
theorem tw_in_X3 : Cond.initialized RX3 ∈ lwg := lwg_at 12 (by decide +kernel) (by decide +kernel)
theorem tw_in_J10 : Cond.initialized "java/lang/System" ∈ lwg := lwg_at 13 (by decide +kernel) (by decide +kernel)
theorem ac_int : Cond.arrayClass .int ∈ lwg := lwg_at 57 (by decide +kernel) (by decide +kernel)
theorem ac_boolean : Cond.arrayClass .boolean ∈ lwg := lwg_at 94 (by decide +kernel) (by decide +kernel)
theorem ac_long : Cond.arrayClass .long ∈ lwg := lwg_at 338 (by decide +kernel) (by decide +kernel)
theorem kc_J6_265 : Cond.constant RJ6 265 (1431655765) ∈ lwg := lwg_at 130 (by decide +kernel) (by decide +kernel)
theorem kc_J6_266 : Cond.constant RJ6 266 (858993459) ∈ lwg := lwg_at 131 (by decide +kernel) (by decide +kernel)
theorem kc_J6_267 : Cond.constant RJ6 267 (252645135) ∈ lwg := lwg_at 132 (by decide +kernel) (by decide +kernel)
theorem kl_J13_314 : Cond.constantLong RJ13 314 (6148914691236517205) ∈ lwg := lwg_at 256 (by decide +kernel) (by decide +kernel)
theorem kl_J13_316 : Cond.constantLong RJ13 316 (3689348814741910323) ∈ lwg := lwg_at 257 (by decide +kernel) (by decide +kernel)
theorem kl_J13_318 : Cond.constantLong RJ13 318 (1085102592571150095) ∈ lwg := lwg_at 258 (by decide +kernel) (by decide +kernel)
theorem kl_X5_78 : Cond.constantLong RX5 78 (-1) ∈ lwg := lwg_at 289 (by decide +kernel) (by decide +kernel)
theorem tw_cd_X6_init : Cond.code yX6_init cX6_init 1 none ∈ lwg := lwg_at 18 (by decide +kernel) (by decide +kernel)
theorem tw_cd_X4_init : Cond.code yX4_init cX4_init 1 none ∈ lwg := lwg_at 26 (by decide +kernel) (by decide +kernel)
theorem tw_cd_X5_init : Cond.code yX5_init cX5_init 1 none ∈ lwg := lwg_at 32 (by decide +kernel) (by decide +kernel)
theorem tw_cd_X1_init : Cond.code yX1_init cX1_init 2 none ∈ lwg := lwg_at 62 (by decide +kernel) (by decide +kernel)
theorem tw_cd_J7_fill_53178 : Cond.code yJ7_fill_53178 cJ7_fill_53178 4 none ∈ lwg := lwg_at 66 (by decide +kernel) (by decide +kernel)
theorem tw_cd_X6_addTarget : Cond.code yX6_addTarget cX6_addTarget 4 (some .int) ∈ lwg := lwg_at 119 (by decide +kernel) (by decide +kernel)
theorem tw_cd_X6_inRange : Cond.code yX6_inRange cX6_inRange 2 (some .boolean) ∈ lwg := lwg_at 122 (by decide +kernel) (by decide +kernel)
theorem tw_cd_X5_testCount : Cond.code yX5_testCount cX5_testCount 1 (some .int) ∈ lwg := lwg_at 126 (by decide +kernel) (by decide +kernel)
theorem tw_cd_J6_bitCount_0f7a4 : Cond.code yJ6_bitCount_0f7a4 cJ6_bitCount_0f7a4 1 (some .int) ∈ lwg := lwg_at 129 (by decide +kernel) (by decide +kernel)
theorem tw_cd_X5_append : Cond.code yX5_append cX5_append 4 (some .int) ∈ lwg := lwg_at 136 (by decide +kernel) (by decide +kernel)
theorem tw_cd_X6_setOf : Cond.code yX6_setOf cX6_setOf 1 (some .int) ∈ lwg := lwg_at 139 (by decide +kernel) (by decide +kernel)
theorem tw_cd_X6_targetCount : Cond.code yX6_targetCount cX6_targetCount 1 (some .int) ∈ lwg := lwg_at 143 (by decide +kernel) (by decide +kernel)
theorem tw_cd_X6_addDependency : Cond.code yX6_addDependency cX6_addDependency 5 (some .int) ∈ lwg := lwg_at 147 (by decide +kernel) (by decide +kernel)
theorem tw_cd_X5_has : Cond.code yX5_has cX5_has 2 (some .boolean) ∈ lwg := lwg_at 151 (by decide +kernel) (by decide +kernel)
theorem tw_cd_X5_allows : Cond.code yX5_allows cX5_allows 4 (some .boolean) ∈ lwg := lwg_at 156 (by decide +kernel) (by decide +kernel)
theorem tw_cd_X6_contains : Cond.code yX6_contains cX6_contains 2 (some .boolean) ∈ lwg := lwg_at 159 (by decide +kernel) (by decide +kernel)
theorem tw_cd_X5_kindBetween : Cond.code yX5_kindBetween cX5_kindBetween 4 (some .int) ∈ lwg := lwg_at 163 (by decide +kernel) (by decide +kernel)
theorem tw_cd_X5_withAllUsers : Cond.code yX5_withAllUsers cX5_withAllUsers 6 (some .int) ∈ lwg := lwg_at 168 (by decide +kernel) (by decide +kernel)
theorem tw_cd_X5_usersOfAny : Cond.code yX5_usersOfAny cX5_usersOfAny 5 (some .int) ∈ lwg := lwg_at 172 (by decide +kernel) (by decide +kernel)
theorem tw_cd_X5_usersOf : Cond.code yX5_usersOf cX5_usersOf 5 (some .int) ∈ lwg := lwg_at 176 (by decide +kernel) (by decide +kernel)
theorem tw_cd_X5_connect : Cond.code yX5_connect cX5_connect 4 none ∈ lwg := lwg_at 181 (by decide +kernel) (by decide +kernel)
theorem tw_cd_X6_removeDependency : Cond.code yX6_removeDependency cX6_removeDependency 5 (some .int) ∈ lwg := lwg_at 185 (by decide +kernel) (by decide +kernel)
theorem tw_cd_X5_disconnect : Cond.code yX5_disconnect cX5_disconnect 4 none ∈ lwg := lwg_at 189 (by decide +kernel) (by decide +kernel)
theorem tw_cd_X6_addFile : Cond.code yX6_addFile cX6_addFile 6 (some .int) ∈ lwg := lwg_at 193 (by decide +kernel) (by decide +kernel)
theorem tw_cd_X1_isInUse : Cond.code yX1_isInUse cX1_isInUse 3 (some .boolean) ∈ lwg := lwg_at 197 (by decide +kernel) (by decide +kernel)
theorem tw_cd_X1_has : Cond.code yX1_has cX1_has 2 (some .boolean) ∈ lwg := lwg_at 201 (by decide +kernel) (by decide +kernel)
theorem tw_cd_X1_append : Cond.code yX1_append cX1_append 5 (some .int) ∈ lwg := lwg_at 206 (by decide +kernel) (by decide +kernel)
theorem tw_cd_X1_giveName : Cond.code yX1_giveName cX1_giveName 3 none ∈ lwg := lwg_at 210 (by decide +kernel) (by decide +kernel)
theorem tw_cd_X4_touchBy : Cond.code yX4_touchBy cX4_touchBy 3 none ∈ lwg := lwg_at 214 (by decide +kernel) (by decide +kernel)
theorem tw_cd_X6_pairsWith : Cond.code yX6_pairsWith cX6_pairsWith 2 (some .long) ∈ lwg := lwg_at 218 (by decide +kernel) (by decide +kernel)
theorem tw_cd_X6_edit : Cond.code yX6_edit cX6_edit 2 (some .int) ∈ lwg := lwg_at 222 (by decide +kernel) (by decide +kernel)
theorem tw_cd_X6_rename : Cond.code yX6_rename cX6_rename 5 (some .int) ∈ lwg := lwg_at 227 (by decide +kernel) (by decide +kernel)
theorem tw_cd_X6_move : Cond.code yX6_move cX6_move 5 (some .int) ∈ lwg := lwg_at 232 (by decide +kernel) (by decide +kernel)
theorem tw_cd_X6_deleteFile : Cond.code yX6_deleteFile cX6_deleteFile 3 (some .int) ∈ lwg := lwg_at 236 (by decide +kernel) (by decide +kernel)
theorem tw_cd_X6_targetOf : Cond.code yX6_targetOf cX6_targetOf 2 (some .int) ∈ lwg := lwg_at 240 (by decide +kernel) (by decide +kernel)
theorem tw_cd_X6_nameOf : Cond.code yX6_nameOf cX6_nameOf 2 (some .int) ∈ lwg := lwg_at 244 (by decide +kernel) (by decide +kernel)
theorem tw_cd_X6_follow : Cond.code yX6_follow cX6_follow 3 (some .int) ∈ lwg := lwg_at 248 (by decide +kernel) (by decide +kernel)
theorem tw_cd_X6_clearChanges : Cond.code yX6_clearChanges cX6_clearChanges 2 (some .int) ∈ lwg := lwg_at 252 (by decide +kernel) (by decide +kernel)
theorem tw_cd_J13_bitCount_95d88 : Cond.code yJ13_bitCount_95d88 cJ13_bitCount_95d88 2 (some .int) ∈ lwg := lwg_at 255 (by decide +kernel) (by decide +kernel)
theorem tw_cd_X6_directlyChanged : Cond.code yX6_directlyChanged cX6_directlyChanged 2 (some .int) ∈ lwg := lwg_at 262 (by decide +kernel) (by decide +kernel)
theorem tw_cd_X6_targetsWith : Cond.code yX6_targetsWith cX6_targetsWith 3 (some .int) ∈ lwg := lwg_at 265 (by decide +kernel) (by decide +kernel)
theorem tw_cd_X6_changed : Cond.code yX6_changed cX6_changed 2 (some .int) ∈ lwg := lwg_at 269 (by decide +kernel) (by decide +kernel)
theorem tw_cd_X5_reachOf : Cond.code yX5_reachOf cX5_reachOf 8 (some .long) ∈ lwg := lwg_at 273 (by decide +kernel) (by decide +kernel)
theorem tw_cd_X5_followersOfAny : Cond.code yX5_followersOfAny cX5_followersOfAny 6 (some .long) ∈ lwg := lwg_at 277 (by decide +kernel) (by decide +kernel)
theorem tw_cd_X6_containsPair : Cond.code yX6_containsPair cX6_containsPair 3 (some .boolean) ∈ lwg := lwg_at 280 (by decide +kernel) (by decide +kernel)
theorem tw_cd_X6_setOfPair : Cond.code yX6_setOfPair cX6_setOfPair 1 (some .long) ∈ lwg := lwg_at 283 (by decide +kernel) (by decide +kernel)
theorem tw_cd_X5_followersOf : Cond.code yX5_followersOf cX5_followersOf 3 (some .long) ∈ lwg := lwg_at 287 (by decide +kernel) (by decide +kernel)
theorem tw_cd_X6_affectedTests : Cond.code yX6_affectedTests cX6_affectedTests 1 (some .int) ∈ lwg := lwg_at 293 (by decide +kernel) (by decide +kernel)
theorem tw_cd_X4_testsToRun : Cond.code yX4_testsToRun cX4_testsToRun 1 (some .int) ∈ lwg := lwg_at 297 (by decide +kernel) (by decide +kernel)
theorem tw_cd_X4_rebuilt : Cond.code yX4_rebuilt cX4_rebuilt 1 (some .int) ∈ lwg := lwg_at 301 (by decide +kernel) (by decide +kernel)
theorem tw_cd_X6_chain : Cond.code yX6_chain cX6_chain 5 (some .int) ∈ lwg := lwg_at 308 (by decide +kernel) (by decide +kernel)
theorem tw_cd_X6_pairOf : Cond.code yX6_pairOf cX6_pairOf 2 (some .int) ∈ lwg := lwg_at 313 (by decide +kernel) (by decide +kernel)
theorem tw_cd_X0_init : Cond.code yX0_init cX0_init 9 none ∈ lwg := lwg_at 316 (by decide +kernel) (by decide +kernel)
theorem tw_cd_X5_causesOfAny : Cond.code yX5_causesOfAny cX5_causesOfAny 6 (some .long) ∈ lwg := lwg_at 322 (by decide +kernel) (by decide +kernel)
theorem tw_cd_X6_smallestPair : Cond.code yX6_smallestPair cX6_smallestPair 3 (some .int) ∈ lwg := lwg_at 326 (by decide +kernel) (by decide +kernel)
theorem tw_cd_X6_impact : Cond.code yX6_impact cX6_impact 3 (some .int) ∈ lwg := lwg_at 342 (by decide +kernel) (by decide +kernel)
theorem tw_cd_X5_weightRebuiltBy : Cond.code yX5_weightRebuiltBy cX5_weightRebuiltBy 5 (some .int) ∈ lwg := lwg_at 346 (by decide +kernel) (by decide +kernel)
theorem tw_cd_X6_mostCritical : Cond.code yX6_mostCritical cX6_mostCritical 6 (some .int) ∈ lwg := lwg_at 352 (by decide +kernel) (by decide +kernel)
theorem tw_cd_X6_rebuildOrder : Cond.code yX6_rebuildOrder cX6_rebuildOrder 3 (some .int) ∈ lwg := lwg_at 356 (by decide +kernel) (by decide +kernel)
theorem tw_cd_X2_init : Cond.code yX2_init cX2_init 6 none ∈ lwg := lwg_at 362 (by decide +kernel) (by decide +kernel)
theorem tw_cd_X6_smallestTarget : Cond.code yX6_smallestTarget cX6_smallestTarget 2 (some .int) ∈ lwg := lwg_at 367 (by decide +kernel) (by decide +kernel)
theorem tw_cd_X6_rebuildTime : Cond.code yX6_rebuildTime cX6_rebuildTime 1 (some .int) ∈ lwg := lwg_at 387 (by decide +kernel) (by decide +kernel)
theorem tw_cd_X2_time : Cond.code yX2_time cX2_time 8 (some .int) ∈ lwg := lwg_at 391 (by decide +kernel) (by decide +kernel)
theorem tw_cd_J9_max_7cf53 : Cond.code yJ9_max_7cf53 cJ9_max_7cf53 2 (some .int) ∈ lwg := lwg_at 394 (by decide +kernel) (by decide +kernel)
theorem tw_cd_X6_shardOf : Cond.code yX6_shardOf cX6_shardOf 4 (some .int) ∈ lwg := lwg_at 400 (by decide +kernel) (by decide +kernel)
theorem tw_cd_X6_isShardCount : Cond.code yX6_isShardCount cX6_isShardCount 1 (some .boolean) ∈ lwg := lwg_at 403 (by decide +kernel) (by decide +kernel)
theorem tw_cd_X3_init : Cond.code yX3_init cX3_init 9 none ∈ lwg := lwg_at 408 (by decide +kernel) (by decide +kernel)
theorem tw_cd_X5_heaviest : Cond.code yX5_heaviest cX5_heaviest 5 (some .int) ∈ lwg := lwg_at 413 (by decide +kernel) (by decide +kernel)
theorem tw_cd_X3_leastLoaded : Cond.code yX3_leastLoaded cX3_leastLoaded 3 (some .int) ∈ lwg := lwg_at 417 (by decide +kernel) (by decide +kernel)
theorem tw_cd_X6_shardLoad : Cond.code yX6_shardLoad cX6_shardLoad 3 (some .int) ∈ lwg := lwg_at 437 (by decide +kernel) (by decide +kernel)
theorem tw_cd_X6_bestGreatestLoad : Cond.code yX6_bestGreatestLoad cX6_bestGreatestLoad 2 (some .int) ∈ lwg := lwg_at 441 (by decide +kernel) (by decide +kernel)
theorem tw_cd_X3_leastGreatestLoad : Cond.code yX3_leastGreatestLoad cX3_leastGreatestLoad 1 (some .int) ∈ lwg := lwg_at 445 (by decide +kernel) (by decide +kernel)
theorem tw_cd_X3_greatest : Cond.code yX3_greatest cX3_greatest 3 (some .int) ∈ lwg := lwg_at 448 (by decide +kernel) (by decide +kernel)
theorem tw_cd_X3_improve : Cond.code yX3_improve cX3_improve 8 (some .int) ∈ lwg := lwg_at 452 (by decide +kernel) (by decide +kernel)
theorem tw_cd_J9_min_7cf53 : Cond.code yJ9_min_7cf53 cJ9_min_7cf53 2 (some .int) ∈ lwg := lwg_at 455 (by decide +kernel) (by decide +kernel)
theorem tw_cd_X3_standsBefore : Cond.code yX3_standsBefore cX3_standsBefore 3 (some .boolean) ∈ lwg := lwg_at 458 (by decide +kernel) (by decide +kernel)
theorem tw_cd_X6_save : Cond.code yX6_save cX6_save 3 (some .int) ∈ lwg := lwg_at 462 (by decide +kernel) (by decide +kernel)
theorem tw_cd_X4_copyFrom : Cond.code yX4_copyFrom cX4_copyFrom 2 none ∈ lwg := lwg_at 466 (by decide +kernel) (by decide +kernel)
theorem tw_cd_X5_copyFrom : Cond.code yX5_copyFrom cX5_copyFrom 3 none ∈ lwg := lwg_at 470 (by decide +kernel) (by decide +kernel)
theorem tw_cd_X1_copyFrom : Cond.code yX1_copyFrom cX1_copyFrom 2 none ∈ lwg := lwg_at 477 (by decide +kernel) (by decide +kernel)
theorem tw_cd_X6_restore : Cond.code yX6_restore cX6_restore 3 (some .int) ∈ lwg := lwg_at 482 (by decide +kernel) (by decide +kernel)
theorem tw_cd_X7_init : Cond.code yX7_init cX7_init 1 none ∈ lwg := lwg_at 487 (by decide +kernel) (by decide +kernel)
theorem tw_cd_X7_addTarget : Cond.code yX7_addTarget cX7_addTarget 4 (some .int) ∈ lwg := lwg_at 523 (by decide +kernel) (by decide +kernel)
theorem tw_cd_X7_in : Cond.code yX7_in cX7_in 3 (some .boolean) ∈ lwg := lwg_at 526 (by decide +kernel) (by decide +kernel)
theorem tw_cd_X7_tests : Cond.code yX7_tests cX7_tests 3 (some .int) ∈ lwg := lwg_at 530 (by decide +kernel) (by decide +kernel)
theorem tw_cd_X7_kindOf : Cond.code yX7_kindOf cX7_kindOf 2 (some .int) ∈ lwg := lwg_at 534 (by decide +kernel) (by decide +kernel)
theorem tw_cd_X7_targetCount : Cond.code yX7_targetCount cX7_targetCount 1 (some .int) ∈ lwg := lwg_at 538 (by decide +kernel) (by decide +kernel)
theorem tw_cd_X7_addDependency : Cond.code yX7_addDependency cX7_addDependency 4 (some .int) ∈ lwg := lwg_at 542 (by decide +kernel) (by decide +kernel)
theorem tw_cd_X7_isTarget : Cond.code yX7_isTarget cX7_isTarget 2 (some .boolean) ∈ lwg := lwg_at 546 (by decide +kernel) (by decide +kernel)
theorem tw_cd_X7_linkOf : Cond.code yX7_linkOf cX7_linkOf 3 (some .int) ∈ lwg := lwg_at 550 (by decide +kernel) (by decide +kernel)
theorem tw_cd_X7_reachOf : Cond.code yX7_reachOf cX7_reachOf 8 (some .int) ∈ lwg := lwg_at 554 (by decide +kernel) (by decide +kernel)
theorem tw_cd_X7_removeDependency : Cond.code yX7_removeDependency cX7_removeDependency 4 (some .int) ∈ lwg := lwg_at 558 (by decide +kernel) (by decide +kernel)
theorem tw_cd_X7_addFile : Cond.code yX7_addFile cX7_addFile 5 (some .int) ∈ lwg := lwg_at 562 (by decide +kernel) (by decide +kernel)
theorem tw_cd_X7_isNamed : Cond.code yX7_isNamed cX7_isNamed 4 (some .boolean) ∈ lwg := lwg_at 566 (by decide +kernel) (by decide +kernel)
theorem tw_cd_X7_isFile : Cond.code yX7_isFile cX7_isFile 2 (some .boolean) ∈ lwg := lwg_at 570 (by decide +kernel) (by decide +kernel)
theorem tw_cd_X7_at : Cond.code yX7_at cX7_at 1 (some .int) ∈ lwg := lwg_at 573 (by decide +kernel) (by decide +kernel)
theorem tw_cd_X7_giveName : Cond.code yX7_giveName cX7_giveName 3 none ∈ lwg := lwg_at 577 (by decide +kernel) (by decide +kernel)
theorem tw_cd_X7_touch : Cond.code yX7_touch cX7_touch 4 none ∈ lwg := lwg_at 581 (by decide +kernel) (by decide +kernel)
theorem tw_cd_X7_edit : Cond.code yX7_edit cX7_edit 2 (some .int) ∈ lwg := lwg_at 585 (by decide +kernel) (by decide +kernel)
theorem tw_cd_X7_rename : Cond.code yX7_rename cX7_rename 4 (some .int) ∈ lwg := lwg_at 589 (by decide +kernel) (by decide +kernel)
theorem tw_cd_X7_move : Cond.code yX7_move cX7_move 4 (some .int) ∈ lwg := lwg_at 593 (by decide +kernel) (by decide +kernel)
theorem tw_cd_X7_deleteFile : Cond.code yX7_deleteFile cX7_deleteFile 2 (some .int) ∈ lwg := lwg_at 597 (by decide +kernel) (by decide +kernel)
theorem tw_cd_X7_targetOf : Cond.code yX7_targetOf cX7_targetOf 2 (some .int) ∈ lwg := lwg_at 601 (by decide +kernel) (by decide +kernel)
theorem tw_cd_X7_nameOf : Cond.code yX7_nameOf cX7_nameOf 2 (some .int) ∈ lwg := lwg_at 605 (by decide +kernel) (by decide +kernel)
theorem tw_cd_X7_follow : Cond.code yX7_follow cX7_follow 3 (some .int) ∈ lwg := lwg_at 609 (by decide +kernel) (by decide +kernel)
theorem tw_cd_X7_clearChanges : Cond.code yX7_clearChanges cX7_clearChanges 3 (some .int) ∈ lwg := lwg_at 613 (by decide +kernel) (by decide +kernel)
theorem tw_cd_X7_directlyChanged : Cond.code yX7_directlyChanged cX7_directlyChanged 4 (some .int) ∈ lwg := lwg_at 617 (by decide +kernel) (by decide +kernel)
theorem tw_cd_X7_isPart : Cond.code yX7_isPart cX7_isPart 1 (some .boolean) ∈ lwg := lwg_at 620 (by decide +kernel) (by decide +kernel)
theorem tw_cd_X7_changed : Cond.code yX7_changed cX7_changed 2 (some .int) ∈ lwg := lwg_at 624 (by decide +kernel) (by decide +kernel)
theorem tw_cd_X7_layChanged : Cond.code yX7_layChanged cX7_layChanged 2 none ∈ lwg := lwg_at 628 (by decide +kernel) (by decide +kernel)
theorem tw_cd_X7_spread : Cond.code yX7_spread cX7_spread 4 none ∈ lwg := lwg_at 632 (by decide +kernel) (by decide +kernel)
theorem tw_cd_X7_follows : Cond.code yX7_follows cX7_follows 8 (some .boolean) ∈ lwg := lwg_at 636 (by decide +kernel) (by decide +kernel)
theorem tw_cd_X7_setOf : Cond.code yX7_setOf cX7_setOf 4 (some .int) ∈ lwg := lwg_at 640 (by decide +kernel) (by decide +kernel)
theorem tw_cd_X7_affectedTests : Cond.code yX7_affectedTests cX7_affectedTests 4 (some .int) ∈ lwg := lwg_at 644 (by decide +kernel) (by decide +kernel)
theorem tw_cd_X7_rebuilt : Cond.code yX7_rebuilt cX7_rebuilt 1 (some .int) ∈ lwg := lwg_at 648 (by decide +kernel) (by decide +kernel)
theorem tw_cd_X7_chain : Cond.code yX7_chain cX7_chain 7 (some .int) ∈ lwg := lwg_at 652 (by decide +kernel) (by decide +kernel)
theorem tw_cd_X7_laySteps : Cond.code yX7_laySteps cX7_laySteps 5 none ∈ lwg := lwg_at 656 (by decide +kernel) (by decide +kernel)
theorem tw_cd_X7_smallest : Cond.code yX7_smallest cX7_smallest 5 (some .int) ∈ lwg := lwg_at 660 (by decide +kernel) (by decide +kernel)
theorem tw_cd_X7_impact : Cond.code yX7_impact cX7_impact 3 (some .int) ∈ lwg := lwg_at 664 (by decide +kernel) (by decide +kernel)
theorem tw_cd_X7_impactOf : Cond.code yX7_impactOf cX7_impactOf 4 (some .int) ∈ lwg := lwg_at 668 (by decide +kernel) (by decide +kernel)
theorem tw_cd_X7_weightOf : Cond.code yX7_weightOf cX7_weightOf 2 (some .int) ∈ lwg := lwg_at 672 (by decide +kernel) (by decide +kernel)
theorem tw_cd_X7_mostCritical : Cond.code yX7_mostCritical cX7_mostCritical 6 (some .int) ∈ lwg := lwg_at 676 (by decide +kernel) (by decide +kernel)
theorem tw_cd_X7_rebuildOrder : Cond.code yX7_rebuildOrder cX7_rebuildOrder 3 (some .int) ∈ lwg := lwg_at 680 (by decide +kernel) (by decide +kernel)
theorem tw_cd_X7_layOrder : Cond.code yX7_layOrder cX7_layOrder 7 (some .int) ∈ lwg := lwg_at 684 (by decide +kernel) (by decide +kernel)
theorem tw_cd_X7_waits : Cond.code yX7_waits cX7_waits 3 (some .boolean) ∈ lwg := lwg_at 688 (by decide +kernel) (by decide +kernel)
theorem tw_cd_X7_rebuildTime : Cond.code yX7_rebuildTime cX7_rebuildTime 8 (some .int) ∈ lwg := lwg_at 692 (by decide +kernel) (by decide +kernel)
theorem tw_cd_X7_shardOf : Cond.code yX7_shardOf cX7_shardOf 3 (some .int) ∈ lwg := lwg_at 696 (by decide +kernel) (by decide +kernel)
theorem tw_cd_X7_areShards : Cond.code yX7_areShards cX7_areShards 1 (some .boolean) ∈ lwg := lwg_at 699 (by decide +kernel) (by decide +kernel)
theorem tw_cd_X7_layShards : Cond.code yX7_layShards cX7_layShards 6 none ∈ lwg := lwg_at 703 (by decide +kernel) (by decide +kernel)
theorem tw_cd_X7_shardLoad : Cond.code yX7_shardLoad cX7_shardLoad 3 (some .int) ∈ lwg := lwg_at 708 (by decide +kernel) (by decide +kernel)
theorem tw_cd_X7_bestGreatestLoad : Cond.code yX7_bestGreatestLoad cX7_bestGreatestLoad 8 (some .int) ∈ lwg := lwg_at 712 (by decide +kernel) (by decide +kernel)
theorem tw_cd_X7_greatestBy : Cond.code yX7_greatestBy cX7_greatestBy 7 (some .int) ∈ lwg := lwg_at 716 (by decide +kernel) (by decide +kernel)
theorem tw_cd_X7_save : Cond.code yX7_save cX7_save 3 (some .int) ∈ lwg := lwg_at 720 (by decide +kernel) (by decide +kernel)
theorem tw_cd_X7_restore : Cond.code yX7_restore cX7_restore 3 (some .int) ∈ lwg := lwg_at 724 (by decide +kernel) (by decide +kernel)
theorem tw_st_J7_fill_53178 : Cond.static yJ7_fill_53178 ∈ lwg := lwg_at 65 (by decide +kernel) (by decide +kernel)
theorem tw_st_X6_inRange : Cond.static yX6_inRange ∈ lwg := lwg_at 121 (by decide +kernel) (by decide +kernel)
theorem tw_st_J6_bitCount_0f7a4 : Cond.static yJ6_bitCount_0f7a4 ∈ lwg := lwg_at 128 (by decide +kernel) (by decide +kernel)
theorem tw_st_X6_setOf : Cond.static yX6_setOf ∈ lwg := lwg_at 138 (by decide +kernel) (by decide +kernel)
theorem tw_st_X6_contains : Cond.static yX6_contains ∈ lwg := lwg_at 158 (by decide +kernel) (by decide +kernel)
theorem tw_st_X6_pairsWith : Cond.static yX6_pairsWith ∈ lwg := lwg_at 217 (by decide +kernel) (by decide +kernel)
theorem tw_st_J13_bitCount_95d88 : Cond.static yJ13_bitCount_95d88 ∈ lwg := lwg_at 254 (by decide +kernel) (by decide +kernel)
theorem tw_st_X6_targetsWith : Cond.static yX6_targetsWith ∈ lwg := lwg_at 264 (by decide +kernel) (by decide +kernel)
theorem tw_st_X6_containsPair : Cond.static yX6_containsPair ∈ lwg := lwg_at 279 (by decide +kernel) (by decide +kernel)
theorem tw_st_X6_setOfPair : Cond.static yX6_setOfPair ∈ lwg := lwg_at 282 (by decide +kernel) (by decide +kernel)
theorem tw_st_X6_pairOf : Cond.static yX6_pairOf ∈ lwg := lwg_at 312 (by decide +kernel) (by decide +kernel)
theorem tw_st_X6_smallestPair : Cond.static yX6_smallestPair ∈ lwg := lwg_at 325 (by decide +kernel) (by decide +kernel)
theorem tw_st_X6_smallestTarget : Cond.static yX6_smallestTarget ∈ lwg := lwg_at 366 (by decide +kernel) (by decide +kernel)
theorem tw_st_J9_max_7cf53 : Cond.static yJ9_max_7cf53 ∈ lwg := lwg_at 393 (by decide +kernel) (by decide +kernel)
theorem tw_st_X6_isShardCount : Cond.static yX6_isShardCount ∈ lwg := lwg_at 402 (by decide +kernel) (by decide +kernel)
theorem tw_st_X3_leastLoaded : Cond.static yX3_leastLoaded ∈ lwg := lwg_at 416 (by decide +kernel) (by decide +kernel)
theorem tw_st_X3_greatest : Cond.static yX3_greatest ∈ lwg := lwg_at 447 (by decide +kernel) (by decide +kernel)
theorem tw_st_X3_improve : Cond.static yX3_improve ∈ lwg := lwg_at 451 (by decide +kernel) (by decide +kernel)
theorem tw_st_J9_min_7cf53 : Cond.static yJ9_min_7cf53 ∈ lwg := lwg_at 454 (by decide +kernel) (by decide +kernel)
theorem tw_st_X3_standsBefore : Cond.static yX3_standsBefore ∈ lwg := lwg_at 457 (by decide +kernel) (by decide +kernel)
theorem tw_st_X7_in : Cond.static yX7_in ∈ lwg := lwg_at 525 (by decide +kernel) (by decide +kernel)
theorem tw_st_X7_at : Cond.static yX7_at ∈ lwg := lwg_at 572 (by decide +kernel) (by decide +kernel)
theorem tw_st_X7_isPart : Cond.static yX7_isPart ∈ lwg := lwg_at 619 (by decide +kernel) (by decide +kernel)
theorem tw_st_X7_areShards : Cond.static yX7_areShards ∈ lwg := lwg_at 698 (by decide +kernel) (by decide +kernel)
theorem tw_im_X6_init : Cond.instanceMethod yX6_init ∈ lwg := lwg_at 17 (by decide +kernel) (by decide +kernel)
theorem tw_im_X4_init : Cond.instanceMethod yX4_init ∈ lwg := lwg_at 25 (by decide +kernel) (by decide +kernel)
theorem tw_im_X5_init : Cond.instanceMethod yX5_init ∈ lwg := lwg_at 31 (by decide +kernel) (by decide +kernel)
theorem tw_im_X1_init : Cond.instanceMethod yX1_init ∈ lwg := lwg_at 61 (by decide +kernel) (by decide +kernel)
theorem tw_im_X6_addTarget : Cond.instanceMethod yX6_addTarget ∈ lwg := lwg_at 117 (by decide +kernel) (by decide +kernel)
theorem tw_im_X5_testCount : Cond.instanceMethod yX5_testCount ∈ lwg := lwg_at 124 (by decide +kernel) (by decide +kernel)
theorem tw_im_X5_append : Cond.instanceMethod yX5_append ∈ lwg := lwg_at 134 (by decide +kernel) (by decide +kernel)
theorem tw_im_X6_targetCount : Cond.instanceMethod yX6_targetCount ∈ lwg := lwg_at 141 (by decide +kernel) (by decide +kernel)
theorem tw_im_X6_addDependency : Cond.instanceMethod yX6_addDependency ∈ lwg := lwg_at 145 (by decide +kernel) (by decide +kernel)
theorem tw_im_X5_has : Cond.instanceMethod yX5_has ∈ lwg := lwg_at 149 (by decide +kernel) (by decide +kernel)
theorem tw_im_X5_allows : Cond.instanceMethod yX5_allows ∈ lwg := lwg_at 154 (by decide +kernel) (by decide +kernel)
theorem tw_im_X5_kindBetween : Cond.instanceMethod yX5_kindBetween ∈ lwg := lwg_at 161 (by decide +kernel) (by decide +kernel)
theorem tw_im_X5_withAllUsers : Cond.instanceMethod yX5_withAllUsers ∈ lwg := lwg_at 166 (by decide +kernel) (by decide +kernel)
theorem tw_im_X5_usersOfAny : Cond.instanceMethod yX5_usersOfAny ∈ lwg := lwg_at 170 (by decide +kernel) (by decide +kernel)
theorem tw_im_X5_usersOf : Cond.instanceMethod yX5_usersOf ∈ lwg := lwg_at 174 (by decide +kernel) (by decide +kernel)
theorem tw_im_X5_connect : Cond.instanceMethod yX5_connect ∈ lwg := lwg_at 179 (by decide +kernel) (by decide +kernel)
theorem tw_im_X6_removeDependency : Cond.instanceMethod yX6_removeDependency ∈ lwg := lwg_at 183 (by decide +kernel) (by decide +kernel)
theorem tw_im_X5_disconnect : Cond.instanceMethod yX5_disconnect ∈ lwg := lwg_at 187 (by decide +kernel) (by decide +kernel)
theorem tw_im_X6_addFile : Cond.instanceMethod yX6_addFile ∈ lwg := lwg_at 191 (by decide +kernel) (by decide +kernel)
theorem tw_im_X1_isInUse : Cond.instanceMethod yX1_isInUse ∈ lwg := lwg_at 195 (by decide +kernel) (by decide +kernel)
theorem tw_im_X1_has : Cond.instanceMethod yX1_has ∈ lwg := lwg_at 199 (by decide +kernel) (by decide +kernel)
theorem tw_im_X1_append : Cond.instanceMethod yX1_append ∈ lwg := lwg_at 204 (by decide +kernel) (by decide +kernel)
theorem tw_im_X1_giveName : Cond.instanceMethod yX1_giveName ∈ lwg := lwg_at 208 (by decide +kernel) (by decide +kernel)
theorem tw_im_X4_touchBy : Cond.instanceMethod yX4_touchBy ∈ lwg := lwg_at 212 (by decide +kernel) (by decide +kernel)
theorem tw_im_X6_edit : Cond.instanceMethod yX6_edit ∈ lwg := lwg_at 220 (by decide +kernel) (by decide +kernel)
theorem tw_im_X6_rename : Cond.instanceMethod yX6_rename ∈ lwg := lwg_at 225 (by decide +kernel) (by decide +kernel)
theorem tw_im_X6_move : Cond.instanceMethod yX6_move ∈ lwg := lwg_at 230 (by decide +kernel) (by decide +kernel)
theorem tw_im_X6_deleteFile : Cond.instanceMethod yX6_deleteFile ∈ lwg := lwg_at 234 (by decide +kernel) (by decide +kernel)
theorem tw_im_X6_targetOf : Cond.instanceMethod yX6_targetOf ∈ lwg := lwg_at 238 (by decide +kernel) (by decide +kernel)
theorem tw_im_X6_nameOf : Cond.instanceMethod yX6_nameOf ∈ lwg := lwg_at 242 (by decide +kernel) (by decide +kernel)
theorem tw_im_X6_follow : Cond.instanceMethod yX6_follow ∈ lwg := lwg_at 246 (by decide +kernel) (by decide +kernel)
theorem tw_im_X6_clearChanges : Cond.instanceMethod yX6_clearChanges ∈ lwg := lwg_at 250 (by decide +kernel) (by decide +kernel)
theorem tw_im_X6_directlyChanged : Cond.instanceMethod yX6_directlyChanged ∈ lwg := lwg_at 260 (by decide +kernel) (by decide +kernel)
theorem tw_im_X6_changed : Cond.instanceMethod yX6_changed ∈ lwg := lwg_at 267 (by decide +kernel) (by decide +kernel)
theorem tw_im_X5_reachOf : Cond.instanceMethod yX5_reachOf ∈ lwg := lwg_at 271 (by decide +kernel) (by decide +kernel)
theorem tw_im_X5_followersOfAny : Cond.instanceMethod yX5_followersOfAny ∈ lwg := lwg_at 275 (by decide +kernel) (by decide +kernel)
theorem tw_im_X5_followersOf : Cond.instanceMethod yX5_followersOf ∈ lwg := lwg_at 285 (by decide +kernel) (by decide +kernel)
theorem tw_im_X6_affectedTests : Cond.instanceMethod yX6_affectedTests ∈ lwg := lwg_at 291 (by decide +kernel) (by decide +kernel)
theorem tw_im_X4_testsToRun : Cond.instanceMethod yX4_testsToRun ∈ lwg := lwg_at 295 (by decide +kernel) (by decide +kernel)
theorem tw_im_X4_rebuilt : Cond.instanceMethod yX4_rebuilt ∈ lwg := lwg_at 299 (by decide +kernel) (by decide +kernel)
theorem tw_im_X6_chain : Cond.instanceMethod yX6_chain ∈ lwg := lwg_at 306 (by decide +kernel) (by decide +kernel)
theorem tw_im_X0_init : Cond.instanceMethod yX0_init ∈ lwg := lwg_at 315 (by decide +kernel) (by decide +kernel)
theorem tw_im_X5_causesOfAny : Cond.instanceMethod yX5_causesOfAny ∈ lwg := lwg_at 320 (by decide +kernel) (by decide +kernel)
theorem tw_im_X6_impact : Cond.instanceMethod yX6_impact ∈ lwg := lwg_at 340 (by decide +kernel) (by decide +kernel)
theorem tw_im_X5_weightRebuiltBy : Cond.instanceMethod yX5_weightRebuiltBy ∈ lwg := lwg_at 344 (by decide +kernel) (by decide +kernel)
theorem tw_im_X6_mostCritical : Cond.instanceMethod yX6_mostCritical ∈ lwg := lwg_at 350 (by decide +kernel) (by decide +kernel)
theorem tw_im_X6_rebuildOrder : Cond.instanceMethod yX6_rebuildOrder ∈ lwg := lwg_at 354 (by decide +kernel) (by decide +kernel)
theorem tw_im_X2_init : Cond.instanceMethod yX2_init ∈ lwg := lwg_at 361 (by decide +kernel) (by decide +kernel)
theorem tw_im_X6_rebuildTime : Cond.instanceMethod yX6_rebuildTime ∈ lwg := lwg_at 385 (by decide +kernel) (by decide +kernel)
theorem tw_im_X2_time : Cond.instanceMethod yX2_time ∈ lwg := lwg_at 389 (by decide +kernel) (by decide +kernel)
theorem tw_im_X6_shardOf : Cond.instanceMethod yX6_shardOf ∈ lwg := lwg_at 398 (by decide +kernel) (by decide +kernel)
theorem tw_im_X3_init : Cond.instanceMethod yX3_init ∈ lwg := lwg_at 407 (by decide +kernel) (by decide +kernel)
theorem tw_im_X5_heaviest : Cond.instanceMethod yX5_heaviest ∈ lwg := lwg_at 411 (by decide +kernel) (by decide +kernel)
theorem tw_im_X6_shardLoad : Cond.instanceMethod yX6_shardLoad ∈ lwg := lwg_at 435 (by decide +kernel) (by decide +kernel)
theorem tw_im_X6_bestGreatestLoad : Cond.instanceMethod yX6_bestGreatestLoad ∈ lwg := lwg_at 439 (by decide +kernel) (by decide +kernel)
theorem tw_im_X3_leastGreatestLoad : Cond.instanceMethod yX3_leastGreatestLoad ∈ lwg := lwg_at 443 (by decide +kernel) (by decide +kernel)
theorem tw_im_X6_save : Cond.instanceMethod yX6_save ∈ lwg := lwg_at 460 (by decide +kernel) (by decide +kernel)
theorem tw_im_X4_copyFrom : Cond.instanceMethod yX4_copyFrom ∈ lwg := lwg_at 464 (by decide +kernel) (by decide +kernel)
theorem tw_im_X5_copyFrom : Cond.instanceMethod yX5_copyFrom ∈ lwg := lwg_at 468 (by decide +kernel) (by decide +kernel)
theorem tw_im_X1_copyFrom : Cond.instanceMethod yX1_copyFrom ∈ lwg := lwg_at 475 (by decide +kernel) (by decide +kernel)
theorem tw_im_X6_restore : Cond.instanceMethod yX6_restore ∈ lwg := lwg_at 480 (by decide +kernel) (by decide +kernel)
theorem tw_im_X7_init : Cond.instanceMethod yX7_init ∈ lwg := lwg_at 486 (by decide +kernel) (by decide +kernel)
theorem tw_im_X7_addTarget : Cond.instanceMethod yX7_addTarget ∈ lwg := lwg_at 521 (by decide +kernel) (by decide +kernel)
theorem tw_im_X7_tests : Cond.instanceMethod yX7_tests ∈ lwg := lwg_at 529 (by decide +kernel) (by decide +kernel)
theorem tw_im_X7_kindOf : Cond.instanceMethod yX7_kindOf ∈ lwg := lwg_at 533 (by decide +kernel) (by decide +kernel)
theorem tw_im_X7_targetCount : Cond.instanceMethod yX7_targetCount ∈ lwg := lwg_at 536 (by decide +kernel) (by decide +kernel)
theorem tw_im_X7_addDependency : Cond.instanceMethod yX7_addDependency ∈ lwg := lwg_at 540 (by decide +kernel) (by decide +kernel)
theorem tw_im_X7_isTarget : Cond.instanceMethod yX7_isTarget ∈ lwg := lwg_at 545 (by decide +kernel) (by decide +kernel)
theorem tw_im_X7_linkOf : Cond.instanceMethod yX7_linkOf ∈ lwg := lwg_at 549 (by decide +kernel) (by decide +kernel)
theorem tw_im_X7_reachOf : Cond.instanceMethod yX7_reachOf ∈ lwg := lwg_at 553 (by decide +kernel) (by decide +kernel)
theorem tw_im_X7_removeDependency : Cond.instanceMethod yX7_removeDependency ∈ lwg := lwg_at 556 (by decide +kernel) (by decide +kernel)
theorem tw_im_X7_addFile : Cond.instanceMethod yX7_addFile ∈ lwg := lwg_at 560 (by decide +kernel) (by decide +kernel)
theorem tw_im_X7_isNamed : Cond.instanceMethod yX7_isNamed ∈ lwg := lwg_at 565 (by decide +kernel) (by decide +kernel)
theorem tw_im_X7_isFile : Cond.instanceMethod yX7_isFile ∈ lwg := lwg_at 569 (by decide +kernel) (by decide +kernel)
theorem tw_im_X7_giveName : Cond.instanceMethod yX7_giveName ∈ lwg := lwg_at 576 (by decide +kernel) (by decide +kernel)
theorem tw_im_X7_touch : Cond.instanceMethod yX7_touch ∈ lwg := lwg_at 580 (by decide +kernel) (by decide +kernel)
theorem tw_im_X7_edit : Cond.instanceMethod yX7_edit ∈ lwg := lwg_at 583 (by decide +kernel) (by decide +kernel)
theorem tw_im_X7_rename : Cond.instanceMethod yX7_rename ∈ lwg := lwg_at 587 (by decide +kernel) (by decide +kernel)
theorem tw_im_X7_move : Cond.instanceMethod yX7_move ∈ lwg := lwg_at 591 (by decide +kernel) (by decide +kernel)
theorem tw_im_X7_deleteFile : Cond.instanceMethod yX7_deleteFile ∈ lwg := lwg_at 595 (by decide +kernel) (by decide +kernel)
theorem tw_im_X7_targetOf : Cond.instanceMethod yX7_targetOf ∈ lwg := lwg_at 599 (by decide +kernel) (by decide +kernel)
theorem tw_im_X7_nameOf : Cond.instanceMethod yX7_nameOf ∈ lwg := lwg_at 603 (by decide +kernel) (by decide +kernel)
theorem tw_im_X7_follow : Cond.instanceMethod yX7_follow ∈ lwg := lwg_at 607 (by decide +kernel) (by decide +kernel)
theorem tw_im_X7_clearChanges : Cond.instanceMethod yX7_clearChanges ∈ lwg := lwg_at 611 (by decide +kernel) (by decide +kernel)
theorem tw_im_X7_directlyChanged : Cond.instanceMethod yX7_directlyChanged ∈ lwg := lwg_at 615 (by decide +kernel) (by decide +kernel)
theorem tw_im_X7_changed : Cond.instanceMethod yX7_changed ∈ lwg := lwg_at 622 (by decide +kernel) (by decide +kernel)
theorem tw_im_X7_layChanged : Cond.instanceMethod yX7_layChanged ∈ lwg := lwg_at 627 (by decide +kernel) (by decide +kernel)
theorem tw_im_X7_spread : Cond.instanceMethod yX7_spread ∈ lwg := lwg_at 631 (by decide +kernel) (by decide +kernel)
theorem tw_im_X7_follows : Cond.instanceMethod yX7_follows ∈ lwg := lwg_at 635 (by decide +kernel) (by decide +kernel)
theorem tw_im_X7_setOf : Cond.instanceMethod yX7_setOf ∈ lwg := lwg_at 639 (by decide +kernel) (by decide +kernel)
theorem tw_im_X7_affectedTests : Cond.instanceMethod yX7_affectedTests ∈ lwg := lwg_at 642 (by decide +kernel) (by decide +kernel)
theorem tw_im_X7_rebuilt : Cond.instanceMethod yX7_rebuilt ∈ lwg := lwg_at 647 (by decide +kernel) (by decide +kernel)
theorem tw_im_X7_chain : Cond.instanceMethod yX7_chain ∈ lwg := lwg_at 650 (by decide +kernel) (by decide +kernel)
theorem tw_im_X7_laySteps : Cond.instanceMethod yX7_laySteps ∈ lwg := lwg_at 655 (by decide +kernel) (by decide +kernel)
theorem tw_im_X7_smallest : Cond.instanceMethod yX7_smallest ∈ lwg := lwg_at 659 (by decide +kernel) (by decide +kernel)
theorem tw_im_X7_impact : Cond.instanceMethod yX7_impact ∈ lwg := lwg_at 662 (by decide +kernel) (by decide +kernel)
theorem tw_im_X7_impactOf : Cond.instanceMethod yX7_impactOf ∈ lwg := lwg_at 667 (by decide +kernel) (by decide +kernel)
theorem tw_im_X7_weightOf : Cond.instanceMethod yX7_weightOf ∈ lwg := lwg_at 671 (by decide +kernel) (by decide +kernel)
theorem tw_im_X7_mostCritical : Cond.instanceMethod yX7_mostCritical ∈ lwg := lwg_at 674 (by decide +kernel) (by decide +kernel)
theorem tw_im_X7_rebuildOrder : Cond.instanceMethod yX7_rebuildOrder ∈ lwg := lwg_at 678 (by decide +kernel) (by decide +kernel)
theorem tw_im_X7_layOrder : Cond.instanceMethod yX7_layOrder ∈ lwg := lwg_at 683 (by decide +kernel) (by decide +kernel)
theorem tw_im_X7_waits : Cond.instanceMethod yX7_waits ∈ lwg := lwg_at 687 (by decide +kernel) (by decide +kernel)
theorem tw_im_X7_rebuildTime : Cond.instanceMethod yX7_rebuildTime ∈ lwg := lwg_at 690 (by decide +kernel) (by decide +kernel)
theorem tw_im_X7_shardOf : Cond.instanceMethod yX7_shardOf ∈ lwg := lwg_at 694 (by decide +kernel) (by decide +kernel)
theorem tw_im_X7_layShards : Cond.instanceMethod yX7_layShards ∈ lwg := lwg_at 702 (by decide +kernel) (by decide +kernel)
theorem tw_im_X7_shardLoad : Cond.instanceMethod yX7_shardLoad ∈ lwg := lwg_at 706 (by decide +kernel) (by decide +kernel)
theorem tw_im_X7_bestGreatestLoad : Cond.instanceMethod yX7_bestGreatestLoad ∈ lwg := lwg_at 710 (by decide +kernel) (by decide +kernel)
theorem tw_im_X7_greatestBy : Cond.instanceMethod yX7_greatestBy ∈ lwg := lwg_at 715 (by decide +kernel) (by decide +kernel)
theorem tw_im_X7_save : Cond.instanceMethod yX7_save ∈ lwg := lwg_at 718 (by decide +kernel) (by decide +kernel)
theorem tw_im_X7_restore : Cond.instanceMethod yX7_restore ∈ lwg := lwg_at 722 (by decide +kernel) (by decide +kernel)
theorem tw_se_X6_addTarget : Cond.selects RX6 yX6_addTarget yX6_addTarget ∈ lwg := lwg_at 118 (by decide +kernel) (by decide +kernel)
theorem tw_se_X5_testCount : Cond.selects RX5 yX5_testCount yX5_testCount ∈ lwg := lwg_at 125 (by decide +kernel) (by decide +kernel)
theorem tw_se_X5_append : Cond.selects RX5 yX5_append yX5_append ∈ lwg := lwg_at 135 (by decide +kernel) (by decide +kernel)
theorem tw_se_X6_targetCount : Cond.selects RX6 yX6_targetCount yX6_targetCount ∈ lwg := lwg_at 142 (by decide +kernel) (by decide +kernel)
theorem tw_se_X6_addDependency : Cond.selects RX6 yX6_addDependency yX6_addDependency ∈ lwg := lwg_at 146 (by decide +kernel) (by decide +kernel)
theorem tw_se_X5_has : Cond.selects RX5 yX5_has yX5_has ∈ lwg := lwg_at 150 (by decide +kernel) (by decide +kernel)
theorem tw_se_X5_allows : Cond.selects RX5 yX5_allows yX5_allows ∈ lwg := lwg_at 155 (by decide +kernel) (by decide +kernel)
theorem tw_se_X5_kindBetween : Cond.selects RX5 yX5_kindBetween yX5_kindBetween ∈ lwg := lwg_at 162 (by decide +kernel) (by decide +kernel)
theorem tw_se_X5_withAllUsers : Cond.selects RX5 yX5_withAllUsers yX5_withAllUsers ∈ lwg := lwg_at 167 (by decide +kernel) (by decide +kernel)
theorem tw_se_X5_usersOfAny : Cond.selects RX5 yX5_usersOfAny yX5_usersOfAny ∈ lwg := lwg_at 171 (by decide +kernel) (by decide +kernel)
theorem tw_se_X5_usersOf : Cond.selects RX5 yX5_usersOf yX5_usersOf ∈ lwg := lwg_at 175 (by decide +kernel) (by decide +kernel)
theorem tw_se_X5_connect : Cond.selects RX5 yX5_connect yX5_connect ∈ lwg := lwg_at 180 (by decide +kernel) (by decide +kernel)
theorem tw_se_X6_removeDependency : Cond.selects RX6 yX6_removeDependency yX6_removeDependency ∈ lwg := lwg_at 184 (by decide +kernel) (by decide +kernel)
theorem tw_se_X5_disconnect : Cond.selects RX5 yX5_disconnect yX5_disconnect ∈ lwg := lwg_at 188 (by decide +kernel) (by decide +kernel)
theorem tw_se_X6_addFile : Cond.selects RX6 yX6_addFile yX6_addFile ∈ lwg := lwg_at 192 (by decide +kernel) (by decide +kernel)
theorem tw_se_X1_isInUse : Cond.selects RX1 yX1_isInUse yX1_isInUse ∈ lwg := lwg_at 196 (by decide +kernel) (by decide +kernel)
theorem tw_se_X1_has : Cond.selects RX1 yX1_has yX1_has ∈ lwg := lwg_at 200 (by decide +kernel) (by decide +kernel)
theorem tw_se_X1_append : Cond.selects RX1 yX1_append yX1_append ∈ lwg := lwg_at 205 (by decide +kernel) (by decide +kernel)
theorem tw_se_X1_giveName : Cond.selects RX1 yX1_giveName yX1_giveName ∈ lwg := lwg_at 209 (by decide +kernel) (by decide +kernel)
theorem tw_se_X4_touchBy : Cond.selects RX4 yX4_touchBy yX4_touchBy ∈ lwg := lwg_at 213 (by decide +kernel) (by decide +kernel)
theorem tw_se_X6_edit : Cond.selects RX6 yX6_edit yX6_edit ∈ lwg := lwg_at 221 (by decide +kernel) (by decide +kernel)
theorem tw_se_X6_rename : Cond.selects RX6 yX6_rename yX6_rename ∈ lwg := lwg_at 226 (by decide +kernel) (by decide +kernel)
theorem tw_se_X6_move : Cond.selects RX6 yX6_move yX6_move ∈ lwg := lwg_at 231 (by decide +kernel) (by decide +kernel)
theorem tw_se_X6_deleteFile : Cond.selects RX6 yX6_deleteFile yX6_deleteFile ∈ lwg := lwg_at 235 (by decide +kernel) (by decide +kernel)
theorem tw_se_X6_targetOf : Cond.selects RX6 yX6_targetOf yX6_targetOf ∈ lwg := lwg_at 239 (by decide +kernel) (by decide +kernel)
theorem tw_se_X6_nameOf : Cond.selects RX6 yX6_nameOf yX6_nameOf ∈ lwg := lwg_at 243 (by decide +kernel) (by decide +kernel)
theorem tw_se_X6_follow : Cond.selects RX6 yX6_follow yX6_follow ∈ lwg := lwg_at 247 (by decide +kernel) (by decide +kernel)
theorem tw_se_X6_clearChanges : Cond.selects RX6 yX6_clearChanges yX6_clearChanges ∈ lwg := lwg_at 251 (by decide +kernel) (by decide +kernel)
theorem tw_se_X6_directlyChanged : Cond.selects RX6 yX6_directlyChanged yX6_directlyChanged ∈ lwg := lwg_at 261 (by decide +kernel) (by decide +kernel)
theorem tw_se_X6_changed : Cond.selects RX6 yX6_changed yX6_changed ∈ lwg := lwg_at 268 (by decide +kernel) (by decide +kernel)
theorem tw_se_X5_reachOf : Cond.selects RX5 yX5_reachOf yX5_reachOf ∈ lwg := lwg_at 272 (by decide +kernel) (by decide +kernel)
theorem tw_se_X5_followersOfAny : Cond.selects RX5 yX5_followersOfAny yX5_followersOfAny ∈ lwg := lwg_at 276 (by decide +kernel) (by decide +kernel)
theorem tw_se_X5_followersOf : Cond.selects RX5 yX5_followersOf yX5_followersOf ∈ lwg := lwg_at 286 (by decide +kernel) (by decide +kernel)
theorem tw_se_X6_affectedTests : Cond.selects RX6 yX6_affectedTests yX6_affectedTests ∈ lwg := lwg_at 292 (by decide +kernel) (by decide +kernel)
theorem tw_se_X4_testsToRun : Cond.selects RX4 yX4_testsToRun yX4_testsToRun ∈ lwg := lwg_at 296 (by decide +kernel) (by decide +kernel)
theorem tw_se_X4_rebuilt : Cond.selects RX4 yX4_rebuilt yX4_rebuilt ∈ lwg := lwg_at 300 (by decide +kernel) (by decide +kernel)
theorem tw_se_X6_chain : Cond.selects RX6 yX6_chain yX6_chain ∈ lwg := lwg_at 307 (by decide +kernel) (by decide +kernel)
theorem tw_se_X5_causesOfAny : Cond.selects RX5 yX5_causesOfAny yX5_causesOfAny ∈ lwg := lwg_at 321 (by decide +kernel) (by decide +kernel)
theorem tw_se_X6_impact : Cond.selects RX6 yX6_impact yX6_impact ∈ lwg := lwg_at 341 (by decide +kernel) (by decide +kernel)
theorem tw_se_X5_weightRebuiltBy : Cond.selects RX5 yX5_weightRebuiltBy yX5_weightRebuiltBy ∈ lwg := lwg_at 345 (by decide +kernel) (by decide +kernel)
theorem tw_se_X6_mostCritical : Cond.selects RX6 yX6_mostCritical yX6_mostCritical ∈ lwg := lwg_at 351 (by decide +kernel) (by decide +kernel)
theorem tw_se_X6_rebuildOrder : Cond.selects RX6 yX6_rebuildOrder yX6_rebuildOrder ∈ lwg := lwg_at 355 (by decide +kernel) (by decide +kernel)
theorem tw_se_X6_rebuildTime : Cond.selects RX6 yX6_rebuildTime yX6_rebuildTime ∈ lwg := lwg_at 386 (by decide +kernel) (by decide +kernel)
theorem tw_se_X2_time : Cond.selects RX2 yX2_time yX2_time ∈ lwg := lwg_at 390 (by decide +kernel) (by decide +kernel)
theorem tw_se_X6_shardOf : Cond.selects RX6 yX6_shardOf yX6_shardOf ∈ lwg := lwg_at 399 (by decide +kernel) (by decide +kernel)
theorem tw_se_X5_heaviest : Cond.selects RX5 yX5_heaviest yX5_heaviest ∈ lwg := lwg_at 412 (by decide +kernel) (by decide +kernel)
theorem tw_se_X6_shardLoad : Cond.selects RX6 yX6_shardLoad yX6_shardLoad ∈ lwg := lwg_at 436 (by decide +kernel) (by decide +kernel)
theorem tw_se_X6_bestGreatestLoad : Cond.selects RX6 yX6_bestGreatestLoad yX6_bestGreatestLoad ∈ lwg := lwg_at 440 (by decide +kernel) (by decide +kernel)
theorem tw_se_X3_leastGreatestLoad : Cond.selects RX3 yX3_leastGreatestLoad yX3_leastGreatestLoad ∈ lwg := lwg_at 444 (by decide +kernel) (by decide +kernel)
theorem tw_se_X6_save : Cond.selects RX6 yX6_save yX6_save ∈ lwg := lwg_at 461 (by decide +kernel) (by decide +kernel)
theorem tw_se_X4_copyFrom : Cond.selects RX4 yX4_copyFrom yX4_copyFrom ∈ lwg := lwg_at 465 (by decide +kernel) (by decide +kernel)
theorem tw_se_X5_copyFrom : Cond.selects RX5 yX5_copyFrom yX5_copyFrom ∈ lwg := lwg_at 469 (by decide +kernel) (by decide +kernel)
theorem tw_se_X1_copyFrom : Cond.selects RX1 yX1_copyFrom yX1_copyFrom ∈ lwg := lwg_at 476 (by decide +kernel) (by decide +kernel)
theorem tw_se_X6_restore : Cond.selects RX6 yX6_restore yX6_restore ∈ lwg := lwg_at 481 (by decide +kernel) (by decide +kernel)
theorem tw_se_X7_addTarget : Cond.selects RX7 yX7_addTarget yX7_addTarget ∈ lwg := lwg_at 522 (by decide +kernel) (by decide +kernel)
theorem tw_se_X7_targetCount : Cond.selects RX7 yX7_targetCount yX7_targetCount ∈ lwg := lwg_at 537 (by decide +kernel) (by decide +kernel)
theorem tw_se_X7_addDependency : Cond.selects RX7 yX7_addDependency yX7_addDependency ∈ lwg := lwg_at 541 (by decide +kernel) (by decide +kernel)
theorem tw_se_X7_removeDependency : Cond.selects RX7 yX7_removeDependency yX7_removeDependency ∈ lwg := lwg_at 557 (by decide +kernel) (by decide +kernel)
theorem tw_se_X7_addFile : Cond.selects RX7 yX7_addFile yX7_addFile ∈ lwg := lwg_at 561 (by decide +kernel) (by decide +kernel)
theorem tw_se_X7_edit : Cond.selects RX7 yX7_edit yX7_edit ∈ lwg := lwg_at 584 (by decide +kernel) (by decide +kernel)
theorem tw_se_X7_rename : Cond.selects RX7 yX7_rename yX7_rename ∈ lwg := lwg_at 588 (by decide +kernel) (by decide +kernel)
theorem tw_se_X7_move : Cond.selects RX7 yX7_move yX7_move ∈ lwg := lwg_at 592 (by decide +kernel) (by decide +kernel)
theorem tw_se_X7_deleteFile : Cond.selects RX7 yX7_deleteFile yX7_deleteFile ∈ lwg := lwg_at 596 (by decide +kernel) (by decide +kernel)
theorem tw_se_X7_targetOf : Cond.selects RX7 yX7_targetOf yX7_targetOf ∈ lwg := lwg_at 600 (by decide +kernel) (by decide +kernel)
theorem tw_se_X7_nameOf : Cond.selects RX7 yX7_nameOf yX7_nameOf ∈ lwg := lwg_at 604 (by decide +kernel) (by decide +kernel)
theorem tw_se_X7_follow : Cond.selects RX7 yX7_follow yX7_follow ∈ lwg := lwg_at 608 (by decide +kernel) (by decide +kernel)
theorem tw_se_X7_clearChanges : Cond.selects RX7 yX7_clearChanges yX7_clearChanges ∈ lwg := lwg_at 612 (by decide +kernel) (by decide +kernel)
theorem tw_se_X7_directlyChanged : Cond.selects RX7 yX7_directlyChanged yX7_directlyChanged ∈ lwg := lwg_at 616 (by decide +kernel) (by decide +kernel)
theorem tw_se_X7_changed : Cond.selects RX7 yX7_changed yX7_changed ∈ lwg := lwg_at 623 (by decide +kernel) (by decide +kernel)
theorem tw_se_X7_affectedTests : Cond.selects RX7 yX7_affectedTests yX7_affectedTests ∈ lwg := lwg_at 643 (by decide +kernel) (by decide +kernel)
theorem tw_se_X7_chain : Cond.selects RX7 yX7_chain yX7_chain ∈ lwg := lwg_at 651 (by decide +kernel) (by decide +kernel)
theorem tw_se_X7_impact : Cond.selects RX7 yX7_impact yX7_impact ∈ lwg := lwg_at 663 (by decide +kernel) (by decide +kernel)
theorem tw_se_X7_mostCritical : Cond.selects RX7 yX7_mostCritical yX7_mostCritical ∈ lwg := lwg_at 675 (by decide +kernel) (by decide +kernel)
theorem tw_se_X7_rebuildOrder : Cond.selects RX7 yX7_rebuildOrder yX7_rebuildOrder ∈ lwg := lwg_at 679 (by decide +kernel) (by decide +kernel)
theorem tw_se_X7_rebuildTime : Cond.selects RX7 yX7_rebuildTime yX7_rebuildTime ∈ lwg := lwg_at 691 (by decide +kernel) (by decide +kernel)
theorem tw_se_X7_shardOf : Cond.selects RX7 yX7_shardOf yX7_shardOf ∈ lwg := lwg_at 695 (by decide +kernel) (by decide +kernel)
theorem tw_se_X7_shardLoad : Cond.selects RX7 yX7_shardLoad yX7_shardLoad ∈ lwg := lwg_at 707 (by decide +kernel) (by decide +kernel)
theorem tw_se_X7_bestGreatestLoad : Cond.selects RX7 yX7_bestGreatestLoad yX7_bestGreatestLoad ∈ lwg := lwg_at 711 (by decide +kernel) (by decide +kernel)
theorem tw_se_X7_save : Cond.selects RX7 yX7_save yX7_save ∈ lwg := lwg_at 719 (by decide +kernel) (by decide +kernel)
theorem tw_se_X7_restore : Cond.selects RX7 yX7_restore yX7_restore ∈ lwg := lwg_at 723 (by decide +kernel) (by decide +kernel)
theorem tw_se_X7_tests : Cond.selects RX7 yX7_tests yX7_tests ∈ lwg := lwg_sel 0 (by decide +kernel) (by decide +kernel)
theorem tw_se_X7_kindOf : Cond.selects RX7 yX7_kindOf yX7_kindOf ∈ lwg := lwg_sel 1 (by decide +kernel) (by decide +kernel)
theorem tw_se_X7_isTarget : Cond.selects RX7 yX7_isTarget yX7_isTarget ∈ lwg := lwg_sel 2 (by decide +kernel) (by decide +kernel)
theorem tw_se_X7_linkOf : Cond.selects RX7 yX7_linkOf yX7_linkOf ∈ lwg := lwg_sel 3 (by decide +kernel) (by decide +kernel)
theorem tw_se_X7_reachOf : Cond.selects RX7 yX7_reachOf yX7_reachOf ∈ lwg := lwg_sel 4 (by decide +kernel) (by decide +kernel)
theorem tw_se_X7_isNamed : Cond.selects RX7 yX7_isNamed yX7_isNamed ∈ lwg := lwg_sel 5 (by decide +kernel) (by decide +kernel)
theorem tw_se_X7_isFile : Cond.selects RX7 yX7_isFile yX7_isFile ∈ lwg := lwg_sel 6 (by decide +kernel) (by decide +kernel)
theorem tw_se_X7_giveName : Cond.selects RX7 yX7_giveName yX7_giveName ∈ lwg := lwg_sel 7 (by decide +kernel) (by decide +kernel)
theorem tw_se_X7_touch : Cond.selects RX7 yX7_touch yX7_touch ∈ lwg := lwg_sel 8 (by decide +kernel) (by decide +kernel)
theorem tw_se_X7_layChanged : Cond.selects RX7 yX7_layChanged yX7_layChanged ∈ lwg := lwg_sel 9 (by decide +kernel) (by decide +kernel)
theorem tw_se_X7_spread : Cond.selects RX7 yX7_spread yX7_spread ∈ lwg := lwg_sel 10 (by decide +kernel) (by decide +kernel)
theorem tw_se_X7_follows : Cond.selects RX7 yX7_follows yX7_follows ∈ lwg := lwg_sel 11 (by decide +kernel) (by decide +kernel)
theorem tw_se_X7_setOf : Cond.selects RX7 yX7_setOf yX7_setOf ∈ lwg := lwg_sel 12 (by decide +kernel) (by decide +kernel)
theorem tw_se_X7_rebuilt : Cond.selects RX7 yX7_rebuilt yX7_rebuilt ∈ lwg := lwg_sel 13 (by decide +kernel) (by decide +kernel)
theorem tw_se_X7_laySteps : Cond.selects RX7 yX7_laySteps yX7_laySteps ∈ lwg := lwg_sel 14 (by decide +kernel) (by decide +kernel)
theorem tw_se_X7_smallest : Cond.selects RX7 yX7_smallest yX7_smallest ∈ lwg := lwg_sel 15 (by decide +kernel) (by decide +kernel)
theorem tw_se_X7_impactOf : Cond.selects RX7 yX7_impactOf yX7_impactOf ∈ lwg := lwg_sel 16 (by decide +kernel) (by decide +kernel)
theorem tw_se_X7_weightOf : Cond.selects RX7 yX7_weightOf yX7_weightOf ∈ lwg := lwg_sel 17 (by decide +kernel) (by decide +kernel)
theorem tw_se_X7_layOrder : Cond.selects RX7 yX7_layOrder yX7_layOrder ∈ lwg := lwg_sel 18 (by decide +kernel) (by decide +kernel)
theorem tw_se_X7_waits : Cond.selects RX7 yX7_waits yX7_waits ∈ lwg := lwg_sel 19 (by decide +kernel) (by decide +kernel)
theorem tw_se_X7_layShards : Cond.selects RX7 yX7_layShards yX7_layShards ∈ lwg := lwg_sel 20 (by decide +kernel) (by decide +kernel)
theorem tw_se_X7_greatestBy : Cond.selects RX7 yX7_greatestBy yX7_greatestBy ∈ lwg := lwg_sel 21 (by decide +kernel) (by decide +kernel)
theorem ml_X6_24 : Cond.methodLink RX6 24 yX6_inRange ∈ lwg := lwg_at 120 (by decide +kernel) (by decide +kernel)
theorem cs_X6_24 : CSok RX6 24 yX6_inRange cX6_inRange 2 (some .boolean) 2 := ⟨ml_X6_24, tw_st_X6_inRange, tw_in_X6, tw_cd_X6_inRange, ⟨by decide +kernel, by decide +kernel, by decide +kernel⟩⟩
theorem ml_X6_34 : Cond.methodLink RX6 34 yX5_testCount ∈ lwg := lwg_at 123 (by decide +kernel) (by decide +kernel)
theorem cs_X6_34 : CVok RX6 34 RX5 yX5_testCount cX5_testCount 1 (some .int) 0 := ⟨ml_X6_34, ⟨tw_im_X5_testCount, tw_se_X5_testCount⟩, tw_in_X5, tw_cd_X5_testCount, ⟨by decide +kernel, by decide +kernel, by decide +kernel⟩⟩
theorem ml_X6_38 : Cond.methodLink RX6 38 yX5_append ∈ lwg := lwg_at 133 (by decide +kernel) (by decide +kernel)
theorem cs_X6_38 : CVok RX6 38 RX5 yX5_append cX5_append 4 (some .int) 2 := ⟨ml_X6_38, ⟨tw_im_X5_append, tw_se_X5_append⟩, tw_in_X5, tw_cd_X5_append, ⟨by decide +kernel, by decide +kernel, by decide +kernel⟩⟩
theorem ml_X6_42 : Cond.methodLink RX6 42 yX5_has ∈ lwg := lwg_at 148 (by decide +kernel) (by decide +kernel)
theorem cs_X6_42 : CVok RX6 42 RX5 yX5_has cX5_has 2 (some .boolean) 1 := ⟨ml_X6_42, ⟨tw_im_X5_has, tw_se_X5_has⟩, tw_in_X5, tw_cd_X5_has, ⟨by decide +kernel, by decide +kernel, by decide +kernel⟩⟩
theorem ml_X6_46 : Cond.methodLink RX6 46 yX5_allows ∈ lwg := lwg_at 153 (by decide +kernel) (by decide +kernel)
theorem cs_X6_46 : CVok RX6 46 RX5 yX5_allows cX5_allows 4 (some .boolean) 3 := ⟨ml_X6_46, ⟨tw_im_X5_allows, tw_se_X5_allows⟩, tw_in_X5, tw_cd_X5_allows, ⟨by decide +kernel, by decide +kernel, by decide +kernel⟩⟩
theorem ml_X6_50 : Cond.methodLink RX6 50 yX5_kindBetween ∈ lwg := lwg_at 160 (by decide +kernel) (by decide +kernel)
theorem cs_X6_50 : CVok RX6 50 RX5 yX5_kindBetween cX5_kindBetween 4 (some .int) 2 := ⟨ml_X6_50, ⟨tw_im_X5_kindBetween, tw_se_X5_kindBetween⟩, tw_in_X5, tw_cd_X5_kindBetween, ⟨by decide +kernel, by decide +kernel, by decide +kernel⟩⟩
theorem ml_X6_53 : Cond.methodLink RX6 53 yX6_setOf ∈ lwg := lwg_at 164 (by decide +kernel) (by decide +kernel)
theorem cs_X6_53 : CSok RX6 53 yX6_setOf cX6_setOf 1 (some .int) 1 := ⟨ml_X6_53, tw_st_X6_setOf, tw_in_X6, tw_cd_X6_setOf, ⟨by decide +kernel, by decide +kernel, by decide +kernel⟩⟩
theorem ml_X6_57 : Cond.methodLink RX6 57 yX5_withAllUsers ∈ lwg := lwg_at 165 (by decide +kernel) (by decide +kernel)
theorem cs_X6_57 : CVok RX6 57 RX5 yX5_withAllUsers cX5_withAllUsers 6 (some .int) 2 := ⟨ml_X6_57, ⟨tw_im_X5_withAllUsers, tw_se_X5_withAllUsers⟩, tw_in_X5, tw_cd_X5_withAllUsers, ⟨by decide +kernel, by decide +kernel, by decide +kernel⟩⟩
theorem ml_X6_60 : Cond.methodLink RX6 60 yX6_contains ∈ lwg := lwg_at 177 (by decide +kernel) (by decide +kernel)
theorem cs_X6_60 : CSok RX6 60 yX6_contains cX6_contains 2 (some .boolean) 2 := ⟨ml_X6_60, tw_st_X6_contains, tw_in_X6, tw_cd_X6_contains, ⟨by decide +kernel, by decide +kernel, by decide +kernel⟩⟩
theorem ml_X6_66 : Cond.methodLink RX6 66 yX5_connect ∈ lwg := lwg_at 178 (by decide +kernel) (by decide +kernel)
theorem cs_X6_66 : CVok RX6 66 RX5 yX5_connect cX5_connect 4 none 3 := ⟨ml_X6_66, ⟨tw_im_X5_connect, tw_se_X5_connect⟩, tw_in_X5, tw_cd_X5_connect, ⟨by decide +kernel, by decide +kernel, by decide +kernel⟩⟩
theorem ml_X6_70 : Cond.methodLink RX6 70 yX5_disconnect ∈ lwg := lwg_at 186 (by decide +kernel) (by decide +kernel)
theorem cs_X6_70 : CVok RX6 70 RX5 yX5_disconnect cX5_disconnect 4 none 3 := ⟨ml_X6_70, ⟨tw_im_X5_disconnect, tw_se_X5_disconnect⟩, tw_in_X5, tw_cd_X5_disconnect, ⟨by decide +kernel, by decide +kernel, by decide +kernel⟩⟩
theorem ml_X6_77 : Cond.methodLink RX6 77 yX1_isInUse ∈ lwg := lwg_at 194 (by decide +kernel) (by decide +kernel)
theorem cs_X6_77 : CVok RX6 77 RX1 yX1_isInUse cX1_isInUse 3 (some .boolean) 1 := ⟨ml_X6_77, ⟨tw_im_X1_isInUse, tw_se_X1_isInUse⟩, tw_in_X1, tw_cd_X1_isInUse, ⟨by decide +kernel, by decide +kernel, by decide +kernel⟩⟩
theorem ml_X6_83 : Cond.methodLink RX6 83 yX1_append ∈ lwg := lwg_at 203 (by decide +kernel) (by decide +kernel)
theorem cs_X6_83 : CVok RX6 83 RX1 yX1_append cX1_append 5 (some .int) 3 := ⟨ml_X6_83, ⟨tw_im_X1_append, tw_se_X1_append⟩, tw_in_X1, tw_cd_X1_append, ⟨by decide +kernel, by decide +kernel, by decide +kernel⟩⟩
theorem ml_X6_86 : Cond.methodLink RX6 86 yX4_touchBy ∈ lwg := lwg_at 211 (by decide +kernel) (by decide +kernel)
theorem cs_X6_86 : CVok RX6 86 RX4 yX4_touchBy cX4_touchBy 3 none 1 := ⟨ml_X6_86, ⟨tw_im_X4_touchBy, tw_se_X4_touchBy⟩, tw_in_X4, tw_cd_X4_touchBy, ⟨by decide +kernel, by decide +kernel, by decide +kernel⟩⟩
theorem ml_X6_90 : Cond.methodLink RX6 90 yX1_has ∈ lwg := lwg_at 223 (by decide +kernel) (by decide +kernel)
theorem cs_X6_90 : CVok RX6 90 RX1 yX1_has cX1_has 2 (some .boolean) 1 := ⟨ml_X6_90, ⟨tw_im_X1_has, tw_se_X1_has⟩, tw_in_X1, tw_cd_X1_has, ⟨by decide +kernel, by decide +kernel, by decide +kernel⟩⟩
theorem ml_X6_98 : Cond.methodLink RX6 98 yX1_giveName ∈ lwg := lwg_at 228 (by decide +kernel) (by decide +kernel)
theorem cs_X6_98 : CVok RX6 98 RX1 yX1_giveName cX1_giveName 3 none 2 := ⟨ml_X6_98, ⟨tw_im_X1_giveName, tw_se_X1_giveName⟩, tw_in_X1, tw_cd_X1_giveName, ⟨by decide +kernel, by decide +kernel, by decide +kernel⟩⟩
theorem ml_X6_116 : Cond.methodLink RX6 116 yJ13_bitCount_95d88 ∈ lwg := lwg_at 253 (by decide +kernel) (by decide +kernel)
theorem cs_X6_116 : CSok RX6 116 yJ13_bitCount_95d88 cJ13_bitCount_95d88 2 (some .int) 1 := ⟨ml_X6_116, tw_st_J13_bitCount_95d88, tw_in_J13, tw_cd_J13_bitCount_95d88, ⟨by decide +kernel, by decide +kernel, by decide +kernel⟩⟩
theorem ml_X6_122 : Cond.methodLink RX6 122 yX6_targetsWith ∈ lwg := lwg_at 263 (by decide +kernel) (by decide +kernel)
theorem cs_X6_122 : CSok RX6 122 yX6_targetsWith cX6_targetsWith 3 (some .int) 2 := ⟨ml_X6_122, tw_st_X6_targetsWith, tw_in_X6, tw_cd_X6_targetsWith, ⟨by decide +kernel, by decide +kernel, by decide +kernel⟩⟩
theorem ml_X6_126 : Cond.methodLink RX6 126 yX5_reachOf ∈ lwg := lwg_at 270 (by decide +kernel) (by decide +kernel)
theorem cs_X6_126 : CVok RX6 126 RX5 yX5_reachOf cX5_reachOf 8 (some .long) 1 := ⟨ml_X6_126, ⟨tw_im_X5_reachOf, tw_se_X5_reachOf⟩, tw_in_X5, tw_cd_X5_reachOf, ⟨by decide +kernel, by decide +kernel, by decide +kernel⟩⟩
theorem ml_X6_130 : Cond.methodLink RX6 130 yX4_testsToRun ∈ lwg := lwg_at 294 (by decide +kernel) (by decide +kernel)
theorem cs_X6_130 : CVok RX6 130 RX4 yX4_testsToRun cX4_testsToRun 1 (some .int) 0 := ⟨ml_X6_130, ⟨tw_im_X4_testsToRun, tw_se_X4_testsToRun⟩, tw_in_X4, tw_cd_X4_testsToRun, ⟨by decide +kernel, by decide +kernel, by decide +kernel⟩⟩
theorem ml_X6_135 : Cond.methodLink RX6 135 yX6_pairOf ∈ lwg := lwg_at 311 (by decide +kernel) (by decide +kernel)
theorem cs_X6_135 : CSok RX6 135 yX6_pairOf cX6_pairOf 2 (some .int) 2 := ⟨ml_X6_135, tw_st_X6_pairOf, tw_in_X6, tw_cd_X6_pairOf, ⟨by decide +kernel, by decide +kernel, by decide +kernel⟩⟩
theorem ml_X6_138 : Cond.methodLink RX6 138 yX0_init ∈ lwg := lwg_at 314 (by decide +kernel) (by decide +kernel)
theorem cs_X6_138 : CIok RX6 138 yX0_init cX0_init 9 3 := ⟨ml_X6_138, ⟨rfl, tw_im_X0_init⟩, tw_in_X0, tw_cd_X0_init, ⟨by decide +kernel, by decide +kernel, by decide +kernel⟩⟩
theorem ml_X6_147 : Cond.methodLink RX6 147 yX5_weightRebuiltBy ∈ lwg := lwg_at 343 (by decide +kernel) (by decide +kernel)
theorem cs_X6_147 : CVok RX6 147 RX5 yX5_weightRebuiltBy cX5_weightRebuiltBy 5 (some .int) 1 := ⟨ml_X6_147, ⟨tw_im_X5_weightRebuiltBy, tw_se_X5_weightRebuiltBy⟩, tw_in_X5, tw_cd_X5_weightRebuiltBy, ⟨by decide +kernel, by decide +kernel, by decide +kernel⟩⟩
theorem ml_X6_152 : Cond.methodLink RX6 152 yX4_rebuilt ∈ lwg := lwg_at 359 (by decide +kernel) (by decide +kernel)
theorem cs_X6_152 : CVok RX6 152 RX4 yX4_rebuilt cX4_rebuilt 1 (some .int) 0 := ⟨ml_X6_152, ⟨tw_im_X4_rebuilt, tw_se_X4_rebuilt⟩, tw_in_X4, tw_cd_X4_rebuilt, ⟨by decide +kernel, by decide +kernel, by decide +kernel⟩⟩
theorem ml_X6_155 : Cond.methodLink RX6 155 yX2_init ∈ lwg := lwg_at 360 (by decide +kernel) (by decide +kernel)
theorem cs_X6_155 : CIok RX6 155 yX2_init cX2_init 6 2 := ⟨ml_X6_155, ⟨rfl, tw_im_X2_init⟩, tw_in_X2, tw_cd_X2_init, ⟨by decide +kernel, by decide +kernel, by decide +kernel⟩⟩
theorem ml_X6_162 : Cond.methodLink RX6 162 yX2_time ∈ lwg := lwg_at 388 (by decide +kernel) (by decide +kernel)
theorem cs_X6_162 : CVok RX6 162 RX2 yX2_time cX2_time 8 (some .int) 0 := ⟨ml_X6_162, ⟨tw_im_X2_time, tw_se_X2_time⟩, tw_in_X2, tw_cd_X2_time, ⟨by decide +kernel, by decide +kernel, by decide +kernel⟩⟩
theorem ml_X6_165 : Cond.methodLink RX6 165 yX6_isShardCount ∈ lwg := lwg_at 401 (by decide +kernel) (by decide +kernel)
theorem cs_X6_165 : CSok RX6 165 yX6_isShardCount cX6_isShardCount 1 (some .boolean) 1 := ⟨ml_X6_165, tw_st_X6_isShardCount, tw_in_X6, tw_cd_X6_isShardCount, ⟨by decide +kernel, by decide +kernel, by decide +kernel⟩⟩
theorem ml_X6_170 : Cond.methodLink RX6 170 yX3_init ∈ lwg := lwg_at 406 (by decide +kernel) (by decide +kernel)
theorem cs_X6_170 : CIok RX6 170 yX3_init cX3_init 9 3 := ⟨ml_X6_170, ⟨rfl, tw_im_X3_init⟩, tw_in_X3, tw_cd_X3_init, ⟨by decide +kernel, by decide +kernel, by decide +kernel⟩⟩
theorem ml_X6_179 : Cond.methodLink RX6 179 yX3_leastGreatestLoad ∈ lwg := lwg_at 442 (by decide +kernel) (by decide +kernel)
theorem cs_X6_179 : CVok RX6 179 RX3 yX3_leastGreatestLoad cX3_leastGreatestLoad 1 (some .int) 0 := ⟨ml_X6_179, ⟨tw_im_X3_leastGreatestLoad, tw_se_X3_leastGreatestLoad⟩, tw_in_X3, tw_cd_X3_leastGreatestLoad, ⟨by decide +kernel, by decide +kernel, by decide +kernel⟩⟩
theorem ml_X6_182 : Cond.methodLink RX6 182 yX4_copyFrom ∈ lwg := lwg_at 463 (by decide +kernel) (by decide +kernel)
theorem cs_X6_182 : CVok RX6 182 RX4 yX4_copyFrom cX4_copyFrom 2 none 1 := ⟨ml_X6_182, ⟨tw_im_X4_copyFrom, tw_se_X4_copyFrom⟩, tw_in_X4, tw_cd_X4_copyFrom, ⟨by decide +kernel, by decide +kernel, by decide +kernel⟩⟩
theorem ml_X6_186 : Cond.methodLink RX6 186 yX6_setOfPair ∈ lwg := lwg_at 281 (by decide +kernel) (by decide +kernel)
theorem cs_X6_186 : CSok RX6 186 yX6_setOfPair cX6_setOfPair 1 (some .long) 1 := ⟨ml_X6_186, tw_st_X6_setOfPair, tw_in_X6, tw_cd_X6_setOfPair, ⟨by decide +kernel, by decide +kernel, by decide +kernel⟩⟩
theorem ml_X6_190 : Cond.methodLink RX6 190 yX6_containsPair ∈ lwg := lwg_at 327 (by decide +kernel) (by decide +kernel)
theorem cs_X6_190 : CSok RX6 190 yX6_containsPair cX6_containsPair 3 (some .boolean) 2 := ⟨ml_X6_190, tw_st_X6_containsPair, tw_in_X6, tw_cd_X6_containsPair, ⟨by decide +kernel, by decide +kernel, by decide +kernel⟩⟩
theorem ml_X0_19 : Cond.methodLink RX0 19 yX5_causesOfAny ∈ lwg := lwg_at 319 (by decide +kernel) (by decide +kernel)
theorem cs_X0_19 : CVok RX0 19 RX5 yX5_causesOfAny cX5_causesOfAny 6 (some .long) 1 := ⟨ml_X0_19, ⟨tw_im_X5_causesOfAny, tw_se_X5_causesOfAny⟩, tw_in_X5, tw_cd_X5_causesOfAny, ⟨by decide +kernel, by decide +kernel, by decide +kernel⟩⟩
theorem ml_X0_33 : Cond.methodLink RX0 33 yX5_followersOf ∈ lwg := lwg_at 328 (by decide +kernel) (by decide +kernel)
theorem cs_X0_33 : CVok RX0 33 RX5 yX5_followersOf cX5_followersOf 3 (some .long) 1 := ⟨ml_X0_33, ⟨tw_im_X5_followersOf, tw_se_X5_followersOf⟩, tw_in_X5, tw_cd_X5_followersOf, ⟨by decide +kernel, by decide +kernel, by decide +kernel⟩⟩
theorem ml_X1_25 : Cond.methodLink RX1 25 yJ7_fill_53178 ∈ lwg := lwg_at 64 (by decide +kernel) (by decide +kernel)
theorem cs_X1_25 : CSok RX1 25 yJ7_fill_53178 cJ7_fill_53178 4 none 2 := ⟨ml_X1_25, tw_st_J7_fill_53178, tw_in_J7, tw_cd_J7_fill_53178, ⟨by decide +kernel, by decide +kernel, by decide +kernel⟩⟩
theorem ml_X1_48 : Cond.methodLink RX1 48 yX1_has ∈ lwg := lwg_at 198 (by decide +kernel) (by decide +kernel)
theorem cs_X1_48 : CVok RX1 48 RX1 yX1_has cX1_has 2 (some .boolean) 1 := ⟨ml_X1_48, ⟨tw_im_X1_has, tw_se_X1_has⟩, tw_in_X1, tw_cd_X1_has, ⟨by decide +kernel, by decide +kernel, by decide +kernel⟩⟩
theorem ml_X1_52 : Cond.methodLink RX1 52 yX1_giveName ∈ lwg := lwg_at 207 (by decide +kernel) (by decide +kernel)
theorem cs_X1_52 : CVok RX1 52 RX1 yX1_giveName cX1_giveName 3 none 2 := ⟨ml_X1_52, ⟨tw_im_X1_giveName, tw_se_X1_giveName⟩, tw_in_X1, tw_cd_X1_giveName, ⟨by decide +kernel, by decide +kernel, by decide +kernel⟩⟩
theorem ml_X2_23 : Cond.methodLink RX2 23 yX5_usersOfAny ∈ lwg := lwg_at 364 (by decide +kernel) (by decide +kernel)
theorem cs_X2_23 : CVok RX2 23 RX5 yX5_usersOfAny cX5_usersOfAny 5 (some .int) 2 := ⟨ml_X2_23, ⟨tw_im_X5_usersOfAny, tw_se_X5_usersOfAny⟩, tw_in_X5, tw_cd_X5_usersOfAny, ⟨by decide +kernel, by decide +kernel, by decide +kernel⟩⟩
theorem ml_X2_42 : Cond.methodLink RX2 42 yJ9_max_7cf53 ∈ lwg := lwg_at 392 (by decide +kernel) (by decide +kernel)
theorem cs_X2_42 : CSok RX2 42 yJ9_max_7cf53 cJ9_max_7cf53 2 (some .int) 2 := ⟨ml_X2_42, tw_st_J9_max_7cf53, tw_in_J9, tw_cd_J9_max_7cf53, ⟨by decide +kernel, by decide +kernel, by decide +kernel⟩⟩
theorem ml_X2_47 : Cond.methodLink RX2 47 yX5_usersOf ∈ lwg := lwg_at 395 (by decide +kernel) (by decide +kernel)
theorem cs_X2_47 : CVok RX2 47 RX5 yX5_usersOf cX5_usersOf 5 (some .int) 2 := ⟨ml_X2_47, ⟨tw_im_X5_usersOf, tw_se_X5_usersOf⟩, tw_in_X5, tw_cd_X5_usersOf, ⟨by decide +kernel, by decide +kernel, by decide +kernel⟩⟩
theorem ml_X3_18 : Cond.methodLink RX3 18 yX5_heaviest ∈ lwg := lwg_at 410 (by decide +kernel) (by decide +kernel)
theorem cs_X3_18 : CVok RX3 18 RX5 yX5_heaviest cX5_heaviest 5 (some .int) 1 := ⟨ml_X3_18, ⟨tw_im_X5_heaviest, tw_se_X5_heaviest⟩, tw_in_X5, tw_cd_X5_heaviest, ⟨by decide +kernel, by decide +kernel, by decide +kernel⟩⟩
theorem ml_X3_24 : Cond.methodLink RX3 24 yX5_has ∈ lwg := lwg_at 414 (by decide +kernel) (by decide +kernel)
theorem cs_X3_24 : CVok RX3 24 RX5 yX5_has cX5_has 2 (some .boolean) 1 := ⟨ml_X3_24, ⟨tw_im_X5_has, tw_se_X5_has⟩, tw_in_X5, tw_cd_X5_has, ⟨by decide +kernel, by decide +kernel, by decide +kernel⟩⟩
theorem ml_X3_28 : Cond.methodLink RX3 28 yX3_leastLoaded ∈ lwg := lwg_at 415 (by decide +kernel) (by decide +kernel)
theorem cs_X3_28 : CSok RX3 28 yX3_leastLoaded cX3_leastLoaded 3 (some .int) 1 := ⟨ml_X3_28, tw_st_X3_leastLoaded, tw_in_X3, tw_cd_X3_leastLoaded, ⟨by decide +kernel, by decide +kernel, by decide +kernel⟩⟩
theorem ml_X3_45 : Cond.methodLink RX3 45 yX3_greatest ∈ lwg := lwg_at 446 (by decide +kernel) (by decide +kernel)
theorem cs_X3_45 : CSok RX3 45 yX3_greatest cX3_greatest 3 (some .int) 1 := ⟨ml_X3_45, tw_st_X3_greatest, tw_in_X3, tw_cd_X3_greatest, ⟨by decide +kernel, by decide +kernel, by decide +kernel⟩⟩
theorem ml_X3_48 : Cond.methodLink RX3 48 yX3_improve ∈ lwg := lwg_at 450 (by decide +kernel) (by decide +kernel)
theorem cs_X3_48 : CSok RX3 48 yX3_improve cX3_improve 8 (some .int) 5 := ⟨ml_X3_48, tw_st_X3_improve, tw_in_X3, tw_cd_X3_improve, ⟨by decide +kernel, by decide +kernel, by decide +kernel⟩⟩
theorem ml_X3_52 : Cond.methodLink RX3 52 yJ9_min_7cf53 ∈ lwg := lwg_at 453 (by decide +kernel) (by decide +kernel)
theorem cs_X3_52 : CSok RX3 52 yJ9_min_7cf53 cJ9_min_7cf53 2 (some .int) 2 := ⟨ml_X3_52, tw_st_J9_min_7cf53, tw_in_J9, tw_cd_J9_min_7cf53, ⟨by decide +kernel, by decide +kernel, by decide +kernel⟩⟩
theorem ml_X3_58 : Cond.methodLink RX3 58 yX3_standsBefore ∈ lwg := lwg_at 456 (by decide +kernel) (by decide +kernel)
theorem cs_X3_58 : CSok RX3 58 yX3_standsBefore cX3_standsBefore 3 (some .boolean) 2 := ⟨ml_X3_58, tw_st_X3_standsBefore, tw_in_X3, tw_cd_X3_standsBefore, ⟨by decide +kernel, by decide +kernel, by decide +kernel⟩⟩
theorem ml_X3_62 : Cond.methodLink RX3 62 yJ9_max_7cf53 ∈ lwg := lwg_at 449 (by decide +kernel) (by decide +kernel)
theorem cs_X3_62 : CSok RX3 62 yJ9_max_7cf53 cJ9_max_7cf53 2 (some .int) 2 := ⟨ml_X3_62, tw_st_J9_max_7cf53, tw_in_J9, tw_cd_J9_max_7cf53, ⟨by decide +kernel, by decide +kernel, by decide +kernel⟩⟩
theorem ml_X4_20 : Cond.methodLink RX4 20 yX1_init ∈ lwg := lwg_at 60 (by decide +kernel) (by decide +kernel)
theorem cs_X4_20 : CIok RX4 20 yX1_init cX1_init 2 0 := ⟨ml_X4_20, ⟨rfl, tw_im_X1_init⟩, tw_in_X1, tw_cd_X1_init, ⟨by decide +kernel, by decide +kernel, by decide +kernel⟩⟩
theorem ml_X4_25 : Cond.methodLink RX4 25 yX5_copyFrom ∈ lwg := lwg_at 467 (by decide +kernel) (by decide +kernel)
theorem cs_X4_25 : CVok RX4 25 RX5 yX5_copyFrom cX5_copyFrom 3 none 1 := ⟨ml_X4_25, ⟨tw_im_X5_copyFrom, tw_se_X5_copyFrom⟩, tw_in_X5, tw_cd_X5_copyFrom, ⟨by decide +kernel, by decide +kernel, by decide +kernel⟩⟩
theorem ml_X4_29 : Cond.methodLink RX4 29 yX1_copyFrom ∈ lwg := lwg_at 474 (by decide +kernel) (by decide +kernel)
theorem cs_X4_29 : CVok RX4 29 RX1 yX1_copyFrom cX1_copyFrom 2 none 1 := ⟨ml_X4_29, ⟨tw_im_X1_copyFrom, tw_se_X1_copyFrom⟩, tw_in_X1, tw_cd_X1_copyFrom, ⟨by decide +kernel, by decide +kernel, by decide +kernel⟩⟩
theorem ml_X4_52 : Cond.methodLink RX4 52 yX5_reachOf ∈ lwg := lwg_at 302 (by decide +kernel) (by decide +kernel)
theorem cs_X4_52 : CVok RX4 52 RX5 yX5_reachOf cX5_reachOf 8 (some .long) 1 := ⟨ml_X4_52, ⟨tw_im_X5_reachOf, tw_se_X5_reachOf⟩, tw_in_X5, tw_cd_X5_reachOf, ⟨by decide +kernel, by decide +kernel, by decide +kernel⟩⟩
theorem ml_X4_60 : Cond.methodLink RX4 60 yX4_rebuilt ∈ lwg := lwg_at 298 (by decide +kernel) (by decide +kernel)
theorem cs_X4_60 : CVok RX4 60 RX4 yX4_rebuilt cX4_rebuilt 1 (some .int) 0 := ⟨ml_X4_60, ⟨tw_im_X4_rebuilt, tw_se_X4_rebuilt⟩, tw_in_X4, tw_cd_X4_rebuilt, ⟨by decide +kernel, by decide +kernel, by decide +kernel⟩⟩
theorem ml_X4_64 : Cond.methodLink RX4 64 yX5_withAllUsers ∈ lwg := lwg_at 304 (by decide +kernel) (by decide +kernel)
theorem cs_X4_64 : CVok RX4 64 RX5 yX5_withAllUsers cX5_withAllUsers 6 (some .int) 2 := ⟨ml_X4_64, ⟨tw_im_X5_withAllUsers, tw_se_X5_withAllUsers⟩, tw_in_X5, tw_cd_X5_withAllUsers, ⟨by decide +kernel, by decide +kernel, by decide +kernel⟩⟩
theorem ml_X5_40 : Cond.methodLink RX5 40 yJ6_bitCount_0f7a4 ∈ lwg := lwg_at 127 (by decide +kernel) (by decide +kernel)
theorem cs_X5_40 : CSok RX5 40 yJ6_bitCount_0f7a4 cJ6_bitCount_0f7a4 1 (some .int) 1 := ⟨ml_X5_40, tw_st_J6_bitCount_0f7a4, tw_in_J6, tw_cd_J6_bitCount_0f7a4, ⟨by decide +kernel, by decide +kernel, by decide +kernel⟩⟩
theorem ml_X5_52 : Cond.methodLink RX5 52 yX5_usersOf ∈ lwg := lwg_at 173 (by decide +kernel) (by decide +kernel)
theorem cs_X5_52 : CVok RX5 52 RX5 yX5_usersOf cX5_usersOf 5 (some .int) 2 := ⟨ml_X5_52, ⟨tw_im_X5_usersOf, tw_se_X5_usersOf⟩, tw_in_X5, tw_cd_X5_usersOf, ⟨by decide +kernel, by decide +kernel, by decide +kernel⟩⟩
theorem ml_X5_56 : Cond.methodLink RX5 56 yX5_usersOfAny ∈ lwg := lwg_at 169 (by decide +kernel) (by decide +kernel)
theorem cs_X5_56 : CVok RX5 56 RX5 yX5_usersOfAny cX5_usersOfAny 5 (some .int) 2 := ⟨ml_X5_56, ⟨tw_im_X5_usersOfAny, tw_se_X5_usersOfAny⟩, tw_in_X5, tw_cd_X5_usersOfAny, ⟨by decide +kernel, by decide +kernel, by decide +kernel⟩⟩
theorem ml_X5_67 : Cond.methodLink RX5 67 yX5_followersOf ∈ lwg := lwg_at 284 (by decide +kernel) (by decide +kernel)
theorem cs_X5_67 : CVok RX5 67 RX5 yX5_followersOf cX5_followersOf 3 (some .long) 1 := ⟨ml_X5_67, ⟨tw_im_X5_followersOf, tw_se_X5_followersOf⟩, tw_in_X5, tw_cd_X5_followersOf, ⟨by decide +kernel, by decide +kernel, by decide +kernel⟩⟩
theorem ml_X5_74 : Cond.methodLink RX5 74 yX5_followersOfAny ∈ lwg := lwg_at 274 (by decide +kernel) (by decide +kernel)
theorem cs_X5_74 : CVok RX5 74 RX5 yX5_followersOfAny cX5_followersOfAny 6 (some .long) 1 := ⟨ml_X5_74, ⟨tw_im_X5_followersOfAny, tw_se_X5_followersOfAny⟩, tw_in_X5, tw_cd_X5_followersOfAny, ⟨by decide +kernel, by decide +kernel, by decide +kernel⟩⟩
theorem ml_X5_80 : Cond.methodLink RX5 80 yX5_reachOf ∈ lwg := lwg_at 347 (by decide +kernel) (by decide +kernel)
theorem cs_X5_80 : CVok RX5 80 RX5 yX5_reachOf cX5_reachOf 8 (some .long) 1 := ⟨ml_X5_80, ⟨tw_im_X5_reachOf, tw_se_X5_reachOf⟩, tw_in_X5, tw_cd_X5_reachOf, ⟨by decide +kernel, by decide +kernel, by decide +kernel⟩⟩
theorem ml_L_9 : Cond.methodLink RL 9 yX6_init ∈ lwg := lwg_at 16 (by decide +kernel) (by decide +kernel)
theorem cs_L_9 : CIok RL 9 yX6_init cX6_init 1 0 := ⟨ml_L_9, ⟨rfl, tw_im_X6_init⟩, tw_in_X6, tw_cd_X6_init, ⟨by decide +kernel, by decide +kernel, by decide +kernel⟩⟩
theorem ml_L_12 : Cond.methodLink RL 12 yX7_init ∈ lwg := lwg_at 485 (by decide +kernel) (by decide +kernel)
theorem cs_L_12 : CIok RL 12 yX7_init cX7_init 1 0 := ⟨ml_L_12, ⟨rfl, tw_im_X7_init⟩, tw_in_X7, tw_cd_X7_init, ⟨by decide +kernel, by decide +kernel, by decide +kernel⟩⟩
theorem ml_L_13 : Cond.methodLink RL 13 yX6_addTarget ∈ lwg := lwg_at 116 (by decide +kernel) (by decide +kernel)
theorem cs_L_13 : CVok RL 13 RX6 yX6_addTarget cX6_addTarget 4 (some .int) 2 := ⟨ml_L_13, ⟨tw_im_X6_addTarget, tw_se_X6_addTarget⟩, tw_in_X6, tw_cd_X6_addTarget, ⟨by decide +kernel, by decide +kernel, by decide +kernel⟩⟩
theorem ml_L_17 : Cond.methodLink RL 17 yX7_addTarget ∈ lwg := lwg_at 520 (by decide +kernel) (by decide +kernel)
theorem cs_L_17 : CVok RL 17 RX7 yX7_addTarget cX7_addTarget 4 (some .int) 2 := ⟨ml_L_17, ⟨tw_im_X7_addTarget, tw_se_X7_addTarget⟩, tw_in_X7, tw_cd_X7_addTarget, ⟨by decide +kernel, by decide +kernel, by decide +kernel⟩⟩
theorem ml_L_18 : Cond.methodLink RL 18 yX6_targetCount ∈ lwg := lwg_at 140 (by decide +kernel) (by decide +kernel)
theorem cs_L_18 : CVok RL 18 RX6 yX6_targetCount cX6_targetCount 1 (some .int) 0 := ⟨ml_L_18, ⟨tw_im_X6_targetCount, tw_se_X6_targetCount⟩, tw_in_X6, tw_cd_X6_targetCount, ⟨by decide +kernel, by decide +kernel, by decide +kernel⟩⟩
theorem ml_L_22 : Cond.methodLink RL 22 yX7_targetCount ∈ lwg := lwg_at 535 (by decide +kernel) (by decide +kernel)
theorem cs_L_22 : CVok RL 22 RX7 yX7_targetCount cX7_targetCount 1 (some .int) 0 := ⟨ml_L_22, ⟨tw_im_X7_targetCount, tw_se_X7_targetCount⟩, tw_in_X7, tw_cd_X7_targetCount, ⟨by decide +kernel, by decide +kernel, by decide +kernel⟩⟩
theorem ml_L_23 : Cond.methodLink RL 23 yX6_addDependency ∈ lwg := lwg_at 144 (by decide +kernel) (by decide +kernel)
theorem cs_L_23 : CVok RL 23 RX6 yX6_addDependency cX6_addDependency 5 (some .int) 3 := ⟨ml_L_23, ⟨tw_im_X6_addDependency, tw_se_X6_addDependency⟩, tw_in_X6, tw_cd_X6_addDependency, ⟨by decide +kernel, by decide +kernel, by decide +kernel⟩⟩
theorem ml_L_27 : Cond.methodLink RL 27 yX7_addDependency ∈ lwg := lwg_at 539 (by decide +kernel) (by decide +kernel)
theorem cs_L_27 : CVok RL 27 RX7 yX7_addDependency cX7_addDependency 4 (some .int) 3 := ⟨ml_L_27, ⟨tw_im_X7_addDependency, tw_se_X7_addDependency⟩, tw_in_X7, tw_cd_X7_addDependency, ⟨by decide +kernel, by decide +kernel, by decide +kernel⟩⟩
theorem ml_L_28 : Cond.methodLink RL 28 yX6_removeDependency ∈ lwg := lwg_at 182 (by decide +kernel) (by decide +kernel)
theorem cs_L_28 : CVok RL 28 RX6 yX6_removeDependency cX6_removeDependency 5 (some .int) 2 := ⟨ml_L_28, ⟨tw_im_X6_removeDependency, tw_se_X6_removeDependency⟩, tw_in_X6, tw_cd_X6_removeDependency, ⟨by decide +kernel, by decide +kernel, by decide +kernel⟩⟩
theorem ml_L_31 : Cond.methodLink RL 31 yX7_removeDependency ∈ lwg := lwg_at 555 (by decide +kernel) (by decide +kernel)
theorem cs_L_31 : CVok RL 31 RX7 yX7_removeDependency cX7_removeDependency 4 (some .int) 2 := ⟨ml_L_31, ⟨tw_im_X7_removeDependency, tw_se_X7_removeDependency⟩, tw_in_X7, tw_cd_X7_removeDependency, ⟨by decide +kernel, by decide +kernel, by decide +kernel⟩⟩
theorem ml_L_32 : Cond.methodLink RL 32 yX6_addFile ∈ lwg := lwg_at 190 (by decide +kernel) (by decide +kernel)
theorem cs_L_32 : CVok RL 32 RX6 yX6_addFile cX6_addFile 6 (some .int) 3 := ⟨ml_L_32, ⟨tw_im_X6_addFile, tw_se_X6_addFile⟩, tw_in_X6, tw_cd_X6_addFile, ⟨by decide +kernel, by decide +kernel, by decide +kernel⟩⟩
theorem ml_L_36 : Cond.methodLink RL 36 yX7_addFile ∈ lwg := lwg_at 559 (by decide +kernel) (by decide +kernel)
theorem cs_L_36 : CVok RL 36 RX7 yX7_addFile cX7_addFile 5 (some .int) 3 := ⟨ml_L_36, ⟨tw_im_X7_addFile, tw_se_X7_addFile⟩, tw_in_X7, tw_cd_X7_addFile, ⟨by decide +kernel, by decide +kernel, by decide +kernel⟩⟩
theorem ml_L_37 : Cond.methodLink RL 37 yX6_edit ∈ lwg := lwg_at 219 (by decide +kernel) (by decide +kernel)
theorem cs_L_37 : CVok RL 37 RX6 yX6_edit cX6_edit 2 (some .int) 1 := ⟨ml_L_37, ⟨tw_im_X6_edit, tw_se_X6_edit⟩, tw_in_X6, tw_cd_X6_edit, ⟨by decide +kernel, by decide +kernel, by decide +kernel⟩⟩
theorem ml_L_41 : Cond.methodLink RL 41 yX7_edit ∈ lwg := lwg_at 582 (by decide +kernel) (by decide +kernel)
theorem cs_L_41 : CVok RL 41 RX7 yX7_edit cX7_edit 2 (some .int) 1 := ⟨ml_L_41, ⟨tw_im_X7_edit, tw_se_X7_edit⟩, tw_in_X7, tw_cd_X7_edit, ⟨by decide +kernel, by decide +kernel, by decide +kernel⟩⟩
theorem ml_L_42 : Cond.methodLink RL 42 yX6_rename ∈ lwg := lwg_at 224 (by decide +kernel) (by decide +kernel)
theorem cs_L_42 : CVok RL 42 RX6 yX6_rename cX6_rename 5 (some .int) 2 := ⟨ml_L_42, ⟨tw_im_X6_rename, tw_se_X6_rename⟩, tw_in_X6, tw_cd_X6_rename, ⟨by decide +kernel, by decide +kernel, by decide +kernel⟩⟩
theorem ml_L_45 : Cond.methodLink RL 45 yX7_rename ∈ lwg := lwg_at 586 (by decide +kernel) (by decide +kernel)
theorem cs_L_45 : CVok RL 45 RX7 yX7_rename cX7_rename 4 (some .int) 2 := ⟨ml_L_45, ⟨tw_im_X7_rename, tw_se_X7_rename⟩, tw_in_X7, tw_cd_X7_rename, ⟨by decide +kernel, by decide +kernel, by decide +kernel⟩⟩
theorem ml_L_46 : Cond.methodLink RL 46 yX6_move ∈ lwg := lwg_at 229 (by decide +kernel) (by decide +kernel)
theorem cs_L_46 : CVok RL 46 RX6 yX6_move cX6_move 5 (some .int) 2 := ⟨ml_L_46, ⟨tw_im_X6_move, tw_se_X6_move⟩, tw_in_X6, tw_cd_X6_move, ⟨by decide +kernel, by decide +kernel, by decide +kernel⟩⟩
theorem ml_L_49 : Cond.methodLink RL 49 yX7_move ∈ lwg := lwg_at 590 (by decide +kernel) (by decide +kernel)
theorem cs_L_49 : CVok RL 49 RX7 yX7_move cX7_move 4 (some .int) 2 := ⟨ml_L_49, ⟨tw_im_X7_move, tw_se_X7_move⟩, tw_in_X7, tw_cd_X7_move, ⟨by decide +kernel, by decide +kernel, by decide +kernel⟩⟩
theorem ml_L_50 : Cond.methodLink RL 50 yX6_deleteFile ∈ lwg := lwg_at 233 (by decide +kernel) (by decide +kernel)
theorem cs_L_50 : CVok RL 50 RX6 yX6_deleteFile cX6_deleteFile 3 (some .int) 1 := ⟨ml_L_50, ⟨tw_im_X6_deleteFile, tw_se_X6_deleteFile⟩, tw_in_X6, tw_cd_X6_deleteFile, ⟨by decide +kernel, by decide +kernel, by decide +kernel⟩⟩
theorem ml_L_53 : Cond.methodLink RL 53 yX7_deleteFile ∈ lwg := lwg_at 594 (by decide +kernel) (by decide +kernel)
theorem cs_L_53 : CVok RL 53 RX7 yX7_deleteFile cX7_deleteFile 2 (some .int) 1 := ⟨ml_L_53, ⟨tw_im_X7_deleteFile, tw_se_X7_deleteFile⟩, tw_in_X7, tw_cd_X7_deleteFile, ⟨by decide +kernel, by decide +kernel, by decide +kernel⟩⟩
theorem ml_L_54 : Cond.methodLink RL 54 yX6_targetOf ∈ lwg := lwg_at 237 (by decide +kernel) (by decide +kernel)
theorem cs_L_54 : CVok RL 54 RX6 yX6_targetOf cX6_targetOf 2 (some .int) 1 := ⟨ml_L_54, ⟨tw_im_X6_targetOf, tw_se_X6_targetOf⟩, tw_in_X6, tw_cd_X6_targetOf, ⟨by decide +kernel, by decide +kernel, by decide +kernel⟩⟩
theorem ml_L_57 : Cond.methodLink RL 57 yX7_targetOf ∈ lwg := lwg_at 598 (by decide +kernel) (by decide +kernel)
theorem cs_L_57 : CVok RL 57 RX7 yX7_targetOf cX7_targetOf 2 (some .int) 1 := ⟨ml_L_57, ⟨tw_im_X7_targetOf, tw_se_X7_targetOf⟩, tw_in_X7, tw_cd_X7_targetOf, ⟨by decide +kernel, by decide +kernel, by decide +kernel⟩⟩
theorem ml_L_58 : Cond.methodLink RL 58 yX6_nameOf ∈ lwg := lwg_at 241 (by decide +kernel) (by decide +kernel)
theorem cs_L_58 : CVok RL 58 RX6 yX6_nameOf cX6_nameOf 2 (some .int) 1 := ⟨ml_L_58, ⟨tw_im_X6_nameOf, tw_se_X6_nameOf⟩, tw_in_X6, tw_cd_X6_nameOf, ⟨by decide +kernel, by decide +kernel, by decide +kernel⟩⟩
theorem ml_L_61 : Cond.methodLink RL 61 yX7_nameOf ∈ lwg := lwg_at 602 (by decide +kernel) (by decide +kernel)
theorem cs_L_61 : CVok RL 61 RX7 yX7_nameOf cX7_nameOf 2 (some .int) 1 := ⟨ml_L_61, ⟨tw_im_X7_nameOf, tw_se_X7_nameOf⟩, tw_in_X7, tw_cd_X7_nameOf, ⟨by decide +kernel, by decide +kernel, by decide +kernel⟩⟩
theorem ml_L_62 : Cond.methodLink RL 62 yX6_follow ∈ lwg := lwg_at 245 (by decide +kernel) (by decide +kernel)
theorem cs_L_62 : CVok RL 62 RX6 yX6_follow cX6_follow 3 (some .int) 1 := ⟨ml_L_62, ⟨tw_im_X6_follow, tw_se_X6_follow⟩, tw_in_X6, tw_cd_X6_follow, ⟨by decide +kernel, by decide +kernel, by decide +kernel⟩⟩
theorem ml_L_65 : Cond.methodLink RL 65 yX7_follow ∈ lwg := lwg_at 606 (by decide +kernel) (by decide +kernel)
theorem cs_L_65 : CVok RL 65 RX7 yX7_follow cX7_follow 3 (some .int) 1 := ⟨ml_L_65, ⟨tw_im_X7_follow, tw_se_X7_follow⟩, tw_in_X7, tw_cd_X7_follow, ⟨by decide +kernel, by decide +kernel, by decide +kernel⟩⟩
theorem ml_L_66 : Cond.methodLink RL 66 yX6_clearChanges ∈ lwg := lwg_at 249 (by decide +kernel) (by decide +kernel)
theorem cs_L_66 : CVok RL 66 RX6 yX6_clearChanges cX6_clearChanges 2 (some .int) 0 := ⟨ml_L_66, ⟨tw_im_X6_clearChanges, tw_se_X6_clearChanges⟩, tw_in_X6, tw_cd_X6_clearChanges, ⟨by decide +kernel, by decide +kernel, by decide +kernel⟩⟩
theorem ml_L_69 : Cond.methodLink RL 69 yX7_clearChanges ∈ lwg := lwg_at 610 (by decide +kernel) (by decide +kernel)
theorem cs_L_69 : CVok RL 69 RX7 yX7_clearChanges cX7_clearChanges 3 (some .int) 0 := ⟨ml_L_69, ⟨tw_im_X7_clearChanges, tw_se_X7_clearChanges⟩, tw_in_X7, tw_cd_X7_clearChanges, ⟨by decide +kernel, by decide +kernel, by decide +kernel⟩⟩
theorem ml_L_70 : Cond.methodLink RL 70 yX6_directlyChanged ∈ lwg := lwg_at 259 (by decide +kernel) (by decide +kernel)
theorem cs_L_70 : CVok RL 70 RX6 yX6_directlyChanged cX6_directlyChanged 2 (some .int) 1 := ⟨ml_L_70, ⟨tw_im_X6_directlyChanged, tw_se_X6_directlyChanged⟩, tw_in_X6, tw_cd_X6_directlyChanged, ⟨by decide +kernel, by decide +kernel, by decide +kernel⟩⟩
theorem ml_L_73 : Cond.methodLink RL 73 yX7_directlyChanged ∈ lwg := lwg_at 614 (by decide +kernel) (by decide +kernel)
theorem cs_L_73 : CVok RL 73 RX7 yX7_directlyChanged cX7_directlyChanged 4 (some .int) 1 := ⟨ml_L_73, ⟨tw_im_X7_directlyChanged, tw_se_X7_directlyChanged⟩, tw_in_X7, tw_cd_X7_directlyChanged, ⟨by decide +kernel, by decide +kernel, by decide +kernel⟩⟩
theorem ml_L_74 : Cond.methodLink RL 74 yX6_changed ∈ lwg := lwg_at 266 (by decide +kernel) (by decide +kernel)
theorem cs_L_74 : CVok RL 74 RX6 yX6_changed cX6_changed 2 (some .int) 1 := ⟨ml_L_74, ⟨tw_im_X6_changed, tw_se_X6_changed⟩, tw_in_X6, tw_cd_X6_changed, ⟨by decide +kernel, by decide +kernel, by decide +kernel⟩⟩
theorem ml_L_77 : Cond.methodLink RL 77 yX7_changed ∈ lwg := lwg_at 621 (by decide +kernel) (by decide +kernel)
theorem cs_L_77 : CVok RL 77 RX7 yX7_changed cX7_changed 2 (some .int) 1 := ⟨ml_L_77, ⟨tw_im_X7_changed, tw_se_X7_changed⟩, tw_in_X7, tw_cd_X7_changed, ⟨by decide +kernel, by decide +kernel, by decide +kernel⟩⟩
theorem ml_L_78 : Cond.methodLink RL 78 yX6_affectedTests ∈ lwg := lwg_at 290 (by decide +kernel) (by decide +kernel)
theorem cs_L_78 : CVok RL 78 RX6 yX6_affectedTests cX6_affectedTests 1 (some .int) 0 := ⟨ml_L_78, ⟨tw_im_X6_affectedTests, tw_se_X6_affectedTests⟩, tw_in_X6, tw_cd_X6_affectedTests, ⟨by decide +kernel, by decide +kernel, by decide +kernel⟩⟩
theorem ml_L_81 : Cond.methodLink RL 81 yX7_affectedTests ∈ lwg := lwg_at 641 (by decide +kernel) (by decide +kernel)
theorem cs_L_81 : CVok RL 81 RX7 yX7_affectedTests cX7_affectedTests 4 (some .int) 0 := ⟨ml_L_81, ⟨tw_im_X7_affectedTests, tw_se_X7_affectedTests⟩, tw_in_X7, tw_cd_X7_affectedTests, ⟨by decide +kernel, by decide +kernel, by decide +kernel⟩⟩
theorem ml_L_82 : Cond.methodLink RL 82 yX6_chain ∈ lwg := lwg_at 305 (by decide +kernel) (by decide +kernel)
theorem cs_L_82 : CVok RL 82 RX6 yX6_chain cX6_chain 5 (some .int) 3 := ⟨ml_L_82, ⟨tw_im_X6_chain, tw_se_X6_chain⟩, tw_in_X6, tw_cd_X6_chain, ⟨by decide +kernel, by decide +kernel, by decide +kernel⟩⟩
theorem ml_L_85 : Cond.methodLink RL 85 yX7_chain ∈ lwg := lwg_at 649 (by decide +kernel) (by decide +kernel)
theorem cs_L_85 : CVok RL 85 RX7 yX7_chain cX7_chain 7 (some .int) 3 := ⟨ml_L_85, ⟨tw_im_X7_chain, tw_se_X7_chain⟩, tw_in_X7, tw_cd_X7_chain, ⟨by decide +kernel, by decide +kernel, by decide +kernel⟩⟩
theorem ml_L_86 : Cond.methodLink RL 86 yX6_impact ∈ lwg := lwg_at 339 (by decide +kernel) (by decide +kernel)
theorem cs_L_86 : CVok RL 86 RX6 yX6_impact cX6_impact 3 (some .int) 2 := ⟨ml_L_86, ⟨tw_im_X6_impact, tw_se_X6_impact⟩, tw_in_X6, tw_cd_X6_impact, ⟨by decide +kernel, by decide +kernel, by decide +kernel⟩⟩
theorem ml_L_89 : Cond.methodLink RL 89 yX7_impact ∈ lwg := lwg_at 661 (by decide +kernel) (by decide +kernel)
theorem cs_L_89 : CVok RL 89 RX7 yX7_impact cX7_impact 3 (some .int) 2 := ⟨ml_L_89, ⟨tw_im_X7_impact, tw_se_X7_impact⟩, tw_in_X7, tw_cd_X7_impact, ⟨by decide +kernel, by decide +kernel, by decide +kernel⟩⟩
theorem ml_L_90 : Cond.methodLink RL 90 yX6_mostCritical ∈ lwg := lwg_at 349 (by decide +kernel) (by decide +kernel)
theorem cs_L_90 : CVok RL 90 RX6 yX6_mostCritical cX6_mostCritical 6 (some .int) 1 := ⟨ml_L_90, ⟨tw_im_X6_mostCritical, tw_se_X6_mostCritical⟩, tw_in_X6, tw_cd_X6_mostCritical, ⟨by decide +kernel, by decide +kernel, by decide +kernel⟩⟩
theorem ml_L_93 : Cond.methodLink RL 93 yX7_mostCritical ∈ lwg := lwg_at 673 (by decide +kernel) (by decide +kernel)
theorem cs_L_93 : CVok RL 93 RX7 yX7_mostCritical cX7_mostCritical 6 (some .int) 1 := ⟨ml_L_93, ⟨tw_im_X7_mostCritical, tw_se_X7_mostCritical⟩, tw_in_X7, tw_cd_X7_mostCritical, ⟨by decide +kernel, by decide +kernel, by decide +kernel⟩⟩
theorem ml_L_94 : Cond.methodLink RL 94 yX6_rebuildOrder ∈ lwg := lwg_at 353 (by decide +kernel) (by decide +kernel)
theorem cs_L_94 : CVok RL 94 RX6 yX6_rebuildOrder cX6_rebuildOrder 3 (some .int) 1 := ⟨ml_L_94, ⟨tw_im_X6_rebuildOrder, tw_se_X6_rebuildOrder⟩, tw_in_X6, tw_cd_X6_rebuildOrder, ⟨by decide +kernel, by decide +kernel, by decide +kernel⟩⟩
theorem ml_L_97 : Cond.methodLink RL 97 yX7_rebuildOrder ∈ lwg := lwg_at 677 (by decide +kernel) (by decide +kernel)
theorem cs_L_97 : CVok RL 97 RX7 yX7_rebuildOrder cX7_rebuildOrder 3 (some .int) 1 := ⟨ml_L_97, ⟨tw_im_X7_rebuildOrder, tw_se_X7_rebuildOrder⟩, tw_in_X7, tw_cd_X7_rebuildOrder, ⟨by decide +kernel, by decide +kernel, by decide +kernel⟩⟩
theorem ml_L_98 : Cond.methodLink RL 98 yX6_rebuildTime ∈ lwg := lwg_at 384 (by decide +kernel) (by decide +kernel)
theorem cs_L_98 : CVok RL 98 RX6 yX6_rebuildTime cX6_rebuildTime 1 (some .int) 0 := ⟨ml_L_98, ⟨tw_im_X6_rebuildTime, tw_se_X6_rebuildTime⟩, tw_in_X6, tw_cd_X6_rebuildTime, ⟨by decide +kernel, by decide +kernel, by decide +kernel⟩⟩
theorem ml_L_101 : Cond.methodLink RL 101 yX7_rebuildTime ∈ lwg := lwg_at 689 (by decide +kernel) (by decide +kernel)
theorem cs_L_101 : CVok RL 101 RX7 yX7_rebuildTime cX7_rebuildTime 8 (some .int) 0 := ⟨ml_L_101, ⟨tw_im_X7_rebuildTime, tw_se_X7_rebuildTime⟩, tw_in_X7, tw_cd_X7_rebuildTime, ⟨by decide +kernel, by decide +kernel, by decide +kernel⟩⟩
theorem ml_L_102 : Cond.methodLink RL 102 yX6_shardOf ∈ lwg := lwg_at 397 (by decide +kernel) (by decide +kernel)
theorem cs_L_102 : CVok RL 102 RX6 yX6_shardOf cX6_shardOf 4 (some .int) 2 := ⟨ml_L_102, ⟨tw_im_X6_shardOf, tw_se_X6_shardOf⟩, tw_in_X6, tw_cd_X6_shardOf, ⟨by decide +kernel, by decide +kernel, by decide +kernel⟩⟩
theorem ml_L_105 : Cond.methodLink RL 105 yX7_shardOf ∈ lwg := lwg_at 693 (by decide +kernel) (by decide +kernel)
theorem cs_L_105 : CVok RL 105 RX7 yX7_shardOf cX7_shardOf 3 (some .int) 2 := ⟨ml_L_105, ⟨tw_im_X7_shardOf, tw_se_X7_shardOf⟩, tw_in_X7, tw_cd_X7_shardOf, ⟨by decide +kernel, by decide +kernel, by decide +kernel⟩⟩
theorem ml_L_106 : Cond.methodLink RL 106 yX6_shardLoad ∈ lwg := lwg_at 434 (by decide +kernel) (by decide +kernel)
theorem cs_L_106 : CVok RL 106 RX6 yX6_shardLoad cX6_shardLoad 3 (some .int) 2 := ⟨ml_L_106, ⟨tw_im_X6_shardLoad, tw_se_X6_shardLoad⟩, tw_in_X6, tw_cd_X6_shardLoad, ⟨by decide +kernel, by decide +kernel, by decide +kernel⟩⟩
theorem ml_L_109 : Cond.methodLink RL 109 yX7_shardLoad ∈ lwg := lwg_at 705 (by decide +kernel) (by decide +kernel)
theorem cs_L_109 : CVok RL 109 RX7 yX7_shardLoad cX7_shardLoad 3 (some .int) 2 := ⟨ml_L_109, ⟨tw_im_X7_shardLoad, tw_se_X7_shardLoad⟩, tw_in_X7, tw_cd_X7_shardLoad, ⟨by decide +kernel, by decide +kernel, by decide +kernel⟩⟩
theorem ml_L_110 : Cond.methodLink RL 110 yX6_bestGreatestLoad ∈ lwg := lwg_at 438 (by decide +kernel) (by decide +kernel)
theorem cs_L_110 : CVok RL 110 RX6 yX6_bestGreatestLoad cX6_bestGreatestLoad 2 (some .int) 1 := ⟨ml_L_110, ⟨tw_im_X6_bestGreatestLoad, tw_se_X6_bestGreatestLoad⟩, tw_in_X6, tw_cd_X6_bestGreatestLoad, ⟨by decide +kernel, by decide +kernel, by decide +kernel⟩⟩
theorem ml_L_113 : Cond.methodLink RL 113 yX7_bestGreatestLoad ∈ lwg := lwg_at 709 (by decide +kernel) (by decide +kernel)
theorem cs_L_113 : CVok RL 113 RX7 yX7_bestGreatestLoad cX7_bestGreatestLoad 8 (some .int) 1 := ⟨ml_L_113, ⟨tw_im_X7_bestGreatestLoad, tw_se_X7_bestGreatestLoad⟩, tw_in_X7, tw_cd_X7_bestGreatestLoad, ⟨by decide +kernel, by decide +kernel, by decide +kernel⟩⟩
theorem ml_L_114 : Cond.methodLink RL 114 yX6_save ∈ lwg := lwg_at 459 (by decide +kernel) (by decide +kernel)
theorem cs_L_114 : CVok RL 114 RX6 yX6_save cX6_save 3 (some .int) 1 := ⟨ml_L_114, ⟨tw_im_X6_save, tw_se_X6_save⟩, tw_in_X6, tw_cd_X6_save, ⟨by decide +kernel, by decide +kernel, by decide +kernel⟩⟩
theorem ml_L_117 : Cond.methodLink RL 117 yX7_save ∈ lwg := lwg_at 717 (by decide +kernel) (by decide +kernel)
theorem cs_L_117 : CVok RL 117 RX7 yX7_save cX7_save 3 (some .int) 1 := ⟨ml_L_117, ⟨tw_im_X7_save, tw_se_X7_save⟩, tw_in_X7, tw_cd_X7_save, ⟨by decide +kernel, by decide +kernel, by decide +kernel⟩⟩
theorem ml_L_118 : Cond.methodLink RL 118 yX6_restore ∈ lwg := lwg_at 479 (by decide +kernel) (by decide +kernel)
theorem cs_L_118 : CVok RL 118 RX6 yX6_restore cX6_restore 3 (some .int) 1 := ⟨ml_L_118, ⟨tw_im_X6_restore, tw_se_X6_restore⟩, tw_in_X6, tw_cd_X6_restore, ⟨by decide +kernel, by decide +kernel, by decide +kernel⟩⟩
theorem ml_L_121 : Cond.methodLink RL 121 yX7_restore ∈ lwg := lwg_at 721 (by decide +kernel) (by decide +kernel)
theorem cs_L_121 : CVok RL 121 RX7 yX7_restore cX7_restore 3 (some .int) 1 := ⟨ml_L_121, ⟨tw_im_X7_restore, tw_se_X7_restore⟩, tw_in_X7, tw_cd_X7_restore, ⟨by decide +kernel, by decide +kernel, by decide +kernel⟩⟩
theorem ml_X7_41 : Cond.methodLink RX7 41 yX7_in ∈ lwg := lwg_at 524 (by decide +kernel) (by decide +kernel)
theorem cs_X7_41 : CSok RX7 41 yX7_in cX7_in 3 (some .boolean) 3 := ⟨ml_X7_41, tw_st_X7_in, tw_in_X7, tw_cd_X7_in, ⟨by decide +kernel, by decide +kernel, by decide +kernel⟩⟩
theorem ml_X7_45 : Cond.methodLink RX7 45 yX7_kindOf ∈ lwg := lwg_at 531 (by decide +kernel) (by decide +kernel)
theorem cs_X7_45 : CVok RX7 45 RX7 yX7_kindOf cX7_kindOf 2 (some .int) 1 := ⟨ml_X7_45, ⟨tw_im_X7_kindOf, tw_se_X7_kindOf⟩, tw_in_X7, tw_cd_X7_kindOf, ⟨by decide +kernel, by decide +kernel, by decide +kernel⟩⟩
theorem ml_X7_49 : Cond.methodLink RX7 49 yX7_tests ∈ lwg := lwg_at 527 (by decide +kernel) (by decide +kernel)
theorem cs_X7_49 : CVok RX7 49 RX7 yX7_tests cX7_tests 3 (some .int) 0 := ⟨ml_X7_49, ⟨tw_im_X7_tests, tw_se_X7_tests⟩, tw_in_X7, tw_cd_X7_tests, ⟨by decide +kernel, by decide +kernel, by decide +kernel⟩⟩
theorem ml_X7_53 : Cond.methodLink RX7 53 yX7_linkOf ∈ lwg := lwg_at 547 (by decide +kernel) (by decide +kernel)
theorem cs_X7_53 : CVok RX7 53 RX7 yX7_linkOf cX7_linkOf 3 (some .int) 2 := ⟨ml_X7_53, ⟨tw_im_X7_linkOf, tw_se_X7_linkOf⟩, tw_in_X7, tw_cd_X7_linkOf, ⟨by decide +kernel, by decide +kernel, by decide +kernel⟩⟩
theorem ml_X7_57 : Cond.methodLink RX7 57 yX7_isTarget ∈ lwg := lwg_at 543 (by decide +kernel) (by decide +kernel)
theorem cs_X7_57 : CVok RX7 57 RX7 yX7_isTarget cX7_isTarget 2 (some .boolean) 1 := ⟨ml_X7_57, ⟨tw_im_X7_isTarget, tw_se_X7_isTarget⟩, tw_in_X7, tw_cd_X7_isTarget, ⟨by decide +kernel, by decide +kernel, by decide +kernel⟩⟩
theorem ml_X7_61 : Cond.methodLink RX7 61 yX7_reachOf ∈ lwg := lwg_at 551 (by decide +kernel) (by decide +kernel)
theorem cs_X7_61 : CVok RX7 61 RX7 yX7_reachOf cX7_reachOf 8 (some .int) 2 := ⟨ml_X7_61, ⟨tw_im_X7_reachOf, tw_se_X7_reachOf⟩, tw_in_X7, tw_cd_X7_reachOf, ⟨by decide +kernel, by decide +kernel, by decide +kernel⟩⟩
theorem ml_X7_64 : Cond.methodLink RX7 64 yX7_at ∈ lwg := lwg_at 571 (by decide +kernel) (by decide +kernel)
theorem cs_X7_64 : CSok RX7 64 yX7_at cX7_at 1 (some .int) 1 := ⟨ml_X7_64, tw_st_X7_at, tw_in_X7, tw_cd_X7_at, ⟨by decide +kernel, by decide +kernel, by decide +kernel⟩⟩
theorem ml_X7_67 : Cond.methodLink RX7 67 yX7_isFile ∈ lwg := lwg_at 567 (by decide +kernel) (by decide +kernel)
theorem cs_X7_67 : CVok RX7 67 RX7 yX7_isFile cX7_isFile 2 (some .boolean) 1 := ⟨ml_X7_67, ⟨tw_im_X7_isFile, tw_se_X7_isFile⟩, tw_in_X7, tw_cd_X7_isFile, ⟨by decide +kernel, by decide +kernel, by decide +kernel⟩⟩
theorem ml_X7_70 : Cond.methodLink RX7 70 yX7_isNamed ∈ lwg := lwg_at 563 (by decide +kernel) (by decide +kernel)
theorem cs_X7_70 : CVok RX7 70 RX7 yX7_isNamed cX7_isNamed 4 (some .boolean) 1 := ⟨ml_X7_70, ⟨tw_im_X7_isNamed, tw_se_X7_isNamed⟩, tw_in_X7, tw_cd_X7_isNamed, ⟨by decide +kernel, by decide +kernel, by decide +kernel⟩⟩
theorem ml_X7_73 : Cond.methodLink RX7 73 yX7_giveName ∈ lwg := lwg_at 574 (by decide +kernel) (by decide +kernel)
theorem cs_X7_73 : CVok RX7 73 RX7 yX7_giveName cX7_giveName 3 none 2 := ⟨ml_X7_73, ⟨tw_im_X7_giveName, tw_se_X7_giveName⟩, tw_in_X7, tw_cd_X7_giveName, ⟨by decide +kernel, by decide +kernel, by decide +kernel⟩⟩
theorem ml_X7_77 : Cond.methodLink RX7 77 yX7_touch ∈ lwg := lwg_at 578 (by decide +kernel) (by decide +kernel)
theorem cs_X7_77 : CVok RX7 77 RX7 yX7_touch cX7_touch 4 none 2 := ⟨ml_X7_77, ⟨tw_im_X7_touch, tw_se_X7_touch⟩, tw_in_X7, tw_cd_X7_touch, ⟨by decide +kernel, by decide +kernel, by decide +kernel⟩⟩
theorem ml_X7_80 : Cond.methodLink RX7 80 yX7_follows ∈ lwg := lwg_at 633 (by decide +kernel) (by decide +kernel)
theorem cs_X7_80 : CVok RX7 80 RX7 yX7_follows cX7_follows 8 (some .boolean) 2 := ⟨ml_X7_80, ⟨tw_im_X7_follows, tw_se_X7_follows⟩, tw_in_X7, tw_cd_X7_follows, ⟨by decide +kernel, by decide +kernel, by decide +kernel⟩⟩
theorem ml_X7_84 : Cond.methodLink RX7 84 yX7_spread ∈ lwg := lwg_at 629 (by decide +kernel) (by decide +kernel)
theorem cs_X7_84 : CVok RX7 84 RX7 yX7_spread cX7_spread 4 none 0 := ⟨ml_X7_84, ⟨tw_im_X7_spread, tw_se_X7_spread⟩, tw_in_X7, tw_cd_X7_spread, ⟨by decide +kernel, by decide +kernel, by decide +kernel⟩⟩
theorem ml_X7_87 : Cond.methodLink RX7 87 yX7_isPart ∈ lwg := lwg_at 618 (by decide +kernel) (by decide +kernel)
theorem cs_X7_87 : CSok RX7 87 yX7_isPart cX7_isPart 1 (some .boolean) 1 := ⟨ml_X7_87, tw_st_X7_isPart, tw_in_X7, tw_cd_X7_isPart, ⟨by decide +kernel, by decide +kernel, by decide +kernel⟩⟩
theorem ml_X7_90 : Cond.methodLink RX7 90 yX7_layChanged ∈ lwg := lwg_at 625 (by decide +kernel) (by decide +kernel)
theorem cs_X7_90 : CVok RX7 90 RX7 yX7_layChanged cX7_layChanged 2 none 0 := ⟨ml_X7_90, ⟨tw_im_X7_layChanged, tw_se_X7_layChanged⟩, tw_in_X7, tw_cd_X7_layChanged, ⟨by decide +kernel, by decide +kernel, by decide +kernel⟩⟩
theorem ml_X7_93 : Cond.methodLink RX7 93 yX7_setOf ∈ lwg := lwg_at 637 (by decide +kernel) (by decide +kernel)
theorem cs_X7_93 : CVok RX7 93 RX7 yX7_setOf cX7_setOf 4 (some .int) 1 := ⟨ml_X7_93, ⟨tw_im_X7_setOf, tw_se_X7_setOf⟩, tw_in_X7, tw_cd_X7_setOf, ⟨by decide +kernel, by decide +kernel, by decide +kernel⟩⟩
theorem ml_X7_96 : Cond.methodLink RX7 96 yX7_rebuilt ∈ lwg := lwg_at 645 (by decide +kernel) (by decide +kernel)
theorem cs_X7_96 : CVok RX7 96 RX7 yX7_rebuilt cX7_rebuilt 1 (some .int) 0 := ⟨ml_X7_96, ⟨tw_im_X7_rebuilt, tw_se_X7_rebuilt⟩, tw_in_X7, tw_cd_X7_rebuilt, ⟨by decide +kernel, by decide +kernel, by decide +kernel⟩⟩
theorem ml_X7_99 : Cond.methodLink RX7 99 yX7_laySteps ∈ lwg := lwg_at 653 (by decide +kernel) (by decide +kernel)
theorem cs_X7_99 : CVok RX7 99 RX7 yX7_laySteps cX7_laySteps 5 none 1 := ⟨ml_X7_99, ⟨tw_im_X7_laySteps, tw_se_X7_laySteps⟩, tw_in_X7, tw_cd_X7_laySteps, ⟨by decide +kernel, by decide +kernel, by decide +kernel⟩⟩
theorem ml_X7_103 : Cond.methodLink RX7 103 yX7_smallest ∈ lwg := lwg_at 657 (by decide +kernel) (by decide +kernel)
theorem cs_X7_103 : CVok RX7 103 RX7 yX7_smallest cX7_smallest 5 (some .int) 2 := ⟨ml_X7_103, ⟨tw_im_X7_smallest, tw_se_X7_smallest⟩, tw_in_X7, tw_cd_X7_smallest, ⟨by decide +kernel, by decide +kernel, by decide +kernel⟩⟩
theorem ml_X7_106 : Cond.methodLink RX7 106 yX7_weightOf ∈ lwg := lwg_at 669 (by decide +kernel) (by decide +kernel)
theorem cs_X7_106 : CVok RX7 106 RX7 yX7_weightOf cX7_weightOf 2 (some .int) 1 := ⟨ml_X7_106, ⟨tw_im_X7_weightOf, tw_se_X7_weightOf⟩, tw_in_X7, tw_cd_X7_weightOf, ⟨by decide +kernel, by decide +kernel, by decide +kernel⟩⟩
theorem ml_X7_109 : Cond.methodLink RX7 109 yX7_impactOf ∈ lwg := lwg_at 665 (by decide +kernel) (by decide +kernel)
theorem cs_X7_109 : CVok RX7 109 RX7 yX7_impactOf cX7_impactOf 4 (some .int) 1 := ⟨ml_X7_109, ⟨tw_im_X7_impactOf, tw_se_X7_impactOf⟩, tw_in_X7, tw_cd_X7_impactOf, ⟨by decide +kernel, by decide +kernel, by decide +kernel⟩⟩
theorem ml_X7_112 : Cond.methodLink RX7 112 yX7_waits ∈ lwg := lwg_at 685 (by decide +kernel) (by decide +kernel)
theorem cs_X7_112 : CVok RX7 112 RX7 yX7_waits cX7_waits 3 (some .boolean) 2 := ⟨ml_X7_112, ⟨tw_im_X7_waits, tw_se_X7_waits⟩, tw_in_X7, tw_cd_X7_waits, ⟨by decide +kernel, by decide +kernel, by decide +kernel⟩⟩
theorem ml_X7_115 : Cond.methodLink RX7 115 yX7_layOrder ∈ lwg := lwg_at 681 (by decide +kernel) (by decide +kernel)
theorem cs_X7_115 : CVok RX7 115 RX7 yX7_layOrder cX7_layOrder 7 (some .int) 0 := ⟨ml_X7_115, ⟨tw_im_X7_layOrder, tw_se_X7_layOrder⟩, tw_in_X7, tw_cd_X7_layOrder, ⟨by decide +kernel, by decide +kernel, by decide +kernel⟩⟩
theorem ml_X7_118 : Cond.methodLink RX7 118 yX7_affectedTests ∈ lwg := lwg_at 704 (by decide +kernel) (by decide +kernel)
theorem cs_X7_118 : CVok RX7 118 RX7 yX7_affectedTests cX7_affectedTests 4 (some .int) 0 := ⟨ml_X7_118, ⟨tw_im_X7_affectedTests, tw_se_X7_affectedTests⟩, tw_in_X7, tw_cd_X7_affectedTests, ⟨by decide +kernel, by decide +kernel, by decide +kernel⟩⟩
theorem ml_X7_121 : Cond.methodLink RX7 121 yX7_areShards ∈ lwg := lwg_at 697 (by decide +kernel) (by decide +kernel)
theorem cs_X7_121 : CSok RX7 121 yX7_areShards cX7_areShards 1 (some .boolean) 1 := ⟨ml_X7_121, tw_st_X7_areShards, tw_in_X7, tw_cd_X7_areShards, ⟨by decide +kernel, by decide +kernel, by decide +kernel⟩⟩
theorem ml_X7_124 : Cond.methodLink RX7 124 yX7_layShards ∈ lwg := lwg_at 700 (by decide +kernel) (by decide +kernel)
theorem cs_X7_124 : CVok RX7 124 RX7 yX7_layShards cX7_layShards 6 none 1 := ⟨ml_X7_124, ⟨tw_im_X7_layShards, tw_se_X7_layShards⟩, tw_in_X7, tw_cd_X7_layShards, ⟨by decide +kernel, by decide +kernel, by decide +kernel⟩⟩
theorem ml_X7_127 : Cond.methodLink RX7 127 yX7_greatestBy ∈ lwg := lwg_at 713 (by decide +kernel) (by decide +kernel)
theorem cs_X7_127 : CVok RX7 127 RX7 yX7_greatestBy cX7_greatestBy 7 (some .int) 3 := ⟨ml_X7_127, ⟨tw_im_X7_greatestBy, tw_se_X7_greatestBy⟩, tw_in_X7, tw_cd_X7_greatestBy, ⟨by decide +kernel, by decide +kernel, by decide +kernel⟩⟩
theorem cs_X6_11 : CJok RX6 11 yX4_init cX4_init 1 0 := ⟨List.mem_of_getElem? (i := 0) rfl, ⟨rfl, tw_im_X4_init⟩, tw_in_X4, tw_cd_X4_init, ⟨by decide +kernel, by decide +kernel, by decide +kernel⟩⟩
theorem cs_X0_15 : CNok RX0 15 yX6_setOfPair cX6_setOfPair 1 (some .long) 1 := ⟨List.mem_of_getElem? (i := 11) rfl, tw_st_X6_setOfPair, tw_in_X6, tw_cd_X6_setOfPair, ⟨by decide +kernel, by decide +kernel, by decide +kernel⟩⟩
theorem cs_X0_25 : CNok RX0 25 yX6_smallestPair cX6_smallestPair 3 (some .int) 1 := ⟨List.mem_of_getElem? (i := 13) rfl, tw_st_X6_smallestPair, tw_in_X6, tw_cd_X6_smallestPair, ⟨by decide +kernel, by decide +kernel, by decide +kernel⟩⟩
theorem cs_X1_44 : CNok RX1 44 yX6_inRange cX6_inRange 2 (some .boolean) 2 := ⟨List.mem_of_getElem? (i := 5) rfl, tw_st_X6_inRange, tw_in_X6, tw_cd_X6_inRange, ⟨by decide +kernel, by decide +kernel, by decide +kernel⟩⟩
theorem cs_X2_29 : CNok RX2 29 yX6_smallestTarget cX6_smallestTarget 2 (some .int) 1 := ⟨List.mem_of_getElem? (i := 15) rfl, tw_st_X6_smallestTarget, tw_in_X6, tw_cd_X6_smallestTarget, ⟨by decide +kernel, by decide +kernel, by decide +kernel⟩⟩
theorem cs_X2_36 : CNok RX2 36 yX6_setOf cX6_setOf 1 (some .int) 1 := ⟨List.mem_of_getElem? (i := 16) rfl, tw_st_X6_setOf, tw_in_X6, tw_cd_X6_setOf, ⟨by decide +kernel, by decide +kernel, by decide +kernel⟩⟩
theorem cs_X2_50 : CNok RX2 50 yX6_contains cX6_contains 2 (some .boolean) 2 := ⟨List.mem_of_getElem? (i := 17) rfl, tw_st_X6_contains, tw_in_X6, tw_cd_X6_contains, ⟨by decide +kernel, by decide +kernel, by decide +kernel⟩⟩
theorem cs_X3_39 : CNok RX3 39 yX6_setOf cX6_setOf 1 (some .int) 1 := ⟨List.mem_of_getElem? (i := 18) rfl, tw_st_X6_setOf, tw_in_X6, tw_cd_X6_setOf, ⟨by decide +kernel, by decide +kernel, by decide +kernel⟩⟩
theorem cs_X4_11 : CJok RX4 11 yX5_init cX5_init 1 0 := ⟨List.mem_of_getElem? (i := 1) rfl, ⟨rfl, tw_im_X5_init⟩, tw_in_X5, tw_cd_X5_init, ⟨by decide +kernel, by decide +kernel, by decide +kernel⟩⟩
theorem cs_X4_44 : CNok RX4 44 yX6_setOf cX6_setOf 1 (some .int) 1 := ⟨List.mem_of_getElem? (i := 6) rfl, tw_st_X6_setOf, tw_in_X6, tw_cd_X6_setOf, ⟨by decide +kernel, by decide +kernel, by decide +kernel⟩⟩
theorem cs_X4_48 : CNok RX4 48 yX6_pairsWith cX6_pairsWith 2 (some .long) 2 := ⟨List.mem_of_getElem? (i := 7) rfl, tw_st_X6_pairsWith, tw_in_X6, tw_cd_X6_pairsWith, ⟨by decide +kernel, by decide +kernel, by decide +kernel⟩⟩
theorem cs_X4_56 : CNok RX4 56 yX6_targetsWith cX6_targetsWith 3 (some .int) 2 := ⟨List.mem_of_getElem? (i := 10) rfl, tw_st_X6_targetsWith, tw_in_X6, tw_cd_X6_targetsWith, ⟨by decide +kernel, by decide +kernel, by decide +kernel⟩⟩
theorem cs_X5_36 : CNok RX5 36 yX6_inRange cX6_inRange 2 (some .boolean) 2 := ⟨List.mem_of_getElem? (i := 3) rfl, tw_st_X6_inRange, tw_in_X6, tw_cd_X6_inRange, ⟨by decide +kernel, by decide +kernel, by decide +kernel⟩⟩
theorem cs_X5_46 : CNok RX5 46 yX6_setOf cX6_setOf 1 (some .int) 1 := ⟨List.mem_of_getElem? (i := 2) rfl, tw_st_X6_setOf, tw_in_X6, tw_cd_X6_setOf, ⟨by decide +kernel, by decide +kernel, by decide +kernel⟩⟩
theorem cs_X5_49 : CNok RX5 49 yX6_contains cX6_contains 2 (some .boolean) 2 := ⟨List.mem_of_getElem? (i := 4) rfl, tw_st_X6_contains, tw_in_X6, tw_cd_X6_contains, ⟨by decide +kernel, by decide +kernel, by decide +kernel⟩⟩
theorem cs_X5_59 : CNok RX5 59 yX6_pairsWith cX6_pairsWith 2 (some .long) 2 := ⟨List.mem_of_getElem? (i := 9) rfl, tw_st_X6_pairsWith, tw_in_X6, tw_cd_X6_pairsWith, ⟨by decide +kernel, by decide +kernel, by decide +kernel⟩⟩
theorem cs_X5_63 : CNok RX5 63 yX6_containsPair cX6_containsPair 3 (some .boolean) 2 := ⟨List.mem_of_getElem? (i := 8) rfl, tw_st_X6_containsPair, tw_in_X6, tw_cd_X6_containsPair, ⟨by decide +kernel, by decide +kernel, by decide +kernel⟩⟩
theorem cs_X5_71 : CNok RX5 71 yX6_setOfPair cX6_setOfPair 1 (some .long) 1 := ⟨List.mem_of_getElem? (i := 12) rfl, tw_st_X6_setOfPair, tw_in_X6, tw_cd_X6_setOfPair, ⟨by decide +kernel, by decide +kernel, by decide +kernel⟩⟩
theorem cs_X5_83 : CNok RX5 83 yX6_targetsWith cX6_targetsWith 3 (some .int) 2 := ⟨List.mem_of_getElem? (i := 14) rfl, tw_st_X6_targetsWith, tw_in_X6, tw_cd_X6_targetsWith, ⟨by decide +kernel, by decide +kernel, by decide +kernel⟩⟩
end
section
theorem tw_oi : Cond.instanceMethod Lib.objectInit ∈ lwg := lwg_at 20 (by decide +kernel) (by decide +kernel)
theorem tw_oc : Cond.code Lib.objectInit ⟨#[0xb1]⟩ 1 none ∈ lwg := lwg_at 21 (by decide +kernel) (by decide +kernel)
theorem tw_acs : Cond.static arraycopyName ∈ lwg := lwg_at 472 (by decide +kernel) (by decide +kernel)
theorem tw_acn : Cond.native arraycopyName ∈ lwg := lwg_at 473 (by decide +kernel) (by decide +kernel)
theorem mo_X6_3 : Cond.methodLink RX6 3 Lib.objectInit ∈ lwg := lwg_at 19 (by decide +kernel) (by decide +kernel)
theorem mo_X0_3 : Cond.methodLink RX0 3 Lib.objectInit ∈ lwg := lwg_at 317 (by decide +kernel) (by decide +kernel)
theorem mo_X1_3 : Cond.methodLink RX1 3 Lib.objectInit ∈ lwg := lwg_at 63 (by decide +kernel) (by decide +kernel)
theorem mo_X1_38 : Cond.methodLink RX1 38 arraycopyName ∈ lwg := lwg_at 478 (by decide +kernel) (by decide +kernel)
theorem mo_X2_3 : Cond.methodLink RX2 3 Lib.objectInit ∈ lwg := lwg_at 363 (by decide +kernel) (by decide +kernel)
theorem mo_X3_3 : Cond.methodLink RX3 3 Lib.objectInit ∈ lwg := lwg_at 409 (by decide +kernel) (by decide +kernel)
theorem mo_X4_3 : Cond.methodLink RX4 3 Lib.objectInit ∈ lwg := lwg_at 27 (by decide +kernel) (by decide +kernel)
theorem mo_X5_3 : Cond.methodLink RX5 3 Lib.objectInit ∈ lwg := lwg_at 33 (by decide +kernel) (by decide +kernel)
theorem mo_X5_30 : Cond.methodLink RX5 30 arraycopyName ∈ lwg := lwg_at 471 (by decide +kernel) (by decide +kernel)
theorem mo_X7_1 : Cond.methodLink RX7 1 Lib.objectInit ∈ lwg := lwg_at 488 (by decide +kernel) (by decide +kernel)
section VMORE
variable {Z : BX} {D : va_G} {kc ks : Nat} {wd : va_W} {lv : List (Option Value)} {st rest : List Value} {pc : Nat} {cc : ByteArray} {own : String} {rm : Room} {n0 : Nat}

theorem v_objInit (E : EF Z D cc own rm n0) {idx a : Nat} (d : decode cc pc = .ok (.invokespecial idx, 3)) (hw : Cond.methodLink own idx Lib.objectInit ∈ lwg) (hfr : Nat.ble 1 rm.frames = true) (hlo : Nat.ble 20 rm.locals = true) (hcr : (rest.map fun v => v.category).sum ≤ 8) (k : V Z D kc ks wd lv rest (pc + 3)) : V Z D kc ks wd lv (.ref a :: rest) pc := by
  obtain ⟨p, l, e, R, s, m, args, below, meth, c, A, nL, Q⟩ := Z
  obtain ⟨hx, hb, hml, rfl, rfl, hown, hts, hK, hA, hN, hlocks⟩ := E
  intro H locs ls hP hD hS hl
  refine W.objInit hx hb hown (hts _ hw) (hts _ tw_oi) (hts _ tw_oc) rfl (by rw [hml]; exact hl.1) rfl d (Nat.le_of_ble_eq_true hfr) (by
    have h1 := lv_room (m := m) (pc := pc) (ls := ls) (rest := .ref a :: rest) hcr
    have h2 := Nat.le_of_ble_eq_true hlo
    omega) ?_
  exact W.eq rfl (k H locs ls hP hD hS hl)
theorem nI_len {n : Int32} {N' : Nat} (hn : n = nI N') (hN : Nat.ble N' 100000 = true) : ¬ n < 0 ∧ n.toNatClampNeg = N' := by
  have h := Nat.le_of_ble_eq_true hN
  subst hn
  exact ⟨nI_pos (by omega), nI_clamp (by omega)⟩
theorem v_newI (E : EF Z D cc own rm n0) {n : Int32} (N' : Nat) (d : decode cc pc = .ok (.newarray .int, 2)) (hn : n = nI N') (hN' : Nat.ble N' 100000 = true) (hc : kc + 1 ≤ rm.cells) (hs : ks + N' ≤ rm.slots) (k : ∀ q, V Z D (kc + 1) (ks + N') (wd ++ [(q, aI D N' (fun _ => 0))]) lv (.ref q :: st) (pc + 2)) : V Z D kc ks wd lv (.int n :: st) pc := by
  obtain ⟨p, l, e, R, s, m, args, below, meth, c, A, nL, Q⟩ := Z
  obtain ⟨hx, hb, hml, rfl, rfl, hown, hts, hK, hA, hN, hlocks⟩ := E
  intro H locs ls hP hD hS hl
  obtain ⟨h1, h2⟩ := nI_len hn hN'
  have hle := Nat.le_of_ble_eq_true hN'
  refine va_newa (N' := N') (atype := .int) (ty := .int) (a0 := (N', .inl (fun _ => 0))) hx hb (hts _ ac_int) rfl hK hP hD hS hA (fun cA => rfl) h1 h2 (by
    have : componentBytes .int ≤ 8 := by decide
    have := Nat.mul_le_mul hle this
    omega) hc hs d (fun q cA H1 hK1 hP hD hS => ?_)
  have ea : s.vm.findClass ("[" ++ (FieldType.int).toString) = some cA := (hK1.2 5 (cA, .int) rfl).2
  have eb : s.vm.findClass ("[" ++ (FieldType.int).toString) = some (D.1 8) := (hK.2 0 (D.1 8, .int) rfl).2
  obtain rfl : cA = D.1 8 := Option.some.inj (ea.symm.trans eb)
  exact k q H1 locs ls hP hD hS hl
theorem v_newZ (E : EF Z D cc own rm n0) {n : Int32} (N' : Nat) (d : decode cc pc = .ok (.newarray .boolean, 2)) (hn : n = nI N') (hN' : Nat.ble N' 100000 = true) (hc : kc + 1 ≤ rm.cells) (hs : ks + N' ≤ rm.slots) (k : ∀ q, V Z D (kc + 1) (ks + N') (wd ++ [(q, aZ D N' (fun _ => 0))]) lv (.ref q :: st) (pc + 2)) : V Z D kc ks wd lv (.int n :: st) pc := by
  obtain ⟨p, l, e, R, s, m, args, below, meth, c, A, nL, Q⟩ := Z
  obtain ⟨hx, hb, hml, rfl, rfl, hown, hts, hK, hA, hN, hlocks⟩ := E
  intro H locs ls hP hD hS hl
  obtain ⟨h1, h2⟩ := nI_len hn hN'
  have hle := Nat.le_of_ble_eq_true hN'
  refine va_newa (N' := N') (atype := .boolean) (ty := .boolean) (a0 := (N', .inl (fun _ => 0))) hx hb (hts _ ac_boolean) rfl hK hP hD hS hA (fun cA => rfl) h1 h2 (by
    have : componentBytes .boolean ≤ 8 := by decide
    have := Nat.mul_le_mul hle this
    omega) hc hs d (fun q cA H1 hK1 hP hD hS => ?_)
  have ea : s.vm.findClass ("[" ++ (FieldType.boolean).toString) = some cA := (hK1.2 5 (cA, .boolean) rfl).2
  have eb : s.vm.findClass ("[" ++ (FieldType.boolean).toString) = some (D.1 9) := (hK.2 1 (D.1 9, .boolean) rfl).2
  obtain rfl : cA = D.1 9 := Option.some.inj (ea.symm.trans eb)
  exact k q H1 locs ls hP hD hS hl
theorem v_newJ (E : EF Z D cc own rm n0) {n : Int32} (N' : Nat) (d : decode cc pc = .ok (.newarray .long, 2)) (hn : n = nI N') (hN' : Nat.ble N' 100000 = true) (hc : kc + 1 ≤ rm.cells) (hs : ks + N' ≤ rm.slots) (k : ∀ q, V Z D (kc + 1) (ks + N') (wd ++ [(q, aJ D N' (fun _ => 0))]) lv (.ref q :: st) (pc + 2)) : V Z D kc ks wd lv (.int n :: st) pc := by
  obtain ⟨p, l, e, R, s, m, args, below, meth, c, A, nL, Q⟩ := Z
  obtain ⟨hx, hb, hml, rfl, rfl, hown, hts, hK, hA, hN, hlocks⟩ := E
  intro H locs ls hP hD hS hl
  obtain ⟨h1, h2⟩ := nI_len hn hN'
  have hle := Nat.le_of_ble_eq_true hN'
  refine va_newa (N' := N') (atype := .long) (ty := .long) (a0 := (N', .inr (.inl (fun _ => 0)))) hx hb (hts _ ac_long) rfl hK hP hD hS hA (fun cA => rfl) h1 h2 (by
    have : componentBytes .long ≤ 8 := by decide
    have := Nat.mul_le_mul hle this
    omega) hc hs d (fun q cA H1 hK1 hP hD hS => ?_)
  have ea : s.vm.findClass ("[" ++ (FieldType.long).toString) = some cA := (hK1.2 5 (cA, .long) rfl).2
  have eb : s.vm.findClass ("[" ++ (FieldType.long).toString) = some (D.1 10) := (hK.2 2 (D.1 10, .long) rfl).2
  obtain rfl : cA = D.1 10 := Option.some.inj (ea.symm.trans eb)
  exact k q H1 locs ls hP hD hS hl
theorem v_newS (E : EF Z D cc own rm n0) {n : Int32} {idx : Nat} (N' : Nat) (d : decode cc pc = .ok (.anewarray idx, 3)) (hw : Cond.classLink own idx "ChangeImpact$State" ∈ lwg) (hn : n = nI N') (hN' : Nat.ble N' 100000 = true) (hc : kc + 1 ≤ rm.cells) (hs : ks + N' ≤ rm.slots) (k : ∀ q, V Z D (kc + 1) (ks + N') (wd ++ [(q, aS D N' (fun _ => none))]) lv (.ref q :: st) (pc + 3)) : V Z D kc ks wd lv (.int n :: st) pc := by
  obtain ⟨p, l, e, R, s, m, args, below, meth, c, A, nL, Q⟩ := Z
  obtain ⟨hx, hb, hml, rfl, rfl, hown, hts, hK, hA, hN, hlocks⟩ := E
  intro H locs ls hP hD hS hl
  obtain ⟨h1, h2⟩ := nI_len hn hN'
  have hle := Nat.le_of_ble_eq_true hN'
  refine va_newq hx hb hown (hts _ hw) hN.2.1 hK hP hD hS hA h1 h2 (by omega) hc hs d (fun q cA H1 hK1 hP hD hS => ?_)
  obtain ⟨k1, c1, -, -, -, ea⟩ := (hK1.2 5 (cA, .object "ChangeImpact$State") rfl).2
  obtain ⟨k2, c2, -, -, -, eb⟩ := (hK.2 4 (D.1 12, .object "ChangeImpact$State") rfl).2
  obtain rfl : cA = D.1 12 := Option.some.inj (ea.symm.trans eb)
  exact k q H1 locs ls hP hD hS hl
theorem v_new (E : EF Z D cc own rm n0) {ci N index : Nat} {C : String} {T : u_T} (d : decode cc pc = .ok (.new index, 3)) (hc : clX[ci]? = some (C, T, N)) (hin : ∀ w ∈ u_ws C T N, w ∈ lwg) (ty0 : Nat → FieldType) (hty : ∀ k, k < N → parseFieldDescriptor (T k).2.2.1 = some (ty0 k)) (hcl : Cond.classLink own index C ∈ lwg) (hib : Cond.instantiable C N ∈ lwg) (hini : Cond.initialized C ∈ lwg) (fs : List Value) (hfs : ∀ j, j < N → defaultValue (ty0 j) = vp_V fs j) (h1 : kc + 1 ≤ rm.cells) (h2 : ks + N ≤ rm.slots) (k : ∀ q, V Z D (kc + 1) (ks + N) (wd ++ [(q, .inr (ci, fs))]) lv (.ref q :: st) (pc + 3)) : V Z D kc ks wd lv st pc := by
  obtain ⟨p, l, e, R, s, m, args, below, meth, c, A, nL, Q⟩ := Z
  obtain ⟨hx, hb, hml, rfl, rfl, hown, hts, hK, hA, hN, hlocks⟩ := E
  intro H locs ls hP hD hS hl
  exact va_new hx hb hts hin ty0 hty hown (hts _ hcl) (hts _ hib) (hts _ hini) hK hP hD hS hA hc hfs h1 h2 d (fun q H1 hP hD hS => k q H1 locs ls hP hD hS hl)
theorem v_cpyI (E : EF Z D cc own rm n0) {idx a a0 n1 m1 : Nat} {f g : Nat → Int32} {n : Int32} (nn : Nat) (d : decode cc pc = .ok (.invokestatic idx, 3)) (hw : Cond.methodLink own idx arraycopyName ∈ lwg) (q0 q1 : Nat) (ha0 : wd[q0]? = some (a0, aI D n1 f)) (ha1 : wd[q1]? = some (a, aI D m1 g)) (hn : n = nI nn) (hN' : Nat.ble nn 100000 = true) (h4 : nn ≤ n1) (h5 : nn ≤ m1) (hfr : Nat.ble 1 rm.frames = true) (hlo : Nat.ble 60 rm.locals = true) (hcr : (rest.map fun v => v.category).sum ≤ 8) (k : V Z D kc ks (wd.set q1 (a, aI D m1 (va_cpy f g 0 0 nn))) lv rest (pc + 3)) : V Z D kc ks wd lv (.int n :: .int 0 :: .ref a :: .int 0 :: .ref a0 :: rest) pc := by
  obtain ⟨p, l, e, R, s, m, args, below, meth, c, A, nL, Q⟩ := Z
  obtain ⟨hx, hb, hml, rfl, rfl, hown, hts, hK, hA, hN, hlocks⟩ := E
  intro H locs ls hP hD hS hl
  obtain ⟨h3, e3⟩ := nI_len hn hN'
  have e1 : (0 : Int32).toNatClampNeg = 0 := by decide
  refine va_copyi (ty := .int) hx hb (by rw [hml]; exact hl.1.symm) hown (hts _ hw) (hts _ tw_acn) (hts _ tw_acs) (hts _ tw_in_J10) hK hP hD hS q0 q1 0 0 ha0 ha1 rfl rfl rfl (by decide) (by decide) h3 (by rw [e1, e3]; omega) (by rw [e1, e3]; omega) (fun i _ => rfl) (Nat.le_of_ble_eq_true hfr) (by
    have h2 := Nat.le_of_ble_eq_true hlo
    have h6 : nativeFrameWords "java/lang/System" "arraycopy" 5 + 11 ≤ 52 := by decide
    omega) d (fun H1 locs1 hP hD hS => ?_)
  rw [e1, e3] at hP hD
  exact k H1 locs1 ls hP hD hS hl
theorem v_cpyZ (E : EF Z D cc own rm n0) {idx a a0 n1 m1 : Nat} {f g : Nat → Int32} {n : Int32} (nn : Nat) (d : decode cc pc = .ok (.invokestatic idx, 3)) (hw : Cond.methodLink own idx arraycopyName ∈ lwg) (q0 q1 : Nat) (ha0 : wd[q0]? = some (a0, aZ D n1 f)) (ha1 : wd[q1]? = some (a, aZ D m1 g)) (hn : n = nI nn) (hN' : Nat.ble nn 100000 = true) (h4 : nn ≤ n1) (h5 : nn ≤ m1) (hfit : ∀ i, i < nn → fits .boolean (.int (f i)) = true) (hfr : Nat.ble 1 rm.frames = true) (hlo : Nat.ble 60 rm.locals = true) (hcr : (rest.map fun v => v.category).sum ≤ 8) (k : V Z D kc ks (wd.set q1 (a, aZ D m1 (va_cpy f g 0 0 nn))) lv rest (pc + 3)) : V Z D kc ks wd lv (.int n :: .int 0 :: .ref a :: .int 0 :: .ref a0 :: rest) pc := by
  obtain ⟨p, l, e, R, s, m, args, below, meth, c, A, nL, Q⟩ := Z
  obtain ⟨hx, hb, hml, rfl, rfl, hown, hts, hK, hA, hN, hlocks⟩ := E
  intro H locs ls hP hD hS hl
  obtain ⟨h3, e3⟩ := nI_len hn hN'
  have e1 : (0 : Int32).toNatClampNeg = 0 := by decide
  refine va_copyi (ty := .boolean) hx hb (by rw [hml]; exact hl.1.symm) hown (hts _ hw) (hts _ tw_acn) (hts _ tw_acs) (hts _ tw_in_J10) hK hP hD hS q0 q1 1 1 ha0 ha1 rfl rfl rfl (by decide) (by decide) h3 (by rw [e1, e3]; omega) (by rw [e1, e3]; omega) (fun i hi => by rw [e1, Nat.zero_add]; exact hfit i (by rw [← e3]; exact hi)) (Nat.le_of_ble_eq_true hfr) (by
    have h2 := Nat.le_of_ble_eq_true hlo
    have h6 : nativeFrameWords "java/lang/System" "arraycopy" 5 + 11 ≤ 52 := by decide
    omega) d (fun H1 locs1 hP hD hS => ?_)
  rw [e1, e3] at hP hD
  exact k H1 locs1 ls hP hD hS hl
end VMORE
end
