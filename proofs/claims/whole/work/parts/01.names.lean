-- ===== PART A: goes FIRST, ahead of the names: the tables' words, and 'selects' of the private methods out of them =====
/-- a private method of a class that the tables say can be made, by its rows of tables_1 -/
def lw_okq (q : MethodName × Nat) : Prop := (q.1.cls ≠ "java/lang/invoke/MethodHandle" ∧ q.1.cls ≠ "java/lang/invoke/VarHandle") ∧ Cond.instantiable q.1.cls q.2 ∈ tables_1 ∧ Cond.privateMethod q.1 ∈ tables_1 ∧ Cond.instanceMethod q.1 ∈ tables_1
theorem lw_p0 : lw_okq (⟨"ChangeImpactModel", "tests", "()I"⟩, 10) := ⟨⟨by decide +kernel, by decide +kernel⟩, List.mem_of_getElem? (i := 484) (by decide +kernel), List.mem_of_getElem? (i := 528) (by decide +kernel), List.mem_of_getElem? (i := 529) (by decide +kernel)⟩
theorem lw_p1 : lw_okq (⟨"ChangeImpactModel", "kindOf", "(I)I"⟩, 10) := ⟨⟨by decide +kernel, by decide +kernel⟩, List.mem_of_getElem? (i := 484) (by decide +kernel), List.mem_of_getElem? (i := 532) (by decide +kernel), List.mem_of_getElem? (i := 533) (by decide +kernel)⟩
theorem lw_p2 : lw_okq (⟨"ChangeImpactModel", "isTarget", "(I)Z"⟩, 10) := ⟨⟨by decide +kernel, by decide +kernel⟩, List.mem_of_getElem? (i := 484) (by decide +kernel), List.mem_of_getElem? (i := 544) (by decide +kernel), List.mem_of_getElem? (i := 545) (by decide +kernel)⟩
theorem lw_p3 : lw_okq (⟨"ChangeImpactModel", "linkOf", "(II)I"⟩, 10) := ⟨⟨by decide +kernel, by decide +kernel⟩, List.mem_of_getElem? (i := 484) (by decide +kernel), List.mem_of_getElem? (i := 548) (by decide +kernel), List.mem_of_getElem? (i := 549) (by decide +kernel)⟩
theorem lw_p4 : lw_okq (⟨"ChangeImpactModel", "reachOf", "(II)I"⟩, 10) := ⟨⟨by decide +kernel, by decide +kernel⟩, List.mem_of_getElem? (i := 484) (by decide +kernel), List.mem_of_getElem? (i := 552) (by decide +kernel), List.mem_of_getElem? (i := 553) (by decide +kernel)⟩
theorem lw_p5 : lw_okq (⟨"ChangeImpactModel", "isNamed", "(I)Z"⟩, 10) := ⟨⟨by decide +kernel, by decide +kernel⟩, List.mem_of_getElem? (i := 484) (by decide +kernel), List.mem_of_getElem? (i := 564) (by decide +kernel), List.mem_of_getElem? (i := 565) (by decide +kernel)⟩
theorem lw_p6 : lw_okq (⟨"ChangeImpactModel", "isFile", "(I)Z"⟩, 10) := ⟨⟨by decide +kernel, by decide +kernel⟩, List.mem_of_getElem? (i := 484) (by decide +kernel), List.mem_of_getElem? (i := 568) (by decide +kernel), List.mem_of_getElem? (i := 569) (by decide +kernel)⟩
theorem lw_p7 : lw_okq (⟨"ChangeImpactModel", "giveName", "(II)V"⟩, 10) := ⟨⟨by decide +kernel, by decide +kernel⟩, List.mem_of_getElem? (i := 484) (by decide +kernel), List.mem_of_getElem? (i := 575) (by decide +kernel), List.mem_of_getElem? (i := 576) (by decide +kernel)⟩
theorem lw_p8 : lw_okq (⟨"ChangeImpactModel", "touch", "(II)V"⟩, 10) := ⟨⟨by decide +kernel, by decide +kernel⟩, List.mem_of_getElem? (i := 484) (by decide +kernel), List.mem_of_getElem? (i := 579) (by decide +kernel), List.mem_of_getElem? (i := 580) (by decide +kernel)⟩
theorem lw_p9 : lw_okq (⟨"ChangeImpactModel", "layChanged", "()V"⟩, 10) := ⟨⟨by decide +kernel, by decide +kernel⟩, List.mem_of_getElem? (i := 484) (by decide +kernel), List.mem_of_getElem? (i := 626) (by decide +kernel), List.mem_of_getElem? (i := 627) (by decide +kernel)⟩
theorem lw_p10 : lw_okq (⟨"ChangeImpactModel", "spread", "()V"⟩, 10) := ⟨⟨by decide +kernel, by decide +kernel⟩, List.mem_of_getElem? (i := 484) (by decide +kernel), List.mem_of_getElem? (i := 630) (by decide +kernel), List.mem_of_getElem? (i := 631) (by decide +kernel)⟩
theorem lw_p11 : lw_okq (⟨"ChangeImpactModel", "follows", "(II)Z"⟩, 10) := ⟨⟨by decide +kernel, by decide +kernel⟩, List.mem_of_getElem? (i := 484) (by decide +kernel), List.mem_of_getElem? (i := 634) (by decide +kernel), List.mem_of_getElem? (i := 635) (by decide +kernel)⟩
theorem lw_p12 : lw_okq (⟨"ChangeImpactModel", "setOf", "(I)I"⟩, 10) := ⟨⟨by decide +kernel, by decide +kernel⟩, List.mem_of_getElem? (i := 484) (by decide +kernel), List.mem_of_getElem? (i := 638) (by decide +kernel), List.mem_of_getElem? (i := 639) (by decide +kernel)⟩
theorem lw_p13 : lw_okq (⟨"ChangeImpactModel", "rebuilt", "()I"⟩, 10) := ⟨⟨by decide +kernel, by decide +kernel⟩, List.mem_of_getElem? (i := 484) (by decide +kernel), List.mem_of_getElem? (i := 646) (by decide +kernel), List.mem_of_getElem? (i := 647) (by decide +kernel)⟩
theorem lw_p14 : lw_okq (⟨"ChangeImpactModel", "laySteps", "(I)V"⟩, 10) := ⟨⟨by decide +kernel, by decide +kernel⟩, List.mem_of_getElem? (i := 484) (by decide +kernel), List.mem_of_getElem? (i := 654) (by decide +kernel), List.mem_of_getElem? (i := 655) (by decide +kernel)⟩
theorem lw_p15 : lw_okq (⟨"ChangeImpactModel", "smallest", "(II)I"⟩, 10) := ⟨⟨by decide +kernel, by decide +kernel⟩, List.mem_of_getElem? (i := 484) (by decide +kernel), List.mem_of_getElem? (i := 658) (by decide +kernel), List.mem_of_getElem? (i := 659) (by decide +kernel)⟩
def lw_privs_1 : List (MethodName × Nat) := [(⟨"ChangeImpactModel", "tests", "()I"⟩, 10), (⟨"ChangeImpactModel", "kindOf", "(I)I"⟩, 10), (⟨"ChangeImpactModel", "isTarget", "(I)Z"⟩, 10), (⟨"ChangeImpactModel", "linkOf", "(II)I"⟩, 10), (⟨"ChangeImpactModel", "reachOf", "(II)I"⟩, 10), (⟨"ChangeImpactModel", "isNamed", "(I)Z"⟩, 10), (⟨"ChangeImpactModel", "isFile", "(I)Z"⟩, 10), (⟨"ChangeImpactModel", "giveName", "(II)V"⟩, 10), (⟨"ChangeImpactModel", "touch", "(II)V"⟩, 10), (⟨"ChangeImpactModel", "layChanged", "()V"⟩, 10), (⟨"ChangeImpactModel", "spread", "()V"⟩, 10), (⟨"ChangeImpactModel", "follows", "(II)Z"⟩, 10), (⟨"ChangeImpactModel", "setOf", "(I)I"⟩, 10), (⟨"ChangeImpactModel", "rebuilt", "()I"⟩, 10), (⟨"ChangeImpactModel", "laySteps", "(I)V"⟩, 10), (⟨"ChangeImpactModel", "smallest", "(II)I"⟩, 10)]
theorem lw_r1 : ∀ q ∈ lw_privs_1, lw_okq q := List.forall_mem_cons.mpr ⟨lw_p0, List.forall_mem_cons.mpr ⟨lw_p1, List.forall_mem_cons.mpr ⟨lw_p2, List.forall_mem_cons.mpr ⟨lw_p3, List.forall_mem_cons.mpr ⟨lw_p4, List.forall_mem_cons.mpr ⟨lw_p5, List.forall_mem_cons.mpr ⟨lw_p6, List.forall_mem_cons.mpr ⟨lw_p7, List.forall_mem_cons.mpr ⟨lw_p8, List.forall_mem_cons.mpr ⟨lw_p9, List.forall_mem_cons.mpr ⟨lw_p10, List.forall_mem_cons.mpr ⟨lw_p11, List.forall_mem_cons.mpr ⟨lw_p12, List.forall_mem_cons.mpr ⟨lw_p13, List.forall_mem_cons.mpr ⟨lw_p14, List.forall_mem_cons.mpr ⟨lw_p15, fun _ h => absurd h List.not_mem_nil⟩⟩⟩⟩⟩⟩⟩⟩⟩⟩⟩⟩⟩⟩⟩⟩
theorem lw_p16 : lw_okq (⟨"ChangeImpactModel", "impactOf", "(I)I"⟩, 10) := ⟨⟨by decide +kernel, by decide +kernel⟩, List.mem_of_getElem? (i := 484) (by decide +kernel), List.mem_of_getElem? (i := 666) (by decide +kernel), List.mem_of_getElem? (i := 667) (by decide +kernel)⟩
theorem lw_p17 : lw_okq (⟨"ChangeImpactModel", "weightOf", "(I)I"⟩, 10) := ⟨⟨by decide +kernel, by decide +kernel⟩, List.mem_of_getElem? (i := 484) (by decide +kernel), List.mem_of_getElem? (i := 670) (by decide +kernel), List.mem_of_getElem? (i := 671) (by decide +kernel)⟩
theorem lw_p18 : lw_okq (⟨"ChangeImpactModel", "layOrder", "()I"⟩, 10) := ⟨⟨by decide +kernel, by decide +kernel⟩, List.mem_of_getElem? (i := 484) (by decide +kernel), List.mem_of_getElem? (i := 682) (by decide +kernel), List.mem_of_getElem? (i := 683) (by decide +kernel)⟩
theorem lw_p19 : lw_okq (⟨"ChangeImpactModel", "waits", "(II)Z"⟩, 10) := ⟨⟨by decide +kernel, by decide +kernel⟩, List.mem_of_getElem? (i := 484) (by decide +kernel), List.mem_of_getElem? (i := 686) (by decide +kernel), List.mem_of_getElem? (i := 687) (by decide +kernel)⟩
theorem lw_p20 : lw_okq (⟨"ChangeImpactModel", "layShards", "(I)V"⟩, 10) := ⟨⟨by decide +kernel, by decide +kernel⟩, List.mem_of_getElem? (i := 484) (by decide +kernel), List.mem_of_getElem? (i := 701) (by decide +kernel), List.mem_of_getElem? (i := 702) (by decide +kernel)⟩
theorem lw_p21 : lw_okq (⟨"ChangeImpactModel", "greatestBy", "(III)I"⟩, 10) := ⟨⟨by decide +kernel, by decide +kernel⟩, List.mem_of_getElem? (i := 484) (by decide +kernel), List.mem_of_getElem? (i := 714) (by decide +kernel), List.mem_of_getElem? (i := 715) (by decide +kernel)⟩
def lw_privs_2 : List (MethodName × Nat) := [(⟨"ChangeImpactModel", "impactOf", "(I)I"⟩, 10), (⟨"ChangeImpactModel", "weightOf", "(I)I"⟩, 10), (⟨"ChangeImpactModel", "layOrder", "()I"⟩, 10), (⟨"ChangeImpactModel", "waits", "(II)Z"⟩, 10), (⟨"ChangeImpactModel", "layShards", "(I)V"⟩, 10), (⟨"ChangeImpactModel", "greatestBy", "(III)I"⟩, 10)]
theorem lw_r2 : ∀ q ∈ lw_privs_2, lw_okq q := List.forall_mem_cons.mpr ⟨lw_p16, List.forall_mem_cons.mpr ⟨lw_p17, List.forall_mem_cons.mpr ⟨lw_p18, List.forall_mem_cons.mpr ⟨lw_p19, List.forall_mem_cons.mpr ⟨lw_p20, List.forall_mem_cons.mpr ⟨lw_p21, fun _ h => absurd h List.not_mem_nil⟩⟩⟩⟩⟩⟩
def lw_privs : List (MethodName × Nat) := lw_privs_1 ++ (lw_privs_2)
def lw_tbl : List Cond := k2_sels lw_privs ++ tables_1
theorem lw_privs_ok : ∀ q ∈ lw_privs, lw_okq q := by
  show ∀ q ∈ lw_privs_1 ++ (lw_privs_2), lw_okq q
  exact List.forall_mem_append.mpr ⟨lw_r1, lw_r2⟩
def RX0 : String := "ChangeImpact$Chain"
def TX0 : u_T := fun k => match k with
  | 0 => ("ChangeImpact$Chain", "pairs", "[I", true)
  | _ => ("ChangeImpact$Chain", "length", "I", false)
def tyX0 : Nat → FieldType := fun k => match k with
  | 0 => .array .int
  | _ => .int
abbrev wsX00 : List Cond := u_ws RX0 TX0 2
theorem nmX0 : ∀ a, a < 2 → ∀ b, b < 2 → a ≠ b → (TX0 a).2.1 ≠ (TX0 b).2.1 := by decide +kernel
theorem tyX0_ok : ∀ k, k < 2 → parseFieldDescriptor (TX0 k).2.2.1 = some (tyX0 k) := by decide +kernel
abbrev cX0_init : ByteArray := prog_2_method_1_code
def yX0_init : MethodName := ⟨RX0, "<init>", "(LChangeImpact$Targets;JI)V"⟩
def RX1 : String := "ChangeImpact$Files"
def TX1 : u_T := fun k => match k with
  | 0 => ("ChangeImpact$Files", "count", "I", false)
  | 1 => ("ChangeImpact$Files", "target", "[I", true)
  | 2 => ("ChangeImpact$Files", "name", "[I", true)
  | 3 => ("ChangeImpact$Files", "header", "[Z", true)
  | 4 => ("ChangeImpact$Files", "exists", "[Z", true)
  | _ => ("ChangeImpact$Files", "lastOwner", "[I", true)
def tyX1 : Nat → FieldType := fun k => match k with
  | 0 => .int
  | 1 => .array .int
  | 2 => .array .int
  | 3 => .array .boolean
  | 4 => .array .boolean
  | _ => .array .int
abbrev wsX10 : List Cond := u_ws RX1 TX1 6
theorem nmX1 : ∀ a, a < 6 → ∀ b, b < 6 → a ≠ b → (TX1 a).2.1 ≠ (TX1 b).2.1 := by decide +kernel
theorem tyX1_ok : ∀ k, k < 6 → parseFieldDescriptor (TX1 k).2.2.1 = some (tyX1 k) := by decide +kernel
abbrev cX1_init : ByteArray := prog_3_method_1_code
def yX1_init : MethodName := ⟨RX1, "<init>", "()V"⟩
abbrev cX1_copyFrom : ByteArray := prog_3_method_2_code
def yX1_copyFrom : MethodName := ⟨RX1, "copyFrom", "(LChangeImpact$Files;)V"⟩
abbrev cX1_has : ByteArray := prog_3_method_3_code
def yX1_has : MethodName := ⟨RX1, "has", "(I)Z"⟩
abbrev cX1_isInUse : ByteArray := prog_3_method_4_code
def yX1_isInUse : MethodName := ⟨RX1, "isInUse", "(I)Z"⟩
abbrev cX1_append : ByteArray := prog_3_method_5_code
def yX1_append : MethodName := ⟨RX1, "append", "(IZI)I"⟩
abbrev cX1_giveName : ByteArray := prog_3_method_6_code
def yX1_giveName : MethodName := ⟨RX1, "giveName", "(II)V"⟩
def RX2 : String := "ChangeImpact$Rebuild"
def TX2 : u_T := fun k => match k with
  | 0 => ("ChangeImpact$Rebuild", "targets", "LChangeImpact$Targets;", true)
  | 1 => ("ChangeImpact$Rebuild", "rebuilt", "I", true)
  | 2 => ("ChangeImpact$Rebuild", "order", "[I", true)
  | _ => ("ChangeImpact$Rebuild", "length", "I", false)
def tyX2 : Nat → FieldType := fun k => match k with
  | 0 => .object "ChangeImpact$Targets"
  | 1 => .int
  | 2 => .array .int
  | _ => .int
abbrev wsX20 : List Cond := u_ws RX2 TX2 4
theorem nmX2 : ∀ a, a < 4 → ∀ b, b < 4 → a ≠ b → (TX2 a).2.1 ≠ (TX2 b).2.1 := by decide +kernel
theorem tyX2_ok : ∀ k, k < 4 → parseFieldDescriptor (TX2 k).2.2.1 = some (tyX2 k) := by decide +kernel
abbrev cX2_init : ByteArray := prog_4_method_1_code
def yX2_init : MethodName := ⟨RX2, "<init>", "(LChangeImpact$Targets;I)V"⟩
abbrev cX2_time : ByteArray := prog_4_method_2_code
def yX2_time : MethodName := ⟨RX2, "time", "()I"⟩
def RX3 : String := "ChangeImpact$Shards"
def TX3 : u_T := fun k => match k with
  | 0 => ("ChangeImpact$Shards", "load", "[I", true)
  | 1 => ("ChangeImpact$Shards", "given", "[I", true)
  | 2 => ("ChangeImpact$Shards", "weights", "[I", true)
  | _ => ("ChangeImpact$Shards", "tests", "I", false)
def tyX3 : Nat → FieldType := fun k => match k with
  | 0 => .array .int
  | 1 => .array .int
  | 2 => .array .int
  | _ => .int
abbrev wsX30 : List Cond := u_ws RX3 TX3 4
theorem nmX3 : ∀ a, a < 4 → ∀ b, b < 4 → a ≠ b → (TX3 a).2.1 ≠ (TX3 b).2.1 := by decide +kernel
theorem tyX3_ok : ∀ k, k < 4 → parseFieldDescriptor (TX3 k).2.2.1 = some (tyX3 k) := by decide +kernel
abbrev cX3_init : ByteArray := prog_5_method_1_code
def yX3_init : MethodName := ⟨RX3, "<init>", "(LChangeImpact$Targets;II)V"⟩
abbrev cX3_leastGreatestLoad : ByteArray := prog_5_method_2_code
def yX3_leastGreatestLoad : MethodName := ⟨RX3, "leastGreatestLoad", "()I"⟩
abbrev cX3_improve : ByteArray := prog_5_method_3_code
def yX3_improve : MethodName := ⟨RX3, "improve", "([III[II)I"⟩
abbrev cX3_standsBefore : ByteArray := prog_5_method_4_code
def yX3_standsBefore : MethodName := ⟨RX3, "standsBefore", "([II)Z"⟩
abbrev cX3_leastLoaded : ByteArray := prog_5_method_5_code
def yX3_leastLoaded : MethodName := ⟨RX3, "leastLoaded", "([I)I"⟩
abbrev cX3_greatest : ByteArray := prog_5_method_6_code
def yX3_greatest : MethodName := ⟨RX3, "greatest", "([I)I"⟩
def RX4 : String := "ChangeImpact$State"
def TX4 : u_T := fun k => match k with
  | 0 => ("ChangeImpact$State", "targets", "LChangeImpact$Targets;", true)
  | 1 => ("ChangeImpact$State", "files", "LChangeImpact$Files;", true)
  | _ => ("ChangeImpact$State", "direct", "J", false)
def tyX4 : Nat → FieldType := fun k => match k with
  | 0 => .object "ChangeImpact$Targets"
  | 1 => .object "ChangeImpact$Files"
  | _ => .long
abbrev wsX40 : List Cond := u_ws RX4 TX4 3
theorem nmX4 : ∀ a, a < 3 → ∀ b, b < 3 → a ≠ b → (TX4 a).2.1 ≠ (TX4 b).2.1 := by decide +kernel
theorem tyX4_ok : ∀ k, k < 3 → parseFieldDescriptor (TX4 k).2.2.1 = some (tyX4 k) := by decide +kernel
abbrev cX4_init : ByteArray := prog_6_method_1_code
def yX4_init : MethodName := ⟨RX4, "<init>", "()V"⟩
abbrev cX4_copyFrom : ByteArray := prog_6_method_2_code
def yX4_copyFrom : MethodName := ⟨RX4, "copyFrom", "(LChangeImpact$State;)V"⟩
abbrev cX4_touchBy : ByteArray := prog_6_method_3_code
def yX4_touchBy : MethodName := ⟨RX4, "touchBy", "(I)V"⟩
abbrev cX4_rebuilt : ByteArray := prog_6_method_4_code
def yX4_rebuilt : MethodName := ⟨RX4, "rebuilt", "()I"⟩
abbrev cX4_testsToRun : ByteArray := prog_6_method_5_code
def yX4_testsToRun : MethodName := ⟨RX4, "testsToRun", "()I"⟩
def RX5 : String := "ChangeImpact$Targets"
def TX5 : u_T := fun k => match k with
  | 0 => ("ChangeImpact$Targets", "count", "I", false)
  | 1 => ("ChangeImpact$Targets", "dependencies", "I", false)
  | 2 => ("ChangeImpact$Targets", "weight", "[I", true)
  | 3 => ("ChangeImpact$Targets", "ofKind", "[I", true)
  | _ => ("ChangeImpact$Targets", "users", "[[I", true)
def tyX5 : Nat → FieldType := fun k => match k with
  | 0 => .int
  | 1 => .int
  | 2 => .array .int
  | 3 => .array .int
  | _ => .array (.array .int)
abbrev wsX50 : List Cond := u_ws RX5 TX5 5
theorem nmX5 : ∀ a, a < 5 → ∀ b, b < 5 → a ≠ b → (TX5 a).2.1 ≠ (TX5 b).2.1 := by decide +kernel
theorem tyX5_ok : ∀ k, k < 5 → parseFieldDescriptor (TX5 k).2.2.1 = some (tyX5 k) := by decide +kernel
abbrev cX5_init : ByteArray := prog_7_method_1_code
def yX5_init : MethodName := ⟨RX5, "<init>", "()V"⟩
abbrev cX5_copyFrom : ByteArray := prog_7_method_2_code
def yX5_copyFrom : MethodName := ⟨RX5, "copyFrom", "(LChangeImpact$Targets;)V"⟩
abbrev cX5_has : ByteArray := prog_7_method_3_code
def yX5_has : MethodName := ⟨RX5, "has", "(I)Z"⟩
abbrev cX5_testCount : ByteArray := prog_7_method_4_code
def yX5_testCount : MethodName := ⟨RX5, "testCount", "()I"⟩
abbrev cX5_append : ByteArray := prog_7_method_5_code
def yX5_append : MethodName := ⟨RX5, "append", "(II)I"⟩
abbrev cX5_allows : ByteArray := prog_7_method_6_code
def yX5_allows : MethodName := ⟨RX5, "allows", "(III)Z"⟩
abbrev cX5_connect : ByteArray := prog_7_method_7_code
def yX5_connect : MethodName := ⟨RX5, "connect", "(III)V"⟩
abbrev cX5_disconnect : ByteArray := prog_7_method_8_code
def yX5_disconnect : MethodName := ⟨RX5, "disconnect", "(III)V"⟩
abbrev cX5_kindBetween : ByteArray := prog_7_method_9_code
def yX5_kindBetween : MethodName := ⟨RX5, "kindBetween", "(II)I"⟩
abbrev cX5_usersOf : ByteArray := prog_7_method_10_code
def yX5_usersOf : MethodName := ⟨RX5, "usersOf", "(II)I"⟩
abbrev cX5_usersOfAny : ByteArray := prog_7_method_11_code
def yX5_usersOfAny : MethodName := ⟨RX5, "usersOfAny", "(II)I"⟩
abbrev cX5_withAllUsers : ByteArray := prog_7_method_12_code
def yX5_withAllUsers : MethodName := ⟨RX5, "withAllUsers", "(II)I"⟩
abbrev cX5_followersOf : ByteArray := prog_7_method_13_code
def yX5_followersOf : MethodName := ⟨RX5, "followersOf", "(I)J"⟩
abbrev cX5_followersOfAny : ByteArray := prog_7_method_14_code
def yX5_followersOfAny : MethodName := ⟨RX5, "followersOfAny", "(J)J"⟩
abbrev cX5_causesOfAny : ByteArray := prog_7_method_15_code
def yX5_causesOfAny : MethodName := ⟨RX5, "causesOfAny", "(J)J"⟩
abbrev cX5_reachOf : ByteArray := prog_7_method_16_code
def yX5_reachOf : MethodName := ⟨RX5, "reachOf", "(J)J"⟩
abbrev cX5_weightRebuiltBy : ByteArray := prog_7_method_17_code
def yX5_weightRebuiltBy : MethodName := ⟨RX5, "weightRebuiltBy", "(I)I"⟩
abbrev cX5_heaviest : ByteArray := prog_7_method_18_code
def yX5_heaviest : MethodName := ⟨RX5, "heaviest", "(I)I"⟩
def RX6 : String := "ChangeImpact"
def TX6 : u_T := fun k => match k with
  | 0 => ("ChangeImpact", "state", "LChangeImpact$State;", true)
  | _ => ("ChangeImpact", "saved", "[LChangeImpact$State;", true)
def tyX6 : Nat → FieldType := fun k => match k with
  | 0 => .object "ChangeImpact$State"
  | _ => .array (.object "ChangeImpact$State")
abbrev wsX60 : List Cond := u_ws RX6 TX6 2
theorem nmX6 : ∀ a, a < 2 → ∀ b, b < 2 → a ≠ b → (TX6 a).2.1 ≠ (TX6 b).2.1 := by decide +kernel
theorem tyX6_ok : ∀ k, k < 2 → parseFieldDescriptor (TX6 k).2.2.1 = some (tyX6 k) := by decide +kernel
abbrev cX6_init : ByteArray := prog_1_method_1_code
def yX6_init : MethodName := ⟨RX6, "<init>", "()V"⟩
abbrev cX6_addTarget : ByteArray := prog_1_method_2_code
def yX6_addTarget : MethodName := ⟨RX6, "addTarget", "(II)I"⟩
abbrev cX6_targetCount : ByteArray := prog_1_method_3_code
def yX6_targetCount : MethodName := ⟨RX6, "targetCount", "()I"⟩
abbrev cX6_addDependency : ByteArray := prog_1_method_4_code
def yX6_addDependency : MethodName := ⟨RX6, "addDependency", "(III)I"⟩
abbrev cX6_removeDependency : ByteArray := prog_1_method_5_code
def yX6_removeDependency : MethodName := ⟨RX6, "removeDependency", "(II)I"⟩
abbrev cX6_addFile : ByteArray := prog_1_method_6_code
def yX6_addFile : MethodName := ⟨RX6, "addFile", "(IZI)I"⟩
abbrev cX6_edit : ByteArray := prog_1_method_7_code
def yX6_edit : MethodName := ⟨RX6, "edit", "(I)I"⟩
abbrev cX6_rename : ByteArray := prog_1_method_8_code
def yX6_rename : MethodName := ⟨RX6, "rename", "(II)I"⟩
abbrev cX6_move : ByteArray := prog_1_method_9_code
def yX6_move : MethodName := ⟨RX6, "move", "(II)I"⟩
abbrev cX6_deleteFile : ByteArray := prog_1_method_10_code
def yX6_deleteFile : MethodName := ⟨RX6, "deleteFile", "(I)I"⟩
abbrev cX6_targetOf : ByteArray := prog_1_method_11_code
def yX6_targetOf : MethodName := ⟨RX6, "targetOf", "(I)I"⟩
abbrev cX6_nameOf : ByteArray := prog_1_method_12_code
def yX6_nameOf : MethodName := ⟨RX6, "nameOf", "(I)I"⟩
abbrev cX6_follow : ByteArray := prog_1_method_13_code
def yX6_follow : MethodName := ⟨RX6, "follow", "(I)I"⟩
abbrev cX6_clearChanges : ByteArray := prog_1_method_14_code
def yX6_clearChanges : MethodName := ⟨RX6, "clearChanges", "()I"⟩
abbrev cX6_directlyChanged : ByteArray := prog_1_method_15_code
def yX6_directlyChanged : MethodName := ⟨RX6, "directlyChanged", "(I)I"⟩
abbrev cX6_changed : ByteArray := prog_1_method_16_code
def yX6_changed : MethodName := ⟨RX6, "changed", "(I)I"⟩
abbrev cX6_affectedTests : ByteArray := prog_1_method_17_code
def yX6_affectedTests : MethodName := ⟨RX6, "affectedTests", "()I"⟩
abbrev cX6_chain : ByteArray := prog_1_method_18_code
def yX6_chain : MethodName := ⟨RX6, "chain", "(III)I"⟩
abbrev cX6_impact : ByteArray := prog_1_method_19_code
def yX6_impact : MethodName := ⟨RX6, "impact", "(II)I"⟩
abbrev cX6_mostCritical : ByteArray := prog_1_method_20_code
def yX6_mostCritical : MethodName := ⟨RX6, "mostCritical", "(I)I"⟩
abbrev cX6_rebuildOrder : ByteArray := prog_1_method_21_code
def yX6_rebuildOrder : MethodName := ⟨RX6, "rebuildOrder", "(I)I"⟩
abbrev cX6_rebuildTime : ByteArray := prog_1_method_22_code
def yX6_rebuildTime : MethodName := ⟨RX6, "rebuildTime", "()I"⟩
abbrev cX6_shardOf : ByteArray := prog_1_method_23_code
def yX6_shardOf : MethodName := ⟨RX6, "shardOf", "(II)I"⟩
abbrev cX6_shardLoad : ByteArray := prog_1_method_24_code
def yX6_shardLoad : MethodName := ⟨RX6, "shardLoad", "(II)I"⟩
abbrev cX6_bestGreatestLoad : ByteArray := prog_1_method_25_code
def yX6_bestGreatestLoad : MethodName := ⟨RX6, "bestGreatestLoad", "(I)I"⟩
abbrev cX6_save : ByteArray := prog_1_method_26_code
def yX6_save : MethodName := ⟨RX6, "save", "(I)I"⟩
abbrev cX6_restore : ByteArray := prog_1_method_27_code
def yX6_restore : MethodName := ⟨RX6, "restore", "(I)I"⟩
abbrev cX6_inRange : ByteArray := prog_1_method_28_code
def yX6_inRange : MethodName := ⟨RX6, "inRange", "(II)Z"⟩
abbrev cX6_isShardCount : ByteArray := prog_1_method_29_code
def yX6_isShardCount : MethodName := ⟨RX6, "isShardCount", "(I)Z"⟩
abbrev cX6_setOf : ByteArray := prog_1_method_30_code
def yX6_setOf : MethodName := ⟨RX6, "setOf", "(I)I"⟩
abbrev cX6_contains : ByteArray := prog_1_method_31_code
def yX6_contains : MethodName := ⟨RX6, "contains", "(II)Z"⟩
abbrev cX6_smallestTarget : ByteArray := prog_1_method_32_code
def yX6_smallestTarget : MethodName := ⟨RX6, "smallestTarget", "(I)I"⟩
abbrev cX6_pairOf : ByteArray := prog_1_method_33_code
def yX6_pairOf : MethodName := ⟨RX6, "pairOf", "(II)I"⟩
abbrev cX6_pairsWith : ByteArray := prog_1_method_34_code
def yX6_pairsWith : MethodName := ⟨RX6, "pairsWith", "(II)J"⟩
abbrev cX6_targetsWith : ByteArray := prog_1_method_35_code
def yX6_targetsWith : MethodName := ⟨RX6, "targetsWith", "(JI)I"⟩
abbrev cX6_setOfPair : ByteArray := prog_1_method_36_code
def yX6_setOfPair : MethodName := ⟨RX6, "setOfPair", "(I)J"⟩
abbrev cX6_containsPair : ByteArray := prog_1_method_37_code
def yX6_containsPair : MethodName := ⟨RX6, "containsPair", "(JI)Z"⟩
abbrev cX6_smallestPair : ByteArray := prog_1_method_38_code
def yX6_smallestPair : MethodName := ⟨RX6, "smallestPair", "(J)I"⟩
def RX7 : String := "ChangeImpactModel"
def TX7 : u_T := fun k => match k with
  | 0 => ("ChangeImpactModel", "state", "[I", true)
  | 1 => ("ChangeImpactModel", "slots", "[I", true)
  | 2 => ("ChangeImpactModel", "isSaved", "[Z", true)
  | 3 => ("ChangeImpactModel", "isChanged", "[Z", true)
  | 4 => ("ChangeImpactModel", "steps", "[I", true)
  | 5 => ("ChangeImpactModel", "order", "[I", true)
  | 6 => ("ChangeImpactModel", "readyAt", "[I", true)
  | 7 => ("ChangeImpactModel", "load", "[I", true)
  | 8 => ("ChangeImpactModel", "shard", "[I", true)
  | _ => ("ChangeImpactModel", "weights", "[I", true)
def tyX7 : Nat → FieldType := fun k => match k with
  | 0 => .array .int
  | 1 => .array .int
  | 2 => .array .boolean
  | 3 => .array .boolean
  | 4 => .array .int
  | 5 => .array .int
  | 6 => .array .int
  | 7 => .array .int
  | 8 => .array .int
  | _ => .array .int
abbrev wsX70 : List Cond := u_ws RX7 TX7 10
theorem nmX7 : ∀ a, a < 10 → ∀ b, b < 10 → a ≠ b → (TX7 a).2.1 ≠ (TX7 b).2.1 := by decide +kernel
theorem tyX7_ok : ∀ k, k < 10 → parseFieldDescriptor (TX7 k).2.2.1 = some (tyX7 k) := by decide +kernel
abbrev cX7_init : ByteArray := prog_9_method_1_code
def yX7_init : MethodName := ⟨RX7, "<init>", "()V"⟩
abbrev cX7_in : ByteArray := prog_9_method_2_code
def yX7_in : MethodName := ⟨RX7, "in", "(III)Z"⟩
abbrev cX7_isTarget : ByteArray := prog_9_method_3_code
def yX7_isTarget : MethodName := ⟨RX7, "isTarget", "(I)Z"⟩
abbrev cX7_kindOf : ByteArray := prog_9_method_4_code
def yX7_kindOf : MethodName := ⟨RX7, "kindOf", "(I)I"⟩
abbrev cX7_weightOf : ByteArray := prog_9_method_5_code
def yX7_weightOf : MethodName := ⟨RX7, "weightOf", "(I)I"⟩
abbrev cX7_linkOf : ByteArray := prog_9_method_6_code
def yX7_linkOf : MethodName := ⟨RX7, "linkOf", "(II)I"⟩
abbrev cX7_tests : ByteArray := prog_9_method_7_code
def yX7_tests : MethodName := ⟨RX7, "tests", "()I"⟩
abbrev cX7_addTarget : ByteArray := prog_9_method_8_code
def yX7_addTarget : MethodName := ⟨RX7, "addTarget", "(II)I"⟩
abbrev cX7_targetCount : ByteArray := prog_9_method_9_code
def yX7_targetCount : MethodName := ⟨RX7, "targetCount", "()I"⟩
abbrev cX7_reachOf : ByteArray := prog_9_method_10_code
def yX7_reachOf : MethodName := ⟨RX7, "reachOf", "(II)I"⟩
abbrev cX7_addDependency : ByteArray := prog_9_method_11_code
def yX7_addDependency : MethodName := ⟨RX7, "addDependency", "(III)I"⟩
abbrev cX7_removeDependency : ByteArray := prog_9_method_12_code
def yX7_removeDependency : MethodName := ⟨RX7, "removeDependency", "(II)I"⟩
abbrev cX7_at : ByteArray := prog_9_method_13_code
def yX7_at : MethodName := ⟨RX7, "at", "(I)I"⟩
abbrev cX7_isFile : ByteArray := prog_9_method_14_code
def yX7_isFile : MethodName := ⟨RX7, "isFile", "(I)Z"⟩
abbrev cX7_isNamed : ByteArray := prog_9_method_15_code
def yX7_isNamed : MethodName := ⟨RX7, "isNamed", "(I)Z"⟩
abbrev cX7_touch : ByteArray := prog_9_method_16_code
def yX7_touch : MethodName := ⟨RX7, "touch", "(II)V"⟩
abbrev cX7_giveName : ByteArray := prog_9_method_17_code
def yX7_giveName : MethodName := ⟨RX7, "giveName", "(II)V"⟩
abbrev cX7_addFile : ByteArray := prog_9_method_18_code
def yX7_addFile : MethodName := ⟨RX7, "addFile", "(IZI)I"⟩
abbrev cX7_edit : ByteArray := prog_9_method_19_code
def yX7_edit : MethodName := ⟨RX7, "edit", "(I)I"⟩
abbrev cX7_rename : ByteArray := prog_9_method_20_code
def yX7_rename : MethodName := ⟨RX7, "rename", "(II)I"⟩
abbrev cX7_move : ByteArray := prog_9_method_21_code
def yX7_move : MethodName := ⟨RX7, "move", "(II)I"⟩
abbrev cX7_deleteFile : ByteArray := prog_9_method_22_code
def yX7_deleteFile : MethodName := ⟨RX7, "deleteFile", "(I)I"⟩
abbrev cX7_targetOf : ByteArray := prog_9_method_23_code
def yX7_targetOf : MethodName := ⟨RX7, "targetOf", "(I)I"⟩
abbrev cX7_nameOf : ByteArray := prog_9_method_24_code
def yX7_nameOf : MethodName := ⟨RX7, "nameOf", "(I)I"⟩
abbrev cX7_follow : ByteArray := prog_9_method_25_code
def yX7_follow : MethodName := ⟨RX7, "follow", "(I)I"⟩
abbrev cX7_follows : ByteArray := prog_9_method_26_code
def yX7_follows : MethodName := ⟨RX7, "follows", "(II)Z"⟩
abbrev cX7_spread : ByteArray := prog_9_method_27_code
def yX7_spread : MethodName := ⟨RX7, "spread", "()V"⟩
abbrev cX7_layChanged : ByteArray := prog_9_method_28_code
def yX7_layChanged : MethodName := ⟨RX7, "layChanged", "()V"⟩
abbrev cX7_setOf : ByteArray := prog_9_method_29_code
def yX7_setOf : MethodName := ⟨RX7, "setOf", "(I)I"⟩
abbrev cX7_clearChanges : ByteArray := prog_9_method_30_code
def yX7_clearChanges : MethodName := ⟨RX7, "clearChanges", "()I"⟩
abbrev cX7_isPart : ByteArray := prog_9_method_31_code
def yX7_isPart : MethodName := ⟨RX7, "isPart", "(I)Z"⟩
abbrev cX7_directlyChanged : ByteArray := prog_9_method_32_code
def yX7_directlyChanged : MethodName := ⟨RX7, "directlyChanged", "(I)I"⟩
abbrev cX7_changed : ByteArray := prog_9_method_33_code
def yX7_changed : MethodName := ⟨RX7, "changed", "(I)I"⟩
abbrev cX7_rebuilt : ByteArray := prog_9_method_34_code
def yX7_rebuilt : MethodName := ⟨RX7, "rebuilt", "()I"⟩
abbrev cX7_affectedTests : ByteArray := prog_9_method_35_code
def yX7_affectedTests : MethodName := ⟨RX7, "affectedTests", "()I"⟩
abbrev cX7_laySteps : ByteArray := prog_9_method_36_code
def yX7_laySteps : MethodName := ⟨RX7, "laySteps", "(I)V"⟩
abbrev cX7_smallest : ByteArray := prog_9_method_37_code
def yX7_smallest : MethodName := ⟨RX7, "smallest", "(II)I"⟩
abbrev cX7_chain : ByteArray := prog_9_method_38_code
def yX7_chain : MethodName := ⟨RX7, "chain", "(III)I"⟩
abbrev cX7_impactOf : ByteArray := prog_9_method_39_code
def yX7_impactOf : MethodName := ⟨RX7, "impactOf", "(I)I"⟩
abbrev cX7_impact : ByteArray := prog_9_method_40_code
def yX7_impact : MethodName := ⟨RX7, "impact", "(II)I"⟩
abbrev cX7_mostCritical : ByteArray := prog_9_method_41_code
def yX7_mostCritical : MethodName := ⟨RX7, "mostCritical", "(I)I"⟩
abbrev cX7_waits : ByteArray := prog_9_method_42_code
def yX7_waits : MethodName := ⟨RX7, "waits", "(II)Z"⟩
abbrev cX7_layOrder : ByteArray := prog_9_method_43_code
def yX7_layOrder : MethodName := ⟨RX7, "layOrder", "()I"⟩
abbrev cX7_rebuildOrder : ByteArray := prog_9_method_44_code
def yX7_rebuildOrder : MethodName := ⟨RX7, "rebuildOrder", "(I)I"⟩
abbrev cX7_rebuildTime : ByteArray := prog_9_method_45_code
def yX7_rebuildTime : MethodName := ⟨RX7, "rebuildTime", "()I"⟩
abbrev cX7_layShards : ByteArray := prog_9_method_46_code
def yX7_layShards : MethodName := ⟨RX7, "layShards", "(I)V"⟩
abbrev cX7_areShards : ByteArray := prog_9_method_47_code
def yX7_areShards : MethodName := ⟨RX7, "areShards", "(I)Z"⟩
abbrev cX7_shardOf : ByteArray := prog_9_method_48_code
def yX7_shardOf : MethodName := ⟨RX7, "shardOf", "(II)I"⟩
abbrev cX7_shardLoad : ByteArray := prog_9_method_49_code
def yX7_shardLoad : MethodName := ⟨RX7, "shardLoad", "(II)I"⟩
abbrev cX7_greatestBy : ByteArray := prog_9_method_50_code
def yX7_greatestBy : MethodName := ⟨RX7, "greatestBy", "(III)I"⟩
abbrev cX7_bestGreatestLoad : ByteArray := prog_9_method_51_code
def yX7_bestGreatestLoad : MethodName := ⟨RX7, "bestGreatestLoad", "(I)I"⟩
abbrev cX7_save : ByteArray := prog_9_method_52_code
def yX7_save : MethodName := ⟨RX7, "save", "(I)I"⟩
abbrev cX7_restore : ByteArray := prog_9_method_53_code
def yX7_restore : MethodName := ⟨RX7, "restore", "(I)I"⟩
def RJ6 : String := "java/lang/Integer"
def TJ6 : u_T := fun k => match k with
  | _ => ("", "", "", false)
def tyJ6 : Nat → FieldType := fun k => match k with
  | _ => .int
abbrev wsJ60 : List Cond := u_ws RJ6 TJ6 0
theorem nmJ6 : ∀ a, a < 0 → ∀ b, b < 0 → a ≠ b → (TJ6 a).2.1 ≠ (TJ6 b).2.1 := by decide +kernel
theorem tyJ6_ok : ∀ k, k < 0 → parseFieldDescriptor (TJ6 k).2.2.1 = some (tyJ6 k) := by decide +kernel
abbrev cJ6_bitCount_0f7a4 : ByteArray := prog_10_method_49_code
def yJ6_bitCount_0f7a4 : MethodName := ⟨RJ6, "bitCount", "(I)I"⟩
def RJ13 : String := "java/lang/Long"
def TJ13 : u_T := fun k => match k with
  | _ => ("", "", "", false)
def tyJ13 : Nat → FieldType := fun k => match k with
  | _ => .int
abbrev wsJ130 : List Cond := u_ws RJ13 TJ13 0
theorem nmJ13 : ∀ a, a < 0 → ∀ b, b < 0 → a ≠ b → (TJ13 a).2.1 ≠ (TJ13 b).2.1 := by decide +kernel
theorem tyJ13_ok : ∀ k, k < 0 → parseFieldDescriptor (TJ13 k).2.2.1 = some (tyJ13 k) := by decide +kernel
abbrev cJ13_bitCount_95d88 : ByteArray := prog_11_method_50_code
def yJ13_bitCount_95d88 : MethodName := ⟨RJ13, "bitCount", "(J)I"⟩
def RJ9 : String := "java/lang/Math"
def TJ9 : u_T := fun k => match k with
  | _ => ("", "", "", false)
def tyJ9 : Nat → FieldType := fun k => match k with
  | _ => .int
abbrev wsJ90 : List Cond := u_ws RJ9 TJ9 0
theorem nmJ9 : ∀ a, a < 0 → ∀ b, b < 0 → a ≠ b → (TJ9 a).2.1 ≠ (TJ9 b).2.1 := by decide +kernel
theorem tyJ9_ok : ∀ k, k < 0 → parseFieldDescriptor (TJ9 k).2.2.1 = some (tyJ9 k) := by decide +kernel
abbrev cJ9_max_7cf53 : ByteArray := prog_12_method_65_code
def yJ9_max_7cf53 : MethodName := ⟨RJ9, "max", "(II)I"⟩
abbrev cJ9_min_7cf53 : ByteArray := prog_12_method_69_code
def yJ9_min_7cf53 : MethodName := ⟨RJ9, "min", "(II)I"⟩
def RJ10 : String := "java/lang/System"
def TJ10 : u_T := fun k => match k with
  | _ => ("", "", "", false)
def tyJ10 : Nat → FieldType := fun k => match k with
  | _ => .int
abbrev wsJ100 : List Cond := u_ws RJ10 TJ10 0
theorem nmJ10 : ∀ a, a < 0 → ∀ b, b < 0 → a ≠ b → (TJ10 a).2.1 ≠ (TJ10 b).2.1 := by decide +kernel
theorem tyJ10_ok : ∀ k, k < 0 → parseFieldDescriptor (TJ10 k).2.2.1 = some (tyJ10 k) := by decide +kernel
def RJ7 : String := "java/util/Arrays"
def TJ7 : u_T := fun k => match k with
  | _ => ("", "", "", false)
def tyJ7 : Nat → FieldType := fun k => match k with
  | _ => .int
abbrev wsJ70 : List Cond := u_ws RJ7 TJ7 0
theorem nmJ7 : ∀ a, a < 0 → ∀ b, b < 0 → a ≠ b → (TJ7 a).2.1 ≠ (TJ7 b).2.1 := by decide +kernel
theorem tyJ7_ok : ∀ k, k < 0 → parseFieldDescriptor (TJ7 k).2.2.1 = some (tyJ7 k) := by decide +kernel
abbrev cJ7_fill_53178 : ByteArray := prog_14_method_103_code
def yJ7_fill_53178 : MethodName := ⟨RJ7, "fill", "([II)V"⟩
def RL : String := "ChangeImpactLaw"
abbrev cL_law : ByteArray := code
def yL_law : MethodName := ⟨RL, "law", "([I)Z"⟩
