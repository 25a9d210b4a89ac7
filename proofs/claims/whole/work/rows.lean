section
-- ===== PART A: goes FIRST, ahead of the names: the tables' words, and 'selects' of the private methods out of them =====
/-- a private method of a class that the tables say can be made, by its rows of tables_1 -/
def lw_okq (q : MethodName × Nat) : Prop := (q.1.cls ≠ "java/lang/invoke/MethodHandle" ∧ q.1.cls ≠ "java/lang/invoke/VarHandle") ∧ Cond.instantiable q.1.cls q.2 ∈ tables_1 ∧ Cond.privateMethod q.1 ∈ tables_1 ∧ Cond.instanceMethod q.1 ∈ tables_1
theorem lw_p0 : lw_okq (⟨"PoeSwitch$State", "lastPoweredPort", "()I"⟩, 10) := ⟨⟨by decide +kernel, by decide +kernel⟩, List.mem_of_getElem? (i := 18) (by decide +kernel), List.mem_of_getElem? (i := 315) (by decide +kernel), List.mem_of_getElem? (i := 316) (by decide +kernel)⟩
theorem lw_p1 : lw_okq (⟨"PoeSwitch$State", "cutPorts", "()I"⟩, 10) := ⟨⟨by decide +kernel, by decide +kernel⟩, List.mem_of_getElem? (i := 18) (by decide +kernel), List.mem_of_getElem? (i := 328) (by decide +kernel), List.mem_of_getElem? (i := 329) (by decide +kernel)⟩
theorem lw_p2 : lw_okq (⟨"PoeSwitch$State", "coolDownExcept", "(I)V"⟩, 10) := ⟨⟨by decide +kernel, by decide +kernel⟩, List.mem_of_getElem? (i := 18) (by decide +kernel), List.mem_of_getElem? (i := 337) (by decide +kernel), List.mem_of_getElem? (i := 338) (by decide +kernel)⟩
theorem lw_p3 : lw_okq (⟨"PoeSwitch$State", "powerUp", "()I"⟩, 10) := ⟨⟨by decide +kernel, by decide +kernel⟩, List.mem_of_getElem? (i := 18) (by decide +kernel), List.mem_of_getElem? (i := 341) (by decide +kernel), List.mem_of_getElem? (i := 342) (by decide +kernel)⟩
theorem lw_p4 : lw_okq (⟨"PoeSwitch$State", "firstPortToPowerUp", "()I"⟩, 10) := ⟨⟨by decide +kernel, by decide +kernel⟩, List.mem_of_getElem? (i := 18) (by decide +kernel), List.mem_of_getElem? (i := 345) (by decide +kernel), List.mem_of_getElem? (i := 346) (by decide +kernel)⟩
theorem lw_p5 : lw_okq (⟨"PoeSwitch", "settlePlan", "()I"⟩, 3) := ⟨⟨by decide +kernel, by decide +kernel⟩, List.mem_of_getElem? (i := 10) (by decide +kernel), List.mem_of_getElem? (i := 417) (by decide +kernel), List.mem_of_getElem? (i := 418) (by decide +kernel)⟩
theorem lw_p6 : lw_okq (⟨"PoeSwitch$State", "portsAreCalm", "()Z"⟩, 10) := ⟨⟨by decide +kernel, by decide +kernel⟩, List.mem_of_getElem? (i := 18) (by decide +kernel), List.mem_of_getElem? (i := 425) (by decide +kernel), List.mem_of_getElem? (i := 426) (by decide +kernel)⟩
theorem lw_p7 : lw_okq (⟨"PoeSwitchModel", "set", "(II)I"⟩, 7) := ⟨⟨by decide +kernel, by decide +kernel⟩, List.mem_of_getElem? (i := 444) (by decide +kernel), List.mem_of_getElem? (i := 485) (by decide +kernel), List.mem_of_getElem? (i := 486) (by decide +kernel)⟩
theorem lw_p8 : lw_okq (⟨"PoeSwitchModel", "of", "(II)I"⟩, 7) := ⟨⟨by decide +kernel, by decide +kernel⟩, List.mem_of_getElem? (i := 444) (by decide +kernel), List.mem_of_getElem? (i := 518) (by decide +kernel), List.mem_of_getElem? (i := 519) (by decide +kernel)⟩
theorem lw_p9 : lw_okq (⟨"PoeSwitchModel", "losePower", "(I)V"⟩, 7) := ⟨⟨by decide +kernel, by decide +kernel⟩, List.mem_of_getElem? (i := 444) (by decide +kernel), List.mem_of_getElem? (i := 529) (by decide +kernel), List.mem_of_getElem? (i := 530) (by decide +kernel)⟩
theorem lw_p10 : lw_okq (⟨"PoeSwitchModel", "isConnected", "(I)Z"⟩, 7) := ⟨⟨by decide +kernel, by decide +kernel⟩, List.mem_of_getElem? (i := 444) (by decide +kernel), List.mem_of_getElem? (i := 541) (by decide +kernel), List.mem_of_getElem? (i := 542) (by decide +kernel)⟩
theorem lw_p11 : lw_okq (⟨"PoeSwitchModel", "isPowered", "(I)Z"⟩, 7) := ⟨⟨by decide +kernel, by decide +kernel⟩, List.mem_of_getElem? (i := 444) (by decide +kernel), List.mem_of_getElem? (i := 555) (by decide +kernel), List.mem_of_getElem? (i := 556) (by decide +kernel)⟩
theorem lw_p12 : lw_okq (⟨"PoeSwitchModel", "classOf", "(I)I"⟩, 7) := ⟨⟨by decide +kernel, by decide +kernel⟩, List.mem_of_getElem? (i := 444) (by decide +kernel), List.mem_of_getElem? (i := 567) (by decide +kernel), List.mem_of_getElem? (i := 568) (by decide +kernel)⟩
theorem lw_p13 : lw_okq (⟨"PoeSwitchModel", "isEligible", "(I)Z"⟩, 7) := ⟨⟨by decide +kernel, by decide +kernel⟩, List.mem_of_getElem? (i := 444) (by decide +kernel), List.mem_of_getElem? (i := 580) (by decide +kernel), List.mem_of_getElem? (i := 581) (by decide +kernel)⟩
theorem lw_p14 : lw_okq (⟨"PoeSwitchModel", "detects", "(I)Z"⟩, 7) := ⟨⟨by decide +kernel, by decide +kernel⟩, List.mem_of_getElem? (i := 444) (by decide +kernel), List.mem_of_getElem? (i := 584) (by decide +kernel), List.mem_of_getElem? (i := 585) (by decide +kernel)⟩
theorem lw_p15 : lw_okq (⟨"PoeSwitchModel", "told", "(II)I"⟩, 7) := ⟨⟨by decide +kernel, by decide +kernel⟩, List.mem_of_getElem? (i := 444) (by decide +kernel), List.mem_of_getElem? (i := 596) (by decide +kernel), List.mem_of_getElem? (i := 597) (by decide +kernel)⟩
def lw_privs_1 : List (MethodName × Nat) := [(⟨"PoeSwitch$State", "lastPoweredPort", "()I"⟩, 10), (⟨"PoeSwitch$State", "cutPorts", "()I"⟩, 10), (⟨"PoeSwitch$State", "coolDownExcept", "(I)V"⟩, 10), (⟨"PoeSwitch$State", "powerUp", "()I"⟩, 10), (⟨"PoeSwitch$State", "firstPortToPowerUp", "()I"⟩, 10), (⟨"PoeSwitch", "settlePlan", "()I"⟩, 3), (⟨"PoeSwitch$State", "portsAreCalm", "()Z"⟩, 10), (⟨"PoeSwitchModel", "set", "(II)I"⟩, 7), (⟨"PoeSwitchModel", "of", "(II)I"⟩, 7), (⟨"PoeSwitchModel", "losePower", "(I)V"⟩, 7), (⟨"PoeSwitchModel", "isConnected", "(I)Z"⟩, 7), (⟨"PoeSwitchModel", "isPowered", "(I)Z"⟩, 7), (⟨"PoeSwitchModel", "classOf", "(I)I"⟩, 7), (⟨"PoeSwitchModel", "isEligible", "(I)Z"⟩, 7), (⟨"PoeSwitchModel", "detects", "(I)Z"⟩, 7), (⟨"PoeSwitchModel", "told", "(II)I"⟩, 7)]
theorem lw_r1 : ∀ q ∈ lw_privs_1, lw_okq q := List.forall_mem_cons.mpr ⟨lw_p0, List.forall_mem_cons.mpr ⟨lw_p1, List.forall_mem_cons.mpr ⟨lw_p2, List.forall_mem_cons.mpr ⟨lw_p3, List.forall_mem_cons.mpr ⟨lw_p4, List.forall_mem_cons.mpr ⟨lw_p5, List.forall_mem_cons.mpr ⟨lw_p6, List.forall_mem_cons.mpr ⟨lw_p7, List.forall_mem_cons.mpr ⟨lw_p8, List.forall_mem_cons.mpr ⟨lw_p9, List.forall_mem_cons.mpr ⟨lw_p10, List.forall_mem_cons.mpr ⟨lw_p11, List.forall_mem_cons.mpr ⟨lw_p12, List.forall_mem_cons.mpr ⟨lw_p13, List.forall_mem_cons.mpr ⟨lw_p14, List.forall_mem_cons.mpr ⟨lw_p15, fun _ h => absurd h List.not_mem_nil⟩⟩⟩⟩⟩⟩⟩⟩⟩⟩⟩⟩⟩⟩⟩⟩
theorem lw_p16 : lw_okq (⟨"PoeSwitchModel", "second", "()V"⟩, 7) := ⟨⟨by decide +kernel, by decide +kernel⟩, List.mem_of_getElem? (i := 444) (by decide +kernel), List.mem_of_getElem? (i := 612) (by decide +kernel), List.mem_of_getElem? (i := 613) (by decide +kernel)⟩
theorem lw_p17 : lw_okq (⟨"PoeSwitchModel", "shedAll", "()I"⟩, 7) := ⟨⟨by decide +kernel, by decide +kernel⟩, List.mem_of_getElem? (i := 444) (by decide +kernel), List.mem_of_getElem? (i := 616) (by decide +kernel), List.mem_of_getElem? (i := 617) (by decide +kernel)⟩
theorem lw_p18 : lw_okq (⟨"PoeSwitchModel", "inOrder", "(I)I"⟩, 7) := ⟨⟨by decide +kernel, by decide +kernel⟩, List.mem_of_getElem? (i := 444) (by decide +kernel), List.mem_of_getElem? (i := 620) (by decide +kernel), List.mem_of_getElem? (i := 621) (by decide +kernel)⟩
theorem lw_p19 : lw_okq (⟨"PoeSwitchModel", "addEvent", "(II)V"⟩, 7) := ⟨⟨by decide +kernel, by decide +kernel⟩, List.mem_of_getElem? (i := 444) (by decide +kernel), List.mem_of_getElem? (i := 624) (by decide +kernel), List.mem_of_getElem? (i := 625) (by decide +kernel)⟩
theorem lw_p20 : lw_okq (⟨"PoeSwitchModel", "isCut", "(I)Z"⟩, 7) := ⟨⟨by decide +kernel, by decide +kernel⟩, List.mem_of_getElem? (i := 444) (by decide +kernel), List.mem_of_getElem? (i := 628) (by decide +kernel), List.mem_of_getElem? (i := 629) (by decide +kernel)⟩
theorem lw_p21 : lw_okq (⟨"PoeSwitchModel", "checkOverload", "(I)V"⟩, 7) := ⟨⟨by decide +kernel, by decide +kernel⟩, List.mem_of_getElem? (i := 444) (by decide +kernel), List.mem_of_getElem? (i := 632) (by decide +kernel), List.mem_of_getElem? (i := 633) (by decide +kernel)⟩
theorem lw_p22 : lw_okq (⟨"PoeSwitchModel", "powerUp", "()V"⟩, 7) := ⟨⟨by decide +kernel, by decide +kernel⟩, List.mem_of_getElem? (i := 444) (by decide +kernel), List.mem_of_getElem? (i := 636) (by decide +kernel), List.mem_of_getElem? (i := 637) (by decide +kernel)⟩
theorem lw_p23 : lw_okq (⟨"PoeSwitchModel", "ofEvent", "(II)I"⟩, 7) := ⟨⟨by decide +kernel, by decide +kernel⟩, List.mem_of_getElem? (i := 444) (by decide +kernel), List.mem_of_getElem? (i := 652) (by decide +kernel), List.mem_of_getElem? (i := 653) (by decide +kernel)⟩
theorem lw_p24 : lw_okq (⟨"PoeSwitchModel", "keep", "()V"⟩, 7) := ⟨⟨by decide +kernel, by decide +kernel⟩, List.mem_of_getElem? (i := 444) (by decide +kernel), List.mem_of_getElem? (i := 668) (by decide +kernel), List.mem_of_getElem? (i := 669) (by decide +kernel)⟩
theorem lw_p25 : lw_okq (⟨"PoeSwitchModel", "putBack", "()V"⟩, 7) := ⟨⟨by decide +kernel, by decide +kernel⟩, List.mem_of_getElem? (i := 444) (by decide +kernel), List.mem_of_getElem? (i := 672) (by decide +kernel), List.mem_of_getElem? (i := 673) (by decide +kernel)⟩
theorem lw_p26 : lw_okq (⟨"PoeSwitchModel", "findStable", "()I"⟩, 7) := ⟨⟨by decide +kernel, by decide +kernel⟩, List.mem_of_getElem? (i := 444) (by decide +kernel), List.mem_of_getElem? (i := 684) (by decide +kernel), List.mem_of_getElem? (i := 685) (by decide +kernel)⟩
theorem lw_p27 : lw_okq (⟨"PoeSwitchModel", "isStableSecond", "()Z"⟩, 7) := ⟨⟨by decide +kernel, by decide +kernel⟩, List.mem_of_getElem? (i := 444) (by decide +kernel), List.mem_of_getElem? (i := 689) (by decide +kernel), List.mem_of_getElem? (i := 690) (by decide +kernel)⟩
def lw_privs_2 : List (MethodName × Nat) := [(⟨"PoeSwitchModel", "second", "()V"⟩, 7), (⟨"PoeSwitchModel", "shedAll", "()I"⟩, 7), (⟨"PoeSwitchModel", "inOrder", "(I)I"⟩, 7), (⟨"PoeSwitchModel", "addEvent", "(II)V"⟩, 7), (⟨"PoeSwitchModel", "isCut", "(I)Z"⟩, 7), (⟨"PoeSwitchModel", "checkOverload", "(I)V"⟩, 7), (⟨"PoeSwitchModel", "powerUp", "()V"⟩, 7), (⟨"PoeSwitchModel", "ofEvent", "(II)I"⟩, 7), (⟨"PoeSwitchModel", "keep", "()V"⟩, 7), (⟨"PoeSwitchModel", "putBack", "()V"⟩, 7), (⟨"PoeSwitchModel", "findStable", "()I"⟩, 7), (⟨"PoeSwitchModel", "isStableSecond", "()Z"⟩, 7)]
theorem lw_r2 : ∀ q ∈ lw_privs_2, lw_okq q := List.forall_mem_cons.mpr ⟨lw_p16, List.forall_mem_cons.mpr ⟨lw_p17, List.forall_mem_cons.mpr ⟨lw_p18, List.forall_mem_cons.mpr ⟨lw_p19, List.forall_mem_cons.mpr ⟨lw_p20, List.forall_mem_cons.mpr ⟨lw_p21, List.forall_mem_cons.mpr ⟨lw_p22, List.forall_mem_cons.mpr ⟨lw_p23, List.forall_mem_cons.mpr ⟨lw_p24, List.forall_mem_cons.mpr ⟨lw_p25, List.forall_mem_cons.mpr ⟨lw_p26, List.forall_mem_cons.mpr ⟨lw_p27, fun _ h => absurd h List.not_mem_nil⟩⟩⟩⟩⟩⟩⟩⟩⟩⟩⟩⟩
def lw_privs : List (MethodName × Nat) := lw_privs_1 ++ (lw_privs_2)
def lw_tbl : List Cond := k2_sels lw_privs ++ tables_1
theorem lw_privs_ok : ∀ q ∈ lw_privs, lw_okq q := by
  show ∀ q ∈ lw_privs_1 ++ (lw_privs_2), lw_okq q
  exact List.forall_mem_append.mpr ⟨lw_r1, lw_r2⟩
end
section
def RX0 : String := "PoeSwitch$EventLog"
def TX0 : u_T := fun k => match k with
  | 0 => ("PoeSwitch$EventLog", "times", "[I", true)
  | 1 => ("PoeSwitch$EventLog", "ports", "[I", true)
  | 2 => ("PoeSwitch$EventLog", "kinds", "[I", true)
  | 3 => ("PoeSwitch$EventLog", "oldest", "I", false)
  | _ => ("PoeSwitch$EventLog", "count", "I", false)
def tyX0 : Nat → FieldType := fun k => match k with
  | 0 => .array .int
  | 1 => .array .int
  | 2 => .array .int
  | 3 => .int
  | _ => .int
abbrev wsX00 : List Cond := u_ws RX0 TX0 5
theorem nmX0 : ∀ a, a < 5 → ∀ b, b < 5 → a ≠ b → (TX0 a).2.1 ≠ (TX0 b).2.1 := by decide +kernel
theorem tyX0_ok : ∀ k, k < 5 → parseFieldDescriptor (TX0 k).2.2.1 = some (tyX0 k) := by decide +kernel
abbrev cX0_init : ByteArray := prog_2_method_1_code
def yX0_init : MethodName := ⟨RX0, "<init>", "()V"⟩
abbrev cX0_holds : ByteArray := prog_2_method_2_code
def yX0_holds : MethodName := ⟨RX0, "holds", "(I)Z"⟩
abbrev cX0_placeOf : ByteArray := prog_2_method_3_code
def yX0_placeOf : MethodName := ⟨RX0, "placeOf", "(I)I"⟩
abbrev cX0_add : ByteArray := prog_2_method_4_code
def yX0_add : MethodName := ⟨RX0, "add", "(III)V"⟩
abbrev cX0_copyFrom : ByteArray := prog_2_method_5_code
def yX0_copyFrom : MethodName := ⟨RX0, "copyFrom", "(LPoeSwitch$EventLog;)V"⟩
def RX1 : String := "PoeSwitch$Port"
def TX1 : u_T := fun k => match k with
  | 0 => ("PoeSwitch$Port", "enabled", "Z", false)
  | 1 => ("PoeSwitch$Port", "priority", "I", false)
  | 2 => ("PoeSwitch$Port", "connected", "Z", false)
  | 3 => ("PoeSwitch$Port", "detected", "Z", false)
  | 4 => ("PoeSwitch$Port", "deviceClass", "I", false)
  | 5 => ("PoeSwitch$Port", "load", "I", false)
  | 6 => ("PoeSwitch$Port", "request", "I", false)
  | 7 => ("PoeSwitch$Port", "grant", "I", false)
  | 8 => ("PoeSwitch$Port", "overload", "I", false)
  | _ => ("PoeSwitch$Port", "cooldown", "I", false)
def tyX1 : Nat → FieldType := fun k => match k with
  | 0 => .boolean
  | 1 => .int
  | 2 => .boolean
  | 3 => .boolean
  | 4 => .int
  | 5 => .int
  | 6 => .int
  | 7 => .int
  | 8 => .int
  | _ => .int
abbrev wsX10 : List Cond := u_ws RX1 TX1 10
theorem nmX1 : ∀ a, a < 10 → ∀ b, b < 10 → a ≠ b → (TX1 a).2.1 ≠ (TX1 b).2.1 := by decide +kernel
theorem tyX1_ok : ∀ k, k < 10 → parseFieldDescriptor (TX1 k).2.2.1 = some (tyX1 k) := by decide +kernel
abbrev cX1_init : ByteArray := prog_3_method_1_code
def yX1_init : MethodName := ⟨RX1, "<init>", "()V"⟩
abbrev cX1_isPowered : ByteArray := prog_3_method_2_code
def yX1_isPowered : MethodName := ⟨RX1, "isPowered", "()Z"⟩
abbrev cX1_isOverloaded : ByteArray := prog_3_method_3_code
def yX1_isOverloaded : MethodName := ⟨RX1, "isOverloaded", "()Z"⟩
abbrev cX1_hasRequest : ByteArray := prog_3_method_4_code
def yX1_hasRequest : MethodName := ⟨RX1, "hasRequest", "()Z"⟩
abbrev cX1_isEligible : ByteArray := prog_3_method_5_code
def yX1_isEligible : MethodName := ⟨RX1, "isEligible", "()Z"⟩
abbrev cX1_canPowerUp : ByteArray := prog_3_method_6_code
def yX1_canPowerUp : MethodName := ⟨RX1, "canPowerUp", "(I)Z"⟩
abbrev cX1_losePower : ByteArray := prog_3_method_7_code
def yX1_losePower : MethodName := ⟨RX1, "losePower", "()V"⟩
abbrev cX1_reset : ByteArray := prog_3_method_8_code
def yX1_reset : MethodName := ⟨RX1, "reset", "()V"⟩
abbrev cX1_copyFrom : ByteArray := prog_3_method_9_code
def yX1_copyFrom : MethodName := ⟨RX1, "copyFrom", "(LPoeSwitch$Port;)V"⟩
def RX2 : String := "PoeSwitch$State"
def TX2 : u_T := fun k => match k with
  | 0 => ("PoeSwitch$State", "capacities", "[I", true)
  | 1 => ("PoeSwitch$State", "works", "[Z", true)
  | 2 => ("PoeSwitch$State", "ports", "[LPoeSwitch$Port;", true)
  | 3 => ("PoeSwitch$State", "log", "LPoeSwitch$EventLog;", true)
  | 4 => ("PoeSwitch$State", "reserve", "I", false)
  | 5 => ("PoeSwitch$State", "restartGap", "I", false)
  | 6 => ("PoeSwitch$State", "overloadLimit", "I", false)
  | 7 => ("PoeSwitch$State", "cooldownTime", "I", false)
  | 8 => ("PoeSwitch$State", "restartTimer", "I", false)
  | _ => ("PoeSwitch$State", "time", "I", false)
def tyX2 : Nat → FieldType := fun k => match k with
  | 0 => .array .int
  | 1 => .array .boolean
  | 2 => .array (.object "PoeSwitch$Port")
  | 3 => .object "PoeSwitch$EventLog"
  | 4 => .int
  | 5 => .int
  | 6 => .int
  | 7 => .int
  | 8 => .int
  | _ => .int
abbrev wsX20 : List Cond := u_ws RX2 TX2 10
theorem nmX2 : ∀ a, a < 10 → ∀ b, b < 10 → a ≠ b → (TX2 a).2.1 ≠ (TX2 b).2.1 := by decide +kernel
theorem tyX2_ok : ∀ k, k < 10 → parseFieldDescriptor (TX2 k).2.2.1 = some (tyX2 k) := by decide +kernel
abbrev cX2_init : ByteArray := prog_4_method_1_code
def yX2_init : MethodName := ⟨RX2, "<init>", "()V"⟩
abbrev cX2_copyFrom : ByteArray := prog_4_method_2_code
def yX2_copyFrom : MethodName := ⟨RX2, "copyFrom", "(LPoeSwitch$State;)V"⟩
abbrev cX2_wholeBudget : ByteArray := prog_4_method_3_code
def yX2_wholeBudget : MethodName := ⟨RX2, "wholeBudget", "()I"⟩
abbrev cX2_sparePower : ByteArray := prog_4_method_4_code
def yX2_sparePower : MethodName := ⟨RX2, "sparePower", "()I"⟩
abbrev cX2_eligibleSet : ByteArray := prog_4_method_5_code
def yX2_eligibleSet : MethodName := ⟨RX2, "eligibleSet", "()I"⟩
abbrev cX2_poweredSet : ByteArray := prog_4_method_6_code
def yX2_poweredSet : MethodName := ⟨RX2, "poweredSet", "()I"⟩
abbrev cX2_fittingSet : ByteArray := prog_4_method_7_code
def yX2_fittingSet : MethodName := ⟨RX2, "fittingSet", "()I"⟩
abbrev cX2_runSecond : ByteArray := prog_4_method_8_code
def yX2_runSecond : MethodName := ⟨RX2, "runSecond", "()I"⟩
abbrev cX2_shedPorts : ByteArray := prog_4_method_9_code
def yX2_shedPorts : MethodName := ⟨RX2, "shedPorts", "()I"⟩
abbrev cX2_lastPoweredPort : ByteArray := prog_4_method_10_code
def yX2_lastPoweredPort : MethodName := ⟨RX2, "lastPoweredPort", "()I"⟩
abbrev cX2_cutPorts : ByteArray := prog_4_method_11_code
def yX2_cutPorts : MethodName := ⟨RX2, "cutPorts", "()I"⟩
abbrev cX2_coolDownExcept : ByteArray := prog_4_method_12_code
def yX2_coolDownExcept : MethodName := ⟨RX2, "coolDownExcept", "(I)V"⟩
abbrev cX2_powerUp : ByteArray := prog_4_method_13_code
def yX2_powerUp : MethodName := ⟨RX2, "powerUp", "()I"⟩
abbrev cX2_firstPortToPowerUp : ByteArray := prog_4_method_14_code
def yX2_firstPortToPowerUp : MethodName := ⟨RX2, "firstPortToPowerUp", "()I"⟩
abbrev cX2_isStable : ByteArray := prog_4_method_15_code
def yX2_isStable : MethodName := ⟨RX2, "isStable", "()Z"⟩
abbrev cX2_portsAreCalm : ByteArray := prog_4_method_16_code
def yX2_portsAreCalm : MethodName := ⟨RX2, "portsAreCalm", "()Z"⟩
def RX3 : String := "PoeSwitch"
def TX3 : u_T := fun k => match k with
  | 0 => ("PoeSwitch", "state", "LPoeSwitch$State;", true)
  | 1 => ("PoeSwitch", "plan", "LPoeSwitch$State;", true)
  | _ => ("PoeSwitch", "snapshots", "[LPoeSwitch$State;", true)
def tyX3 : Nat → FieldType := fun k => match k with
  | 0 => .object "PoeSwitch$State"
  | 1 => .object "PoeSwitch$State"
  | _ => .array (.object "PoeSwitch$State")
abbrev wsX30 : List Cond := u_ws RX3 TX3 3
theorem nmX3 : ∀ a, a < 3 → ∀ b, b < 3 → a ≠ b → (TX3 a).2.1 ≠ (TX3 b).2.1 := by decide +kernel
theorem tyX3_ok : ∀ k, k < 3 → parseFieldDescriptor (TX3 k).2.2.1 = some (tyX3 k) := by decide +kernel
abbrev cX3_init : ByteArray := prog_1_method_1_code
def yX3_init : MethodName := ⟨RX3, "<init>", "()V"⟩
abbrev cX3_setCapacity : ByteArray := prog_1_method_2_code
def yX3_setCapacity : MethodName := ⟨RX3, "setCapacity", "(II)I"⟩
abbrev cX3_setWorking : ByteArray := prog_1_method_3_code
def yX3_setWorking : MethodName := ⟨RX3, "setWorking", "(IZ)I"⟩
abbrev cX3_setReserve : ByteArray := prog_1_method_4_code
def yX3_setReserve : MethodName := ⟨RX3, "setReserve", "(I)I"⟩
abbrev cX3_setRestartGap : ByteArray := prog_1_method_5_code
def yX3_setRestartGap : MethodName := ⟨RX3, "setRestartGap", "(I)I"⟩
abbrev cX3_setOverloadLimit : ByteArray := prog_1_method_6_code
def yX3_setOverloadLimit : MethodName := ⟨RX3, "setOverloadLimit", "(I)I"⟩
abbrev cX3_setCooldownTime : ByteArray := prog_1_method_7_code
def yX3_setCooldownTime : MethodName := ⟨RX3, "setCooldownTime", "(I)I"⟩
abbrev cX3_budget : ByteArray := prog_1_method_8_code
def yX3_budget : MethodName := ⟨RX3, "budget", "()I"⟩
abbrev cX3_available : ByteArray := prog_1_method_9_code
def yX3_available : MethodName := ⟨RX3, "available", "()I"⟩
abbrev cX3_setEnabled : ByteArray := prog_1_method_10_code
def yX3_setEnabled : MethodName := ⟨RX3, "setEnabled", "(IZ)I"⟩
abbrev cX3_setPriority : ByteArray := prog_1_method_11_code
def yX3_setPriority : MethodName := ⟨RX3, "setPriority", "(II)I"⟩
abbrev cX3_connect : ByteArray := prog_1_method_12_code
def yX3_connect : MethodName := ⟨RX3, "connect", "(IIIII)I"⟩
abbrev cX3_disconnect : ByteArray := prog_1_method_13_code
def yX3_disconnect : MethodName := ⟨RX3, "disconnect", "(I)I"⟩
abbrev cX3_setLoad : ByteArray := prog_1_method_14_code
def yX3_setLoad : MethodName := ⟨RX3, "setLoad", "(II)I"⟩
abbrev cX3_setRequest : ByteArray := prog_1_method_15_code
def yX3_setRequest : MethodName := ⟨RX3, "setRequest", "(II)I"⟩
abbrev cX3_request : ByteArray := prog_1_method_16_code
def yX3_request : MethodName := ⟨RX3, "request", "(I)I"⟩
abbrev cX3_eligiblePorts : ByteArray := prog_1_method_17_code
def yX3_eligiblePorts : MethodName := ⟨RX3, "eligiblePorts", "()I"⟩
abbrev cX3_poweredPorts : ByteArray := prog_1_method_18_code
def yX3_poweredPorts : MethodName := ⟨RX3, "poweredPorts", "()I"⟩
abbrev cX3_grant : ByteArray := prog_1_method_19_code
def yX3_grant : MethodName := ⟨RX3, "grant", "(I)I"⟩
abbrev cX3_overload : ByteArray := prog_1_method_20_code
def yX3_overload : MethodName := ⟨RX3, "overload", "(I)I"⟩
abbrev cX3_cooldown : ByteArray := prog_1_method_21_code
def yX3_cooldown : MethodName := ⟨RX3, "cooldown", "(I)I"⟩
abbrev cX3_advance : ByteArray := prog_1_method_22_code
def yX3_advance : MethodName := ⟨RX3, "advance", "(I)I"⟩
abbrev cX3_clock : ByteArray := prog_1_method_23_code
def yX3_clock : MethodName := ⟨RX3, "clock", "()I"⟩
abbrev cX3_eventCount : ByteArray := prog_1_method_24_code
def yX3_eventCount : MethodName := ⟨RX3, "eventCount", "()I"⟩
abbrev cX3_eventTime : ByteArray := prog_1_method_25_code
def yX3_eventTime : MethodName := ⟨RX3, "eventTime", "(I)I"⟩
abbrev cX3_eventPort : ByteArray := prog_1_method_26_code
def yX3_eventPort : MethodName := ⟨RX3, "eventPort", "(I)I"⟩
abbrev cX3_eventKind : ByteArray := prog_1_method_27_code
def yX3_eventKind : MethodName := ⟨RX3, "eventKind", "(I)I"⟩
abbrev cX3_shedIfFails : ByteArray := prog_1_method_28_code
def yX3_shedIfFails : MethodName := ⟨RX3, "shedIfFails", "(I)I"⟩
abbrev cX3_fittingPorts : ByteArray := prog_1_method_29_code
def yX3_fittingPorts : MethodName := ⟨RX3, "fittingPorts", "()I"⟩
abbrev cX3_secondsToStable : ByteArray := prog_1_method_30_code
def yX3_secondsToStable : MethodName := ⟨RX3, "secondsToStable", "()I"⟩
abbrev cX3_stablePorts : ByteArray := prog_1_method_31_code
def yX3_stablePorts : MethodName := ⟨RX3, "stablePorts", "()I"⟩
abbrev cX3_save : ByteArray := prog_1_method_32_code
def yX3_save : MethodName := ⟨RX3, "save", "(I)I"⟩
abbrev cX3_restore : ByteArray := prog_1_method_33_code
def yX3_restore : MethodName := ⟨RX3, "restore", "(I)I"⟩
abbrev cX3_settlePlan : ByteArray := prog_1_method_34_code
def yX3_settlePlan : MethodName := ⟨RX3, "settlePlan", "()I"⟩
abbrev cX3_isPort : ByteArray := prog_1_method_35_code
def yX3_isPort : MethodName := ⟨RX3, "isPort", "(I)Z"⟩
abbrev cX3_isSupply : ByteArray := prog_1_method_36_code
def yX3_isSupply : MethodName := ⟨RX3, "isSupply", "(I)Z"⟩
abbrev cX3_isSlot : ByteArray := prog_1_method_37_code
def yX3_isSlot : MethodName := ⟨RX3, "isSlot", "(I)Z"⟩
abbrev cX3_isWithin : ByteArray := prog_1_method_38_code
def yX3_isWithin : MethodName := ⟨RX3, "isWithin", "(III)Z"⟩
abbrev cX3_isDetected : ByteArray := prog_1_method_39_code
def yX3_isDetected : MethodName := ⟨RX3, "isDetected", "(II)Z"⟩
abbrev cX3_classOf : ByteArray := prog_1_method_40_code
def yX3_classOf : MethodName := ⟨RX3, "classOf", "(I)I"⟩
abbrev cX3_maximumOf : ByteArray := prog_1_method_41_code
def yX3_maximumOf : MethodName := ⟨RX3, "maximumOf", "(I)I"⟩
def RX4 : String := "PoeSwitchModel"
def TX4 : u_T := fun k => match k with
  | 0 => ("PoeSwitchModel", "state", "[I", true)
  | 1 => ("PoeSwitchModel", "before", "[I", true)
  | 2 => ("PoeSwitchModel", "slots", "[I", true)
  | 3 => ("PoeSwitchModel", "isSaved", "[Z", true)
  | 4 => ("PoeSwitchModel", "occurred", "I", false)
  | 5 => ("PoeSwitchModel", "ahead", "[I", true)
  | _ => ("PoeSwitchModel", "stableSet", "I", false)
def tyX4 : Nat → FieldType := fun k => match k with
  | 0 => .array .int
  | 1 => .array .int
  | 2 => .array .int
  | 3 => .array .boolean
  | 4 => .int
  | 5 => .array .int
  | _ => .int
abbrev wsX40 : List Cond := u_ws RX4 TX4 7
theorem nmX4 : ∀ a, a < 7 → ∀ b, b < 7 → a ≠ b → (TX4 a).2.1 ≠ (TX4 b).2.1 := by decide +kernel
theorem tyX4_ok : ∀ k, k < 7 → parseFieldDescriptor (TX4 k).2.2.1 = some (tyX4 k) := by decide +kernel
abbrev cX4_init : ByteArray := prog_6_method_1_code
def yX4_init : MethodName := ⟨RX4, "<init>", "()V"⟩
abbrev cX4_in : ByteArray := prog_6_method_2_code
def yX4_in : MethodName := ⟨RX4, "in", "(III)Z"⟩
abbrev cX4_isPort : ByteArray := prog_6_method_3_code
def yX4_isPort : MethodName := ⟨RX4, "isPort", "(I)Z"⟩
abbrev cX4_isSupply : ByteArray := prog_6_method_4_code
def yX4_isSupply : MethodName := ⟨RX4, "isSupply", "(I)Z"⟩
abbrev cX4_at : ByteArray := prog_6_method_5_code
def yX4_at : MethodName := ⟨RX4, "at", "(II)I"⟩
abbrev cX4_of : ByteArray := prog_6_method_6_code
def yX4_of : MethodName := ⟨RX4, "of", "(II)I"⟩
abbrev cX4_set : ByteArray := prog_6_method_7_code
def yX4_set : MethodName := ⟨RX4, "set", "(II)I"⟩
abbrev cX4_setCapacity : ByteArray := prog_6_method_8_code
def yX4_setCapacity : MethodName := ⟨RX4, "setCapacity", "(II)I"⟩
abbrev cX4_setWorking : ByteArray := prog_6_method_9_code
def yX4_setWorking : MethodName := ⟨RX4, "setWorking", "(IZ)I"⟩
abbrev cX4_setReserve : ByteArray := prog_6_method_10_code
def yX4_setReserve : MethodName := ⟨RX4, "setReserve", "(I)I"⟩
abbrev cX4_setRestartGap : ByteArray := prog_6_method_11_code
def yX4_setRestartGap : MethodName := ⟨RX4, "setRestartGap", "(I)I"⟩
abbrev cX4_setOverloadLimit : ByteArray := prog_6_method_12_code
def yX4_setOverloadLimit : MethodName := ⟨RX4, "setOverloadLimit", "(I)I"⟩
abbrev cX4_setCooldownTime : ByteArray := prog_6_method_13_code
def yX4_setCooldownTime : MethodName := ⟨RX4, "setCooldownTime", "(I)I"⟩
abbrev cX4_budget : ByteArray := prog_6_method_14_code
def yX4_budget : MethodName := ⟨RX4, "budget", "()I"⟩
abbrev cX4_available : ByteArray := prog_6_method_15_code
def yX4_available : MethodName := ⟨RX4, "available", "()I"⟩
abbrev cX4_losePower : ByteArray := prog_6_method_16_code
def yX4_losePower : MethodName := ⟨RX4, "losePower", "(I)V"⟩
abbrev cX4_isPowered : ByteArray := prog_6_method_17_code
def yX4_isPowered : MethodName := ⟨RX4, "isPowered", "(I)Z"⟩
abbrev cX4_setEnabled : ByteArray := prog_6_method_18_code
def yX4_setEnabled : MethodName := ⟨RX4, "setEnabled", "(IZ)I"⟩
abbrev cX4_setPriority : ByteArray := prog_6_method_19_code
def yX4_setPriority : MethodName := ⟨RX4, "setPriority", "(II)I"⟩
abbrev cX4_classBy : ByteArray := prog_6_method_20_code
def yX4_classBy : MethodName := ⟨RX4, "classBy", "(I)I"⟩
abbrev cX4_maximumOf : ByteArray := prog_6_method_21_code
def yX4_maximumOf : MethodName := ⟨RX4, "maximumOf", "(I)I"⟩
abbrev cX4_isConnected : ByteArray := prog_6_method_22_code
def yX4_isConnected : MethodName := ⟨RX4, "isConnected", "(I)Z"⟩
abbrev cX4_classOf : ByteArray := prog_6_method_23_code
def yX4_classOf : MethodName := ⟨RX4, "classOf", "(I)I"⟩
abbrev cX4_connect : ByteArray := prog_6_method_24_code
def yX4_connect : MethodName := ⟨RX4, "connect", "(IIIII)I"⟩
abbrev cX4_disconnect : ByteArray := prog_6_method_25_code
def yX4_disconnect : MethodName := ⟨RX4, "disconnect", "(I)I"⟩
abbrev cX4_setLoad : ByteArray := prog_6_method_26_code
def yX4_setLoad : MethodName := ⟨RX4, "setLoad", "(II)I"⟩
abbrev cX4_setRequest : ByteArray := prog_6_method_27_code
def yX4_setRequest : MethodName := ⟨RX4, "setRequest", "(II)I"⟩
abbrev cX4_detects : ByteArray := prog_6_method_28_code
def yX4_detects : MethodName := ⟨RX4, "detects", "(I)Z"⟩
abbrev cX4_request : ByteArray := prog_6_method_29_code
def yX4_request : MethodName := ⟨RX4, "request", "(I)I"⟩
abbrev cX4_isEligible : ByteArray := prog_6_method_30_code
def yX4_isEligible : MethodName := ⟨RX4, "isEligible", "(I)Z"⟩
abbrev cX4_eligiblePorts : ByteArray := prog_6_method_31_code
def yX4_eligiblePorts : MethodName := ⟨RX4, "eligiblePorts", "()I"⟩
abbrev cX4_poweredPorts : ByteArray := prog_6_method_32_code
def yX4_poweredPorts : MethodName := ⟨RX4, "poweredPorts", "()I"⟩
abbrev cX4_told : ByteArray := prog_6_method_33_code
def yX4_told : MethodName := ⟨RX4, "told", "(II)I"⟩
abbrev cX4_grant : ByteArray := prog_6_method_34_code
def yX4_grant : MethodName := ⟨RX4, "grant", "(I)I"⟩
abbrev cX4_overload : ByteArray := prog_6_method_35_code
def yX4_overload : MethodName := ⟨RX4, "overload", "(I)I"⟩
abbrev cX4_cooldown : ByteArray := prog_6_method_36_code
def yX4_cooldown : MethodName := ⟨RX4, "cooldown", "(I)I"⟩
abbrev cX4_addEvent : ByteArray := prog_6_method_37_code
def yX4_addEvent : MethodName := ⟨RX4, "addEvent", "(II)V"⟩
abbrev cX4_inOrder : ByteArray := prog_6_method_38_code
def yX4_inOrder : MethodName := ⟨RX4, "inOrder", "(I)I"⟩
abbrev cX4_shedAll : ByteArray := prog_6_method_39_code
def yX4_shedAll : MethodName := ⟨RX4, "shedAll", "()I"⟩
abbrev cX4_checkOverload : ByteArray := prog_6_method_40_code
def yX4_checkOverload : MethodName := ⟨RX4, "checkOverload", "(I)V"⟩
abbrev cX4_isCut : ByteArray := prog_6_method_41_code
def yX4_isCut : MethodName := ⟨RX4, "isCut", "(I)Z"⟩
abbrev cX4_powerUp : ByteArray := prog_6_method_42_code
def yX4_powerUp : MethodName := ⟨RX4, "powerUp", "()V"⟩
abbrev cX4_second : ByteArray := prog_6_method_43_code
def yX4_second : MethodName := ⟨RX4, "second", "()V"⟩
abbrev cX4_advance : ByteArray := prog_6_method_44_code
def yX4_advance : MethodName := ⟨RX4, "advance", "(I)I"⟩
abbrev cX4_clock : ByteArray := prog_6_method_45_code
def yX4_clock : MethodName := ⟨RX4, "clock", "()I"⟩
abbrev cX4_eventCount : ByteArray := prog_6_method_46_code
def yX4_eventCount : MethodName := ⟨RX4, "eventCount", "()I"⟩
abbrev cX4_ofEvent : ByteArray := prog_6_method_47_code
def yX4_ofEvent : MethodName := ⟨RX4, "ofEvent", "(II)I"⟩
abbrev cX4_eventTime : ByteArray := prog_6_method_48_code
def yX4_eventTime : MethodName := ⟨RX4, "eventTime", "(I)I"⟩
abbrev cX4_eventPort : ByteArray := prog_6_method_49_code
def yX4_eventPort : MethodName := ⟨RX4, "eventPort", "(I)I"⟩
abbrev cX4_eventKind : ByteArray := prog_6_method_50_code
def yX4_eventKind : MethodName := ⟨RX4, "eventKind", "(I)I"⟩
abbrev cX4_keep : ByteArray := prog_6_method_51_code
def yX4_keep : MethodName := ⟨RX4, "keep", "()V"⟩
abbrev cX4_putBack : ByteArray := prog_6_method_52_code
def yX4_putBack : MethodName := ⟨RX4, "putBack", "()V"⟩
abbrev cX4_shedIfFails : ByteArray := prog_6_method_53_code
def yX4_shedIfFails : MethodName := ⟨RX4, "shedIfFails", "(I)I"⟩
abbrev cX4_fittingPorts : ByteArray := prog_6_method_54_code
def yX4_fittingPorts : MethodName := ⟨RX4, "fittingPorts", "()I"⟩
abbrev cX4_isStableSecond : ByteArray := prog_6_method_55_code
def yX4_isStableSecond : MethodName := ⟨RX4, "isStableSecond", "()Z"⟩
abbrev cX4_findStable : ByteArray := prog_6_method_56_code
def yX4_findStable : MethodName := ⟨RX4, "findStable", "()I"⟩
abbrev cX4_secondsToStable : ByteArray := prog_6_method_57_code
def yX4_secondsToStable : MethodName := ⟨RX4, "secondsToStable", "()I"⟩
abbrev cX4_stablePorts : ByteArray := prog_6_method_58_code
def yX4_stablePorts : MethodName := ⟨RX4, "stablePorts", "()I"⟩
abbrev cX4_save : ByteArray := prog_6_method_59_code
def yX4_save : MethodName := ⟨RX4, "save", "(I)I"⟩
abbrev cX4_restore : ByteArray := prog_6_method_60_code
def yX4_restore : MethodName := ⟨RX4, "restore", "(I)I"⟩
def RJ6 : String := "java/lang/Integer"
def TJ6 : u_T := fun k => match k with
  | _ => ("", "", "", false)
def tyJ6 : Nat → FieldType := fun k => match k with
  | _ => .int
abbrev wsJ60 : List Cond := u_ws RJ6 TJ6 0
theorem nmJ6 : ∀ a, a < 0 → ∀ b, b < 0 → a ≠ b → (TJ6 a).2.1 ≠ (TJ6 b).2.1 := by decide +kernel
theorem tyJ6_ok : ∀ k, k < 0 → parseFieldDescriptor (TJ6 k).2.2.1 = some (tyJ6 k) := by decide +kernel
abbrev cJ6_bitCount_0f7a4 : ByteArray := prog_7_method_49_code
def yJ6_bitCount_0f7a4 : MethodName := ⟨RJ6, "bitCount", "(I)I"⟩
def RJ9 : String := "java/lang/Math"
def TJ9 : u_T := fun k => match k with
  | _ => ("", "", "", false)
def tyJ9 : Nat → FieldType := fun k => match k with
  | _ => .int
abbrev wsJ90 : List Cond := u_ws RJ9 TJ9 0
theorem nmJ9 : ∀ a, a < 0 → ∀ b, b < 0 → a ≠ b → (TJ9 a).2.1 ≠ (TJ9 b).2.1 := by decide +kernel
theorem tyJ9_ok : ∀ k, k < 0 → parseFieldDescriptor (TJ9 k).2.2.1 = some (tyJ9 k) := by decide +kernel
abbrev cJ9_max_7cf53 : ByteArray := prog_8_method_65_code
def yJ9_max_7cf53 : MethodName := ⟨RJ9, "max", "(II)I"⟩
def RJ10 : String := "java/lang/System"
def TJ10 : u_T := fun k => match k with
  | _ => ("", "", "", false)
def tyJ10 : Nat → FieldType := fun k => match k with
  | _ => .int
abbrev wsJ100 : List Cond := u_ws RJ10 TJ10 0
theorem nmJ10 : ∀ a, a < 0 → ∀ b, b < 0 → a ≠ b → (TJ10 a).2.1 ≠ (TJ10 b).2.1 := by decide +kernel
theorem tyJ10_ok : ∀ k, k < 0 → parseFieldDescriptor (TJ10 k).2.2.1 = some (tyJ10 k) := by decide +kernel
def RL : String := "PoeSwitchLaw"
abbrev cL_law : ByteArray := code
def yL_law : MethodName := ⟨RL, "law", "([I)Z"⟩
end
section
/-! the core: abstract heaps, walks over them, contracts over them -/
/-- the words of the tables that hold in every state of the run -/
def zT : List Cond := lw_tbl.filter goodWord
theorem zT_mem {w : Cond} (i : Nat) (h : lw_tbl[i]? = some w) (hg : goodWord w = true) : w ∈ zT := List.mem_filter.mpr ⟨List.mem_of_getElem? h, hg⟩
theorem zT_good {w : Cond} (h : w ∈ zT) : (w.onTables && w.keeps) = true ∨ ∃ ty, w = .arrayClass ty := good_of_word (List.mem_filter.mp h).2
abbrev zH : Type := (Nat → Option va_E) × Nat
/-- class numbers and slots; array classes; the heap at the law's entry; where the static tables lie -/
abbrev zG : Type := va_G × (Nat → ClassId) × Heap × (Nat → Nat)
def zcl : List vw_C := [(RX0, TX0, 5), (RX1, TX1, 10), (RX2, TX2, 10), (RX3, TX3, 3), (RX4, TX4, 7)]
def zty (γ : zG) : List (ClassId × FieldType) := [(γ.2.1 0, .int), (γ.2.1 1, .boolean), (γ.2.1 2, .object RX1), (γ.2.1 3, .object RX2)]
def zN (γ : zG) : Nat := γ.2.2.1.size
def zsn : Nat → String := fun k => match k with
  | 0 => "CLASS_CURRENT_FROM"
  | 1 => "CLASS_CURRENT_TO"
  | _ => "CLASS_MAXIMUM"
def zsv : Nat → Nat → Int32 := fun k j => match k with
  | 0 => (match j with | 0 => 0 | 1 => 9 | 2 => 17 | 3 => 26 | _ => 36)
  | 1 => (match j with | 0 => 4 | 1 => 12 | 2 => 20 | 3 => 30 | _ => 44)
  | _ => (match j with | 0 => 154 | 1 => 40 | 2 => 70 | 3 => 154 | _ => 300)
def zA (γ : zG) : Nat → Prop := fun q => zN γ ≤ q
def zSt (γ : zG) (U : State) : Prop := ∀ k, k < 3 → va_Z RX3 (zsn k) "[I" (.ref (γ.2.2.2 k)) (zA γ) U γ.2.2.1 ∧ va_T .int (γ.2.2.2 k) 5 (fun j => .int (zsv k j)) (zA γ) U γ.2.2.1
def zK (γ : zG) (U : State) : Prop := va_K γ.1 zcl (zty γ) U ∧ zSt γ U ∧ va_AO RX1 U ∧ va_AO RX2 U
theorem zK.moved {γ : zG} {u U : State} (hvm : u.vm.Alike U.vm) (h : zK γ u) : zK γ U :=
  ⟨va_K.moved hvm h.1, fun k hk => ⟨va_Z.moved hvm (h.2.1 k hk).1, va_T.moved hvm (h.2.1 k hk).2⟩, h.2.2.1.moved hvm, h.2.2.2.moved hvm⟩
/-- the heap H is what h says -/
def zR (γ : zG) (h : zH) (H : Heap) : Prop := h.2 = H.size ∧ zN γ ≤ H.size ∧ (∀ (a : Nat) (e : va_E), h.1 a = some e → zN γ ≤ a ∧ va_at γ.1 zcl (a, e) H) ∧ ∀ q : Nat, q < zN γ → H[q]? = γ.2.2.1[q]?
/-- one cell changed; one cell more -/
def zu (h : zH) (a : Nat) (e : va_E) : zH := (fun x => if x = a then some e else h.1 x, h.2)
def zp (h : zH) (e : va_E) : zH := (fun x => if x = h.2 then some e else h.1 x, h.2 + 1)
theorem zu_s (h : zH) (a : Nat) (e : va_E) : (zu h a e).1 a = some e := by simp [zu]
theorem zu_n {h : zH} {a b : Nat} {e : va_E} (hn : b ≠ a) : (zu h a e).1 b = h.1 b := by simp [zu, hn]
theorem zu_zu (h : zH) (a : Nat) (e f : va_E) : zu (zu h a e) a f = zu h a f := by
  unfold zu
  congr 1
  funext x
  by_cases hx : x = a <;> simp [hx]
theorem zR.lt {γ : zG} {h : zH} {H : Heap} (hR : zR γ h H) {a : Nat} {e : va_E} (ha : h.1 a = some e) : a < H.size := (hR.2.2.1 a e ha).2.lt
theorem zR.put {γ : zG} {h : zH} {H H1 : Heap} (hR : zR γ h H) {a : Nat} {e0 e : va_E} (ha : h.1 a = some e0) (he : va_at γ.1 zcl (a, e) H1) (z : H1.size = H.size) (oq : ∀ q : Nat, q ≠ a → H1[q]? = H[q]?) : zR γ (zu h a e) H1 := by
  refine ⟨hR.1.trans z.symm, by rw [z]; exact hR.2.1, fun b f hb => ?_, fun q hq => ?_⟩
  · by_cases hba : b = a
    · subst hba
      rw [zu_s] at hb
      cases hb
      exact ⟨(hR.2.2.1 b e0 ha).1, he⟩
    · rw [zu_n hba] at hb
      exact ⟨(hR.2.2.1 b f hb).1, (hR.2.2.1 b f hb).2.kept (oq b hba)⟩
  · have h1 := (hR.2.2.1 a e0 ha).1
    rw [oq q (by omega)]
    exact hR.2.2.2 q hq
theorem zR.push {γ : zG} {h : zH} {H H1 : Heap} (hR : zR γ h H) {e : va_E} (he : va_at γ.1 zcl (H.size, e) H1) (z : H1.size = H.size + 1) (oq : ∀ q : Nat, q < H.size → H1[q]? = H[q]?) : zR γ (zp h e) H1 := by
  refine ⟨by show h.2 + 1 = _; rw [hR.1, z], by rw [z]; have := hR.2.1; omega, fun b f hb => ?_, fun q hq => ?_⟩
  · by_cases hba : b = h.2
    · have hb' : (zp h e).1 b = some e := by simp [zp, hba]
      rw [hb'] at hb
      cases hb
      rw [hba, hR.1]
      exact ⟨hR.2.1, he⟩
    · have hb' : (zp h e).1 b = h.1 b := by simp [zp, hba]
      rw [hb'] at hb
      exact ⟨(hR.2.2.1 b f hb).1, (hR.2.2.1 b f hb).2.kept (oq b (hR.lt hb))⟩
  · have h1 := hR.2.1
    rw [oq q (by omega)]
    exact hR.2.2.2 q hq
/-! locals by their places; every value here takes one slot -/
abbrev zLv : Type := List (Option Value)
def zat : zLv → Nat → Option Value
  | [], _ => none
  | v :: _, 0 => v
  | _ :: l, i + 1 => zat l i
def zloc (ls : Array Slot) (nL : Nat) (lv : zLv) : Prop := ls.size = nL ∧ lv_wf ls ∧ ∀ (j : Nat) (w : Value), zat lv j = some w → ls[j]? = some (.val w) ∧ w.category = 1
def zpr (lv : zLv) : List (Nat × Value) := (List.range lv.length).filterMap fun j => (zat lv j).map fun w => (j, w)
theorem zat_lt : ∀ {lv : zLv} {j : Nat} {w : Value}, zat lv j = some w → j < lv.length
  | [], j, w, h => by cases h
  | _ :: l, 0, w, h => by simp
  | _ :: l, j + 1, w, h => by
    have := zat_lt (lv := l) (j := j) h
    simp; omega
theorem zpr_mem {lv : zLv} {j : Nat} {w : Value} : (j, w) ∈ zpr lv ↔ zat lv j = some w := by
  constructor
  · intro h
    obtain ⟨i, -, h⟩ := List.mem_filterMap.mp h
    cases hi : zat lv i with
    | none => rw [hi] at h; cases h
    | some v =>
      rw [hi] at h
      cases h
      exact hi
  · intro h
    exact List.mem_filterMap.mpr ⟨j, List.mem_range.mpr (zat_lt h), by rw [h]; rfl⟩
theorem zloc.has {ls : Array Slot} {nL : Nat} {lv : zLv} (h : zloc ls nL lv) : lv_has ls nL (zpr lv) := ⟨h.1, h.2.1, fun q hq => (h.2.2 q.1 q.2 (zpr_mem.mp hq)).1⟩
theorem zloc.at {ls : Array Slot} {nL : Nat} {lv : zLv} (h : zloc ls nL lv) {i : Nat} {v : Value} (hv : zat lv i = some v) : ls[i]? = some (.val v) := (h.2.2 i v hv).1
theorem zat_set : ∀ {lv : zLv} {i j : Nat} {v w : Value}, zat (lv.set i (some v)) j = some w → (j = i ∧ w = v) ∨ (j ≠ i ∧ zat lv j = some w)
  | [], i, j, v, w, h => by cases h
  | _ :: l, 0, 0, v, w, h => by
    have : some v = some w := h
    cases this
    exact Or.inl ⟨rfl, rfl⟩
  | _ :: l, 0, j + 1, v, w, h => Or.inr ⟨by omega, h⟩
  | _ :: l, i + 1, 0, v, w, h => Or.inr ⟨by omega, h⟩
  | _ :: l, i + 1, j + 1, v, w, h => by
    rcases zat_set (lv := l) (i := i) (j := j) h with ⟨h1, h2⟩ | ⟨h1, h2⟩
    · exact Or.inl ⟨by omega, h2⟩
    · exact Or.inr ⟨by omega, h2⟩
theorem zloc.set {ls ls' : Array Slot} {nL : Nat} {lv : zLv} {i : Nat} {v : Value} (h : zloc ls nL lv) (hc : v.category = 1) (h' : lv_has ls' nL ((i, v) :: (zpr lv).filter (fun q => !(q.1 == i) && !(q.1 + 1 == i && q.2.category == 2)))) : zloc ls' nL (lv.set i (some v)) := by
  refine ⟨h'.1, h'.2.1, fun j w hj => ?_⟩
  rcases zat_set hj with ⟨h1, h2⟩ | ⟨h1, h2⟩
  · subst h1; subst h2
    exact ⟨h'.2.2 _ List.mem_cons_self, hc⟩
  · have hw := (h.2.2 j w h2).2
    refine ⟨h'.2.2 (j, w) (List.mem_cons_of_mem _ (List.mem_filter.mpr ⟨zpr_mem.mpr h2, ?_⟩)), hw⟩
    simp [h1, hw]
def zent (As : List Value) (n : Nat) : zLv := As.map some ++ List.replicate (n - As.length) none
theorem zat_rep (n : Nat) : ∀ j, zat (List.replicate n none) j = none := by
  induction n with
  | zero => intro j; rfl
  | succ n ih =>
    intro j
    cases j with
    | zero => rfl
    | succ j => exact ih j
theorem zent_args : ∀ (As : List Value) (k n j : Nat) (w : Value), (∀ v ∈ As, v.category = 1) → zat (As.map some ++ List.replicate n none) j = some w → (k + j, w) ∈ lv_args k As ∧ w.category = 1
  | [], k, n, j, w, _, h => by
    rw [List.map_nil, List.nil_append, zat_rep] at h
    cases h
  | v :: As, k, n, 0, w, hc, h => by
    have e : some v = some w := h
    cases e
    exact ⟨by simp [lv_args], hc v List.mem_cons_self⟩
  | v :: As, k, n, j + 1, w, hc, h => by
    have hv := hc v List.mem_cons_self
    have := zent_args As (k + 1) n j w (fun u hu => hc u (List.mem_cons_of_mem _ hu)) h
    refine ⟨?_, this.2⟩
    simp only [lv_args, hv]
    refine List.mem_cons_of_mem _ ?_
    rw [show k + (j + 1) = k + 1 + j by omega]
    exact this.1
theorem zloc_entry {ls : Array Slot} {nL : Nat} {As : List Value} (hc : ∀ v ∈ As, v.category = 1) (h : lv_has ls nL (lv_args 0 As)) : zloc ls nL (zent As nL) :=
  ⟨h.1, h.2.1, fun j w hj => by
    obtain ⟨h1, h2⟩ := zent_args As 0 _ j w hc hj
    rw [Nat.zero_add] at h1
    exact ⟨h.2.2 _ h1, h2⟩⟩
/-- fewer values -/
def zsub (lv : zLv) : Nat → zLv → Prop
  | _, [] => True
  | i, none :: l => zsub lv (i + 1) l
  | i, some v :: l => zat lv i = some v ∧ zsub lv (i + 1) l
theorem zsub_at {lv : zLv} : ∀ {l : zLv} {i j : Nat} {w : Value}, zsub lv i l → zat l j = some w → zat lv (i + j) = some w
  | [], i, j, w, _, h => by cases h
  | none :: l, i, 0, w, _, h => by cases h
  | some v :: l, i, 0, w, hs, h => by
    have e : some v = some w := h
    cases e
    exact hs.1
  | none :: l, i, j + 1, w, hs, h => by
    rw [show i + (j + 1) = i + 1 + j by omega]
    exact zsub_at (l := l) hs h
  | some v :: l, i, j + 1, w, hs, h => by
    rw [show i + (j + 1) = i + 1 + j by omega]
    exact zsub_at (l := l) hs.2 h
theorem zloc.sub {ls : Array Slot} {nL : Nat} {lv lv' : zLv} (h : zloc ls nL lv) (hs : zsub lv 0 lv') : zloc ls nL lv' :=
  ⟨h.1, h.2.1, fun j w hj => h.2.2 j w (by have := zsub_at hs hj; rwa [Nat.zero_add] at this)⟩
/-- a method: its name, its code, its locals, its answer's type -/
abbrev zM : Type := MethodName × ByteArray × Nat × Option FieldType
/-- a walk's surroundings: the world, the launch, the level, the cells and slots that it may make in all, the method, the end -/
abbrev zE : Type := zG × Launch × Nat × (Nat × Nat) × zM × (State → Array Value → List Frame → State → Prop)
abbrev zg (E : zE) : zG := E.1
abbrev zl (E : zE) : Launch := E.2.1
abbrev zn (E : zE) : Nat := E.2.2.1
abbrev zcc (E : zE) : Nat := E.2.2.2.1.1
abbrev zcs (E : zE) : Nat := E.2.2.2.1.2
abbrev zm (E : zE) : zM := E.2.2.2.2.1
abbrev zf (E : zE) : State → Array Value → List Frame → State → Prop := E.2.2.2.2.2
abbrev zb (E : zE) : ByteArray := (zm E).2.1
abbrev zo (E : zE) : String := (zm E).1.cls
def zC (E : zE) (p : Program) (R : Room) (s : State) (m : MethodId) (args : Array Value) (meth : Method) (c : Code) : Prop :=
  p.tables.exec = Jvm.exec ∧ c.code = zb E ∧ meth.sig.returnType = (zm E).2.2.2 ∧ meth.locks = false ∧ c.maxLocals = (zm E).2.2.1 ∧ s.vm.findClass (zo E) = some m.cls ∧ ((zm E).1.name = "<init>" → meth.name = "<init>") ∧
  (∀ w ∈ zT, w.before args s = true) ∧ zK (zg E) s ∧ zN (zg E) ≤ s.heap.size ∧ zn E ≤ R.frames ∧ 36 * zn E ≤ R.locals ∧ zcc E ≤ R.cells ∧ zcs E ≤ R.slots
def Go (E : zE) (cs sl pc : Nat) (lv : zLv) (st : List Value) (h : zH) : Prop :=
  ∀ (p : Program) (e : Env) (R : Room) (s : State) (m : MethodId) (args : Array Value) (below : List Frame) (meth : Method) (c : Code) (H : Heap) (locs : List Loc) (ls : Array Slot),
    zC E p R s m args meth c → zR (zg E) h H → (∀ q ∈ locs, zN (zg E) ≤ q.base) → zloc ls (zm E).2.2.1 lv →
    W p (zl E) e R s m args below meth c H locs cs sl (zf E s args below) (F0 m pc ls st)
/-- a contract: from the arguments and the heap h it answers r and leaves h' -/
def zP (γ : zG) (As : List Value) (h : zH) : Array Value → State → Prop := fun v U => v = As.toArray ∧ zR γ h U.heap ∧ zK γ U
def zQ (γ : zG) (r : Option Value) (h' : zH) : Array Value → State → Outcome → State → Prop := fun _ _ o t => o = .returned r ∧ zR γ h' t.heap
def zF (γ : zG) (C S : Nat) (r : Option Value) (h' : zH) : State → Array Value → List Frame → State → Prop := fun s args below => MQ below (zQ γ r h') args s C S (zA γ)
def zrm (n C S : Nat) : Room := { frames := n, cells := C, slots := S, locals := 36 * n }
def Con (γ : zG) (l : Launch) (n C S : Nat) (M : zM) (As : List Value) (h : zH) (r : Option Value) (h' : zH) : Prop :=
  Met l M.1 (.code M.1 M.2.1 M.2.2.1 M.2.2.2 :: zT) (zrm n C S) (zP γ As h) (zQ γ r h') C S (zA γ)
set_option maxHeartbeats 1000000 in
theorem Con.of {γ : zG} {l : Launch} {n C S : Nat} {M : zM} {As : List Value} {h : zH} {r : Option Value} {h' : zH} (hy : plainName M.1.cls = true) (hlen : (lg_sl As).length ≤ M.2.2.1)
    (hcat : ∀ v ∈ As, v.category = 1) (hgo : Go (γ, l, n, (C, S), M, zF γ C S r h') 0 0 0 (zent As M.2.2.1) [] h) : Con γ l n C S M As h r h' := by
  refine Met.ofW (cc := M.2.1) (maxL := M.2.2.1) (ret := M.2.2.2) hy rfl ?_
  intro p e s m args below meth c s₁ B hml hv
  obtain ⟨rfl, hR, hK⟩ := hv
  have hts := atoms_spec (ws := .code M.1 M.2.1 M.2.2.1 M.2.2.2 :: zT) B.pre
  have hown : s.vm.findClass M.1.cls = some m.cls := findClass_of_methodNamed B.named
  have hl := lv_entry As (n := M.2.2.1) hlen
  rw [lg_entry_eq]
  have hnm : meth.name = M.1.name := (name_of_methodNamed B.named B.method).1
  exact hgo p e (headSpec (.code M.1 M.2.1 M.2.2.1 M.2.2.2 :: zT) (zrm n C S)).room s m As.toArray below meth c s.heap [] _
    ⟨B.exec, B.bytes, B.returns, B.notSynchronized, hml, hown, fun hh => hnm.trans hh, fun w hw => hts w (List.mem_cons_of_mem _ hw), hK, hR.2.1, Nat.le_refl _, Nat.le_refl _, Nat.le_refl _, Nat.le_refl _⟩ hR (fun q hq => by cases hq) (zloc_entry hcat hl)
end
section
/-! rows: an instruction each -/
section ZR
variable {E : zE} {cs sl pc : Nat} {lv : zLv} {st : List Value} {h : zH}
theorem go_W (f : ∀ (p : Program) (e : Env) (R : Room) (s : State) (m : MethodId) (args : Array Value) (below : List Frame) (meth : Method) (c : Code) (H : Heap) (locs : List Loc) (ls : Array Slot),
    zC E p R s m args meth c → zR (zg E) h H → (∀ q ∈ locs, zN (zg E) ≤ q.base) → zloc ls (zm E).2.2.1 lv → W p (zl E) e R s m args below meth c H locs cs sl (zf E s args below) (F0 m pc ls st)) : Go E cs sl pc lv st h := f
theorem go_iconst {n : Int} {v : Int32} (hd : decode (zb E) pc = .ok (.iconst n, 1)) (hv : Int32.ofInt n = v) (k : Go E cs sl (pc + 1) lv (.int v :: st) h) : Go E cs sl pc lv st h := by
  intro p e R s m args below meth c H locs ls hC hR hL hl
  exact lv_iconst hC.1 hC.2.1 hd hv (k p e R s m args below meth c H locs ls hC hR hL hl)
theorem go_bipush {n : Int} {v : Int32} (hd : decode (zb E) pc = .ok (.bipush n, 2)) (hv : (Int8.ofInt n).toInt32 = v) (k : Go E cs sl (pc + 2) lv (.int v :: st) h) : Go E cs sl pc lv st h := by
  intro p e R s m args below meth c H locs ls hC hR hL hl
  exact lv_bipush hC.1 hC.2.1 hd hv (k p e R s m args below meth c H locs ls hC hR hL hl)
theorem go_sipush {n : Int} {v : Int32} (hd : decode (zb E) pc = .ok (.sipush n, 3)) (hv : (Int16.ofInt n).toInt32 = v) (k : Go E cs sl (pc + 3) lv (.int v :: st) h) : Go E cs sl pc lv st h := by
  intro p e R s m args below meth c H locs ls hC hR hL hl
  exact lv_sipush hC.1 hC.2.1 hd hv (k p e R s m args below meth c H locs ls hC hR hL hl)
theorem go_iload_n {j : Fin 4} {x : Int32} (hd : decode (zb E) pc = .ok (.iload_n j, 1)) (hx : zat lv (j : Nat) = some (.int x)) (k : Go E cs sl (pc + 1) lv (.int x :: st) h) : Go E cs sl pc lv st h := by
  intro p e R s m args below meth c H locs ls hC hR hL hl
  exact lv_iload_n hC.1 hC.2.1 hd rfl (hl.at hx) (k p e R s m args below meth c H locs ls hC hR hL hl)
theorem go_iload {i : Nat} {x : Int32} (hd : decode (zb E) pc = .ok (.iload i, 2)) (hx : zat lv i = some (.int x)) (k : Go E cs sl (pc + 2) lv (.int x :: st) h) : Go E cs sl pc lv st h := by
  intro p e R s m args below meth c H locs ls hC hR hL hl
  exact lv_iload hC.1 hC.2.1 hd (hl.at hx) (k p e R s m args below meth c H locs ls hC hR hL hl)
theorem go_aload_n {j : Fin 4} {x : Nat} (hd : decode (zb E) pc = .ok (.aload_n j, 1)) (hx : zat lv (j : Nat) = some (.ref x)) (k : Go E cs sl (pc + 1) lv (.ref x :: st) h) : Go E cs sl pc lv st h := by
  intro p e R s m args below meth c H locs ls hC hR hL hl
  exact lv_aload_n hC.1 hC.2.1 hd rfl (hl.at hx) (k p e R s m args below meth c H locs ls hC hR hL hl)
theorem go_aload {i : Nat} {x : Nat} (hd : decode (zb E) pc = .ok (.aload i, 2)) (hx : zat lv i = some (.ref x)) (k : Go E cs sl (pc + 2) lv (.ref x :: st) h) : Go E cs sl pc lv st h := by
  intro p e R s m args below meth c H locs ls hC hR hL hl
  exact lv_aload hC.1 hC.2.1 hd (hl.at hx) (k p e R s m args below meth c H locs ls hC hR hL hl)
theorem go_istore_n {j : Fin 4} {x : Int32} (hd : decode (zb E) pc = .ok (.istore_n j, 1)) (hn : (j : Nat) < (zm E).2.2.1) (k : Go E cs sl (pc + 1) (lv.set j (some (.int x))) st h) : Go E cs sl pc lv (.int x :: st) h := by
  intro p e R s m args below meth c H locs ls hC hR hL hl
  exact lv_istore_n hC.1 hC.2.1 hd rfl hl.has hn rfl (fun ls' hl' => k p e R s m args below meth c H locs ls' hC hR hL (hl.set rfl hl'))
theorem go_istore {i : Nat} {x : Int32} (hd : decode (zb E) pc = .ok (.istore i, 2)) (hn : i < (zm E).2.2.1) (k : Go E cs sl (pc + 2) (lv.set i (some (.int x))) st h) : Go E cs sl pc lv (.int x :: st) h := by
  intro p e R s m args below meth c H locs ls hC hR hL hl
  exact lv_istore hC.1 hC.2.1 hd hl.has hn rfl (fun ls' hl' => k p e R s m args below meth c H locs ls' hC hR hL (hl.set rfl hl'))
theorem go_astore_n {j : Fin 4} {x : Nat} (hd : decode (zb E) pc = .ok (.astore_n j, 1)) (hn : (j : Nat) < (zm E).2.2.1) (k : Go E cs sl (pc + 1) (lv.set j (some (.ref x))) st h) : Go E cs sl pc lv (.ref x :: st) h := by
  intro p e R s m args below meth c H locs ls hC hR hL hl
  exact lv_astore_n hC.1 hC.2.1 hd rfl hl.has hn rfl (fun ls' hl' => k p e R s m args below meth c H locs ls' hC hR hL (hl.set rfl hl'))
theorem go_astore {i : Nat} {x : Nat} (hd : decode (zb E) pc = .ok (.astore i, 2)) (hn : i < (zm E).2.2.1) (k : Go E cs sl (pc + 2) (lv.set i (some (.ref x))) st h) : Go E cs sl pc lv (.ref x :: st) h := by
  intro p e R s m args below meth c H locs ls hC hR hL hl
  exact lv_astore hC.1 hC.2.1 hd hl.has hn rfl (fun ls' hl' => k p e R s m args below meth c H locs ls' hC hR hL (hl.set rfl hl'))
theorem go_iinc {i : Nat} {n : Int} {x v : Int32} (hd : decode (zb E) pc = .ok (.iinc i n, 3)) (hx : zat lv i = some (.int x)) (hv : x + Int32.ofInt n = v) (hn : i < (zm E).2.2.1) (k : Go E cs sl (pc + 3) (lv.set i (some (.int v))) st h) : Go E cs sl pc lv st h := by
  intro p e R s m args below meth c H locs ls hC hR hL hl
  obtain ⟨q, hq⟩ := List.getElem?_of_mem (zpr_mem.mpr hx)
  exact lv_iinc hC.1 hC.2.1 hd hl.has hq hv hn rfl (fun ls' hl' => k p e R s m args below meth c H locs ls' hC hR hL (hl.set rfl hl'))
theorem go_iadd {x y : Int32} (hd : decode (zb E) pc = .ok (.iadd, 1)) (k : Go E cs sl (pc + 1) lv (.int (x + y) :: st) h) : Go E cs sl pc lv (.int y :: .int x :: st) h := by
  intro p e R s m args below meth c H locs ls hC hR hL hl
  exact lv_iadd hC.1 hC.2.1 hd (k p e R s m args below meth c H locs ls hC hR hL hl)
theorem go_isub {x y : Int32} (hd : decode (zb E) pc = .ok (.isub, 1)) (k : Go E cs sl (pc + 1) lv (.int (x - y) :: st) h) : Go E cs sl pc lv (.int y :: .int x :: st) h := by
  intro p e R s m args below meth c H locs ls hC hR hL hl
  exact lv_isub hC.1 hC.2.1 hd (k p e R s m args below meth c H locs ls hC hR hL hl)
theorem go_imul {x y : Int32} (hd : decode (zb E) pc = .ok (.imul, 1)) (k : Go E cs sl (pc + 1) lv (.int (x * y) :: st) h) : Go E cs sl pc lv (.int y :: .int x :: st) h := by
  intro p e R s m args below meth c H locs ls hC hR hL hl
  exact lv_imul hC.1 hC.2.1 hd (k p e R s m args below meth c H locs ls hC hR hL hl)
theorem go_iand {x y : Int32} (hd : decode (zb E) pc = .ok (.iand, 1)) (k : Go E cs sl (pc + 1) lv (.int (x &&& y) :: st) h) : Go E cs sl pc lv (.int y :: .int x :: st) h := by
  intro p e R s m args below meth c H locs ls hC hR hL hl
  exact lv_iand hC.1 hC.2.1 hd (k p e R s m args below meth c H locs ls hC hR hL hl)
theorem go_ior {x y : Int32} (hd : decode (zb E) pc = .ok (.ior, 1)) (k : Go E cs sl (pc + 1) lv (.int (x ||| y) :: st) h) : Go E cs sl pc lv (.int y :: .int x :: st) h := by
  intro p e R s m args below meth c H locs ls hC hR hL hl
  exact lv_ior hC.1 hC.2.1 hd (k p e R s m args below meth c H locs ls hC hR hL hl)
theorem go_ishl {x y : Int32} (hd : decode (zb E) pc = .ok (.ishl, 1)) (k : Go E cs sl (pc + 1) lv (.int (x <<< (y &&& 31)) :: st) h) : Go E cs sl pc lv (.int y :: .int x :: st) h := by
  intro p e R s m args below meth c H locs ls hC hR hL hl
  exact lv_ishl hC.1 hC.2.1 hd (k p e R s m args below meth c H locs ls hC hR hL hl)
theorem go_ishr {x y : Int32} (hd : decode (zb E) pc = .ok (.ishr, 1)) (k : Go E cs sl (pc + 1) lv (.int (x >>> (y &&& 31)) :: st) h) : Go E cs sl pc lv (.int y :: .int x :: st) h := by
  intro p e R s m args below meth c H locs ls hC hR hL hl
  exact lv_ishr hC.1 hC.2.1 hd (k p e R s m args below meth c H locs ls hC hR hL hl)
theorem go_irem {x y : Int32} (hd : decode (zb E) pc = .ok (.irem, 1)) (hne : ¬ y = 0) (k : Go E cs sl (pc + 1) lv (.int (x - x / y * y) :: st) h) : Go E cs sl pc lv (.int y :: .int x :: st) h := by
  intro p e R s m args below meth c H locs ls hC hR hL hl
  exact lv_irem hC.1 hC.2.1 hd hne (k p e R s m args below meth c H locs ls hC hR hL hl)
theorem go_iushr {x y : Int32} (hd : decode (zb E) pc = .ok (.iushr, 1)) (k : Go E cs sl (pc + 1) lv (.int ((x.toUInt32 >>> (y.toUInt32 &&& Int32.toUInt32 31)).toInt32) :: st) h) : Go E cs sl pc lv (.int y :: .int x :: st) h := by
  intro p e R s m args below meth c H locs ls hC hR hL hl
  exact lv_iushr hC.1 hC.2.1 hd rfl (k p e R s m args below meth c H locs ls hC hR hL hl)
theorem go_dup {v : Value} (hd : decode (zb E) pc = .ok (.dup, 1)) (hv : v.category = 1) (k : Go E cs sl (pc + 1) lv (v :: v :: st) h) : Go E cs sl pc lv (v :: st) h := by
  intro p e R s m args below meth c H locs ls hC hR hL hl
  exact lv_dup hC.1 hC.2.1 hd hv (k p e R s m args below meth c H locs ls hC hR hL hl)
theorem go_pop {v : Value} (hd : decode (zb E) pc = .ok (.pop, 1)) (hv : v.category = 1) (k : Go E cs sl (pc + 1) lv st h) : Go E cs sl pc lv (v :: st) h := by
  intro p e R s m args below meth c H locs ls hC hR hL hl
  exact lv_pop hC.1 hC.2.1 hd hv (k p e R s m args below meth c H locs ls hC hR hL hl)
theorem go_dup2 {v w : Value} (hd : decode (zb E) pc = .ok (.dup2, 1)) (hv : v.category = 1) (hw : w.category = 1) (k : Go E cs sl (pc + 1) lv (v :: w :: v :: w :: st) h) : Go E cs sl pc lv (v :: w :: st) h := by
  intro p e R s m args below meth c H locs ls hC hR hL hl
  exact lv_dup2_11 hC.1 hC.2.1 hd hv hw (k p e R s m args below meth c H locs ls hC hR hL hl)
theorem go_if_eq {x : Int32} {off : Int} {tgt : Nat} (hd : decode (zb E) pc = .ok (.ifCond .eq off, 3)) (ht : (pc : Int) + off = (tgt : Int)) (kt : x = 0 → Go E cs sl tgt lv st h) (kf : ¬ (x = 0) → Go E cs sl (pc + 3) lv st h) : Go E cs sl pc lv (.int x :: st) h := by
  intro p e R s m args below meth c H locs ls hC hR hL hl
  exact lv_if_eq hC.1 hC.2.1 hd ht (fun q => kt q p e R s m args below meth c H locs ls hC hR hL hl) (fun q => kf q p e R s m args below meth c H locs ls hC hR hL hl)
theorem go_icmp_eq {x y : Int32} {off : Int} {tgt : Nat} (hd : decode (zb E) pc = .ok (.if_icmp .eq off, 3)) (ht : (pc : Int) + off = (tgt : Int)) (kt : x = y → Go E cs sl tgt lv st h) (kf : ¬ (x = y) → Go E cs sl (pc + 3) lv st h) : Go E cs sl pc lv (.int y :: .int x :: st) h := by
  intro p e R s m args below meth c H locs ls hC hR hL hl
  exact lv_icmp_eq hC.1 hC.2.1 hd ht (fun q => kt q p e R s m args below meth c H locs ls hC hR hL hl) (fun q => kf q p e R s m args below meth c H locs ls hC hR hL hl)
theorem go_if_ne {x : Int32} {off : Int} {tgt : Nat} (hd : decode (zb E) pc = .ok (.ifCond .ne off, 3)) (ht : (pc : Int) + off = (tgt : Int)) (kt : ¬ x = 0 → Go E cs sl tgt lv st h) (kf : x = 0 → Go E cs sl (pc + 3) lv st h) : Go E cs sl pc lv (.int x :: st) h := by
  intro p e R s m args below meth c H locs ls hC hR hL hl
  exact lv_if_ne hC.1 hC.2.1 hd ht (fun q => kt q p e R s m args below meth c H locs ls hC hR hL hl) (fun q => kf q p e R s m args below meth c H locs ls hC hR hL hl)
theorem go_icmp_ne {x y : Int32} {off : Int} {tgt : Nat} (hd : decode (zb E) pc = .ok (.if_icmp .ne off, 3)) (ht : (pc : Int) + off = (tgt : Int)) (kt : ¬ x = y → Go E cs sl tgt lv st h) (kf : x = y → Go E cs sl (pc + 3) lv st h) : Go E cs sl pc lv (.int y :: .int x :: st) h := by
  intro p e R s m args below meth c H locs ls hC hR hL hl
  exact lv_icmp_ne hC.1 hC.2.1 hd ht (fun q => kt q p e R s m args below meth c H locs ls hC hR hL hl) (fun q => kf q p e R s m args below meth c H locs ls hC hR hL hl)
theorem go_if_lt {x : Int32} {off : Int} {tgt : Nat} (hd : decode (zb E) pc = .ok (.ifCond .lt off, 3)) (ht : (pc : Int) + off = (tgt : Int)) (kt : x < 0 → Go E cs sl tgt lv st h) (kf : ¬ (x < 0) → Go E cs sl (pc + 3) lv st h) : Go E cs sl pc lv (.int x :: st) h := by
  intro p e R s m args below meth c H locs ls hC hR hL hl
  exact lv_if_lt hC.1 hC.2.1 hd ht (fun q => kt q p e R s m args below meth c H locs ls hC hR hL hl) (fun q => kf q p e R s m args below meth c H locs ls hC hR hL hl)
theorem go_icmp_lt {x y : Int32} {off : Int} {tgt : Nat} (hd : decode (zb E) pc = .ok (.if_icmp .lt off, 3)) (ht : (pc : Int) + off = (tgt : Int)) (kt : x < y → Go E cs sl tgt lv st h) (kf : ¬ (x < y) → Go E cs sl (pc + 3) lv st h) : Go E cs sl pc lv (.int y :: .int x :: st) h := by
  intro p e R s m args below meth c H locs ls hC hR hL hl
  exact lv_icmp_lt hC.1 hC.2.1 hd ht (fun q => kt q p e R s m args below meth c H locs ls hC hR hL hl) (fun q => kf q p e R s m args below meth c H locs ls hC hR hL hl)
theorem go_if_ge {x : Int32} {off : Int} {tgt : Nat} (hd : decode (zb E) pc = .ok (.ifCond .ge off, 3)) (ht : (pc : Int) + off = (tgt : Int)) (kt : 0 ≤ x → Go E cs sl tgt lv st h) (kf : ¬ (0 ≤ x) → Go E cs sl (pc + 3) lv st h) : Go E cs sl pc lv (.int x :: st) h := by
  intro p e R s m args below meth c H locs ls hC hR hL hl
  exact lv_if_ge hC.1 hC.2.1 hd ht (fun q => kt q p e R s m args below meth c H locs ls hC hR hL hl) (fun q => kf q p e R s m args below meth c H locs ls hC hR hL hl)
theorem go_icmp_ge {x y : Int32} {off : Int} {tgt : Nat} (hd : decode (zb E) pc = .ok (.if_icmp .ge off, 3)) (ht : (pc : Int) + off = (tgt : Int)) (kt : y ≤ x → Go E cs sl tgt lv st h) (kf : ¬ (y ≤ x) → Go E cs sl (pc + 3) lv st h) : Go E cs sl pc lv (.int y :: .int x :: st) h := by
  intro p e R s m args below meth c H locs ls hC hR hL hl
  exact lv_icmp_ge hC.1 hC.2.1 hd ht (fun q => kt q p e R s m args below meth c H locs ls hC hR hL hl) (fun q => kf q p e R s m args below meth c H locs ls hC hR hL hl)
theorem go_if_gt {x : Int32} {off : Int} {tgt : Nat} (hd : decode (zb E) pc = .ok (.ifCond .gt off, 3)) (ht : (pc : Int) + off = (tgt : Int)) (kt : 0 < x → Go E cs sl tgt lv st h) (kf : ¬ (0 < x) → Go E cs sl (pc + 3) lv st h) : Go E cs sl pc lv (.int x :: st) h := by
  intro p e R s m args below meth c H locs ls hC hR hL hl
  exact lv_if_gt hC.1 hC.2.1 hd ht (fun q => kt q p e R s m args below meth c H locs ls hC hR hL hl) (fun q => kf q p e R s m args below meth c H locs ls hC hR hL hl)
theorem go_icmp_gt {x y : Int32} {off : Int} {tgt : Nat} (hd : decode (zb E) pc = .ok (.if_icmp .gt off, 3)) (ht : (pc : Int) + off = (tgt : Int)) (kt : y < x → Go E cs sl tgt lv st h) (kf : ¬ (y < x) → Go E cs sl (pc + 3) lv st h) : Go E cs sl pc lv (.int y :: .int x :: st) h := by
  intro p e R s m args below meth c H locs ls hC hR hL hl
  exact lv_icmp_gt hC.1 hC.2.1 hd ht (fun q => kt q p e R s m args below meth c H locs ls hC hR hL hl) (fun q => kf q p e R s m args below meth c H locs ls hC hR hL hl)
theorem go_if_le {x : Int32} {off : Int} {tgt : Nat} (hd : decode (zb E) pc = .ok (.ifCond .le off, 3)) (ht : (pc : Int) + off = (tgt : Int)) (kt : x ≤ 0 → Go E cs sl tgt lv st h) (kf : ¬ (x ≤ 0) → Go E cs sl (pc + 3) lv st h) : Go E cs sl pc lv (.int x :: st) h := by
  intro p e R s m args below meth c H locs ls hC hR hL hl
  exact lv_if_le hC.1 hC.2.1 hd ht (fun q => kt q p e R s m args below meth c H locs ls hC hR hL hl) (fun q => kf q p e R s m args below meth c H locs ls hC hR hL hl)
theorem go_icmp_le {x y : Int32} {off : Int} {tgt : Nat} (hd : decode (zb E) pc = .ok (.if_icmp .le off, 3)) (ht : (pc : Int) + off = (tgt : Int)) (kt : x ≤ y → Go E cs sl tgt lv st h) (kf : ¬ (x ≤ y) → Go E cs sl (pc + 3) lv st h) : Go E cs sl pc lv (.int y :: .int x :: st) h := by
  intro p e R s m args below meth c H locs ls hC hR hL hl
  exact lv_icmp_le hC.1 hC.2.1 hd ht (fun q => kt q p e R s m args below meth c H locs ls hC hR hL hl) (fun q => kf q p e R s m args below meth c H locs ls hC hR hL hl)
theorem go_goto {off : Int} {tgt : Nat} (hd : decode (zb E) pc = .ok (.goto off, 3)) (ht : (pc : Int) + off = (tgt : Int)) (k : Go E cs sl tgt lv st h) : Go E cs sl pc lv st h := by
  intro p e R s m args below meth c H locs ls hC hR hL hl
  exact lv_goto hC.1 hC.2.1 hd ht (k p e R s m args below meth c H locs ls hC hR hL hl)
theorem go_ifnonnull_r {x : Nat} {off : Int} {tgt : Nat} (hd : decode (zb E) pc = .ok (.ifnonnull off, 3)) (ht : (pc : Int) + off = (tgt : Int)) (k : Go E cs sl tgt lv st h) : Go E cs sl pc lv (.ref x :: st) h := by
  intro p e R s m args below meth c H locs ls hC hR hL hl
  exact lv_ifnonnull hC.1 hC.2.1 hd ht (k p e R s m args below meth c H locs ls hC hR hL hl)
theorem go_ifnonnull_n {off : Int} (hd : decode (zb E) pc = .ok (.ifnonnull off, 3)) (k : Go E cs sl (pc + 3) lv st h) : Go E cs sl pc lv (.null :: st) h := by
  intro p e R s m args below meth c H locs ls hC hR hL hl
  exact lv_ifnonnullN hC.1 hC.2.1 hd (k p e R s m args below meth c H locs ls hC hR hL hl)
theorem go_tableIn {dflt lo hi : Int} {offs : Array Int} {len : Nat} {x : Int32} {off : Int} {tgt : Nat} (hd : decode (zb E) pc = .ok (.tableswitch dflt lo hi offs, len)) (h1 : ¬ x.toInt < lo) (h2 : ¬ hi < x.toInt) (ho : offs[(x.toInt - lo).toNat]? = some off) (ht : (pc : Int) + off = (tgt : Int)) (k : Go E cs sl tgt lv st h) : Go E cs sl pc lv (.int x :: st) h := by
  intro p e R s m args below meth c H locs ls hC hR hL hl
  exact lv_tableIn hC.1 hC.2.1 hd h1 h2 ho ht (k p e R s m args below meth c H locs ls hC hR hL hl)
theorem go_tableOut {dflt lo hi : Int} {offs : Array Int} {len : Nat} {x : Int32} {tgt : Nat} (hd : decode (zb E) pc = .ok (.tableswitch dflt lo hi offs, len)) (h1 : x.toInt < lo ∨ hi < x.toInt) (ht : (pc : Int) + dflt = (tgt : Int)) (k : Go E cs sl tgt lv st h) : Go E cs sl pc lv (.int x :: st) h := by
  intro p e R s m args below meth c H locs ls hC hR hL hl
  exact lv_tableOut hC.1 hC.2.1 hd h1 ht (k p e R s m args below meth c H locs ls hC hR hL hl)
end ZR
end
section
/-! rows: fields, arrays, objects, statics -/
def zct : Nat → Nat → FieldType := fun ci => match ci with
  | 0 => tyX0
  | 1 => tyX1
  | 2 => tyX2
  | 3 => tyX3
  | _ => tyX4
theorem zws0 : ∀ w ∈ u_ws RX0 TX0 5, w ∈ zT := by decide +kernel
theorem zws1 : ∀ w ∈ u_ws RX1 TX1 10, w ∈ zT := by decide +kernel
theorem zws2 : ∀ w ∈ u_ws RX2 TX2 10, w ∈ zT := by decide +kernel
theorem zws3 : ∀ w ∈ u_ws RX3 TX3 3, w ∈ zT := by decide +kernel
theorem zws4 : ∀ w ∈ u_ws RX4 TX4 7, w ∈ zT := by decide +kernel
theorem zcl_ok {ci : Nat} {q : vw_C} (h : zcl[ci]? = some q) : (∀ w ∈ u_ws q.1 q.2.1 q.2.2, w ∈ zT) ∧ (∀ a, a < q.2.2 → ∀ b, b < q.2.2 → a ≠ b → (q.2.1 a).2.1 ≠ (q.2.1 b).2.1) ∧ ∀ k, k < q.2.2 → parseFieldDescriptor (q.2.1 k).2.2.1 = some (zct ci k) := by
  match ci, h with
  | 0, h => cases h; exact ⟨zws0, nmX0, tyX0_ok⟩
  | 1, h => cases h; exact ⟨zws1, nmX1, tyX1_ok⟩
  | 2, h => cases h; exact ⟨zws2, nmX2, tyX2_ok⟩
  | 3, h => cases h; exact ⟨zws3, nmX3, tyX3_ok⟩
  | 4, h => cases h; exact ⟨zws4, nmX4, tyX4_ok⟩
  | n + 5, h => simp [zcl] at h
/-- the entry idx of own's pool is field k of class ci; final or not -/
def zFl (own : String) (idx ci k : Nat) : Prop := ∃ (C : String) (T : u_T) (N : Nat), zcl[ci]? = some (C, T, N) ∧ k < N ∧ Cond.fieldLink own idx (T k).1 (T k).2.1 (T k).2.2.1 ∈ zT
def zFn (ci k : Nat) (b : Bool) : Prop := ∃ (C : String) (T : u_T) (N : Nat), zcl[ci]? = some (C, T, N) ∧ (T k).2.2.2 = b ∧ (T k).1 = C
section ZH
variable {E : zE} {cs sl pc : Nat} {lv : zLv} {st : List Value} {h : zH}
theorem go_getf {idx ci k a : Nat} {fs : List Value} {v : Value} (hd : decode (zb E) pc = .ok (.getfield idx, 3)) (hf : zFl (zo E) idx ci k) (hh : h.1 a = some (.inr (ci, fs))) (hv : fs[k]? = some v) (kk : Go E cs sl (pc + 3) lv (v :: st) h) : Go E cs sl pc lv (.ref a :: st) h := by
  intro p e R s m args below meth c H locs ls hC hR hL hl
  obtain ⟨C, T, N, hc, hk, hlk⟩ := hf
  obtain ⟨hin, hnm, hty⟩ := zcl_ok hc
  have hP : va_P (zg E).1 zcl [(a, .inr (ci, fs))] H := fun j q hq => by
    match j, hq with
    | 0, hq => cases hq; exact (hR.2.2.1 a _ hh).2
    | j + 1, hq => simp at hq
  exact va_get (D := (zg E).1) (Ts := zT) hC.1 hC.2.1 hC.2.2.2.2.2.2.2.1 hin hC.2.2.2.2.2.1 hC.2.2.2.2.2.2.2.2.1.1 hP 0 rfl hc k hk (hC.2.2.2.2.2.2.2.1 _ hlk) (fun _ x => x) hv hd (kk p e R s m args below meth c H locs ls hC hR hL hl)
theorem zlocs {γ : zG} {locs L : List Loc} (hL : ∀ q ∈ locs, zN γ ≤ q.base) (h : ∀ q ∈ L, zN γ ≤ q.base) : ∀ q ∈ locs ++ L, zN γ ≤ q.base := fun q hq => (List.mem_append.mp hq).elim (hL q) (h q)
theorem zloc1 {γ : zG} {locs : List Loc} {a k : Nat} (hL : ∀ q ∈ locs, zN γ ≤ q.base) (h : zN γ ≤ a) : ∀ q ∈ locs ++ [(⟨a, k⟩ : Loc)], zN γ ≤ q.base := zlocs hL (fun q hq => by rw [List.mem_singleton.mp hq]; exact h)
theorem go_putf {idx ci k a : Nat} {fs : List Value} {v : Value} (hd : decode (zb E) pc = .ok (.putfield idx, 3)) (hf : zFl (zo E) idx ci k) (hfin : zFn ci k false) (hh : h.1 a = some (.inr (ci, fs))) (hn : narrow (zct ci k) v = v) (hfit : fits (zct ci k) v = true) (hlen : k < fs.length) (kk : Go E cs sl (pc + 3) lv st (zu h a (.inr (ci, fs.set k v)))) : Go E cs sl pc lv (v :: .ref a :: st) h := by
  intro p e R s m args below meth c H locs ls hC hR hL hl
  obtain ⟨C, T, N, hc, hk, hlk⟩ := hf
  obtain ⟨C', T', N', hc', hfin, hdecl⟩ := hfin
  cases hc.symm.trans hc'
  obtain ⟨hin, hnm, hty⟩ := zcl_ok hc
  have hts := hC.2.2.2.2.2.2.2.1
  have hK := hC.2.2.2.2.2.2.2.2.1.1
  have hap := va_apart (own := zo E) hts hin (zct ci) hty hnm hK hc
  obtain ⟨r, h1, cell, q1, q2, q3, q4⟩ := (hR.2.2.1 a _ hh).2
  have hr : r = (C, T, N) := Option.some.inj (h1.symm.trans hc)
  subst hr
  obtain ⟨hS, hfc, kC, hkC, hkind⟩ := hK.1 ci _ hc
  obtain ⟨cf, kf, fi, f, hi, hsl⟩ := hS k hk
  have hlay := hts _ (hin _ (u_in_lay hk))
  unfold u_lay at hlay
  rw [if_neg (by rw [hfin]; decide)] at hlay
  have hst := (u_facts hfc hkC (u_lays hts hin hk) hi).1
  have h6 := u_store hfc hkC hkind hlay hi (hty k hk) hn hfit
  refine W.putK hC.1 hC.2.1 (f := f) ⟨hC.2.2.2.2.2.1, hts _ hlk, ⟨_, _, _, hi⟩, hst⟩ (by rw [q2]; exact h6) q1 q3 (by rw [hsl]; exact k2_hasslot (q4 k hk)) rfl rfl hd fun H' e1 e2 e3 => ?_
  rw [hsl] at e1 ⊢
  exact kk p e R s m args below meth c H' _ ls hC (hR.put hh ⟨_, hc, t_OB.to (V := updV (vp_V fs) k v) ⟨_, e1, q2, q3, t_set q4 hap hk v⟩ (fun j _ => vp_updV_set hlen v j)⟩ e2 e3) (zloc1 hL (hR.2.2.1 a _ hh).1) hl
theorem go_putF {idx ci k a : Nat} {fs : List Value} {v : Value} (hd : decode (zb E) pc = .ok (.putfield idx, 3)) (hf : zFl (zo E) idx ci k) (hfin : zFn ci k true) (hown : (zcl[ci]?).map (fun q => q.1) = some (zo E)) (hini : (zm E).1.name = "<init>") (hh : h.1 a = some (.inr (ci, fs))) (hn : narrow (zct ci k) v = v) (hfit : fits (zct ci k) v = true) (hlen : k < fs.length) (kk : Go E cs sl (pc + 3) lv st (zu h a (.inr (ci, fs.set k v)))) : Go E cs sl pc lv (v :: .ref a :: st) h := by
  intro p e R s m args below meth c H locs ls hC hR hL hl
  obtain ⟨C, T, N, hc, hk, hlk⟩ := hf
  obtain ⟨C', T', N', hc', hfin, hdecl⟩ := hfin
  cases hc.symm.trans hc'
  rw [hc] at hown
  have hCo : C = zo E := Option.some.inj hown
  obtain ⟨hin, hnm, hty⟩ := zcl_ok hc
  have hts := hC.2.2.2.2.2.2.2.1
  have hK := hC.2.2.2.2.2.2.2.2.1.1
  have hap := va_apart (own := zo E) hts hin (zct ci) hty hnm hK hc
  obtain ⟨r, h1, cell, q1, q2, q3, q4⟩ := (hR.2.2.1 a _ hh).2
  have hr : r = (C, T, N) := Option.some.inj (h1.symm.trans hc)
  subst hr
  obtain ⟨hS, hfc, kC, hkC, hkind⟩ := hK.1 ci _ hc
  obtain ⟨cf, kf, fi, f, hi, hsl⟩ := hS k hk
  have hlay := hts _ (hin _ (u_in_lay hk))
  unfold u_lay at hlay
  rw [if_pos hfin] at hlay
  have hst := (u_facts hfc hkC (u_lays hts hin hk) hi).1
  have hcf : m.cls = cf := by
    obtain ⟨_, _, c', _, _, _, -, -, hf', -, -, -, hown2, -⟩ := Cond.laysFinal_spec hlay
    have e1 : c' = cf := by have := hi.symm.trans hf'; simp at this; exact this.1.symm
    have e2 : (T k).1 = zo E := hdecl.trans hCo
    rw [e2] at hown2
    rw [← e1]; exact Option.some.inj (hC.2.2.2.2.2.1.symm.trans hown2)
  have h6 := u_fits hfc hkC hkind (Or.inr hlay) hi (hty k hk) hn hfit
  refine W.putFinK hC.1 hC.2.1 hC.2.2.2.2.2.1 (hts _ hlk) hi hst hcf (hC.2.2.2.2.2.2.1 hini) (by rw [q2]; exact h6) q1 q3 (by rw [hsl]; exact k2_hasslot (q4 k hk)) rfl rfl hd fun H' e1 e2 e3 => ?_
  rw [hsl] at e1 ⊢
  exact kk p e R s m args below meth c H' _ ls hC (hR.put hh ⟨_, hc, t_OB.to (V := updV (vp_V fs) k v) ⟨_, e1, q2, q3, t_set q4 hap hk v⟩ (fun j _ => vp_updV_set hlen v j)⟩ e2 e3) (zloc1 hL (hR.2.2.1 a _ hh).1) hl
theorem zty_i {γ : zG} {U : State} (hK : va_K γ.1 zcl (zty γ) U) : ArrOfT U (γ.2.1 0) .int := (hK.2 0 _ rfl).1
theorem zty_z {γ : zG} {U : State} (hK : va_K γ.1 zcl (zty γ) U) : ArrOfT U (γ.2.1 1) .boolean := (hK.2 1 _ rfl).1
/-- cells that are arrays: of ints, of booleans, of Ports, of States -/
def zai (γ : zG) (n : Nat) (f : Nat → Int32) : va_E := .inl (γ.2.1 0, n, .inl f)
def zaz (γ : zG) (n : Nat) (f : Nat → Int32) : va_E := .inl (γ.2.1 1, n, .inl f)
def zap (γ : zG) (n : Nat) (f : Nat → Option Nat) : va_E := .inl (γ.2.1 2, n, .inr (.inr (.inr (.inr f))))
def zas (γ : zG) (n : Nat) (f : Nat → Option Nat) : va_E := .inl (γ.2.1 3, n, .inr (.inr (.inr (.inr f))))
theorem go_iald {a n j : Nat} {f : Nat → Int32} {i : Int32} (hd : decode (zb E) pc = .ok (.iaload, 1)) (hh : h.1 a = some (zai (zg E) n f)) (hin : vp_in i n) (hj : i.toNatClampNeg = j) (kk : Go E cs sl (pc + 1) lv (.int (f j) :: st) h) : Go E cs sl pc lv (.int i :: .ref a :: st) h := by
  intro p e R s m args below meth c H locs ls hC hR hL hl
  subst hj
  have hlt : i.toNatClampNeg < n := Nat.not_le.mp fun q => hin (Or.inr q)
  exact W.iald (v := .int (f i.toNatClampNeg)) hC.1 hC.2.1 (hR.2.2.1 a _ hh).2 (zty_i hC.2.2.2.2.2.2.2.2.1.1 n (fun j => .int (f j))) (fun q => by cases q) (by show ¬ (i < 0 ∨ (arrV _ _ _).slots.size ≤ _); rw [arrV_size]; exact hin) (by show (arrV _ _ _).slots[_]? = _; rw [arrV_read _ _ hlt]) rfl rfl hd (kk p e R s m args below meth c H locs ls hC hR hL hl)
theorem go_zald {a n j : Nat} {f : Nat → Int32} {i : Int32} (hd : decode (zb E) pc = .ok (.baload, 1)) (hh : h.1 a = some (zaz (zg E) n f)) (hin : vp_in i n) (hj : i.toNatClampNeg = j) (kk : Go E cs sl (pc + 1) lv (.int (f j) :: st) h) : Go E cs sl pc lv (.int i :: .ref a :: st) h := by
  intro p e R s m args below meth c H locs ls hC hR hL hl
  subst hj
  have hlt : i.toNatClampNeg < n := Nat.not_le.mp fun q => hin (Or.inr q)
  exact W.zald (v := .int (f i.toNatClampNeg)) hC.1 hC.2.1 (hR.2.2.1 a _ hh).2 (zty_z hC.2.2.2.2.2.2.2.2.1.1 n (fun j => .int (f j))) (fun q => by cases q) (by show ¬ (i < 0 ∨ (arrV _ _ _).slots.size ≤ _); rw [arrV_size]; exact hin) (by show (arrV _ _ _).slots[_]? = _; rw [arrV_read _ _ hlt]) rfl rfl hd (kk p e R s m args below meth c H locs ls hC hR hL hl)
theorem go_ald {t0 : Nat} {C : String} {a n j : Nat} {cA : ClassId} {f : Nat → Option Nat} {i : Int32} {v : Value} (hd : decode (zb E) pc = .ok (.aaload, 1)) (hh : h.1 a = some (.inl (cA, n, .inr (.inr (.inr (.inr f)))))) (ht : (zty (zg E))[t0]? = some (cA, .object C)) (hin : vp_in i n) (hj : i.toNatClampNeg = j) (hv : va_rf (f j) = v) (kk : Go E cs sl (pc + 1) lv (v :: st) h) : Go E cs sl pc lv (.int i :: .ref a :: st) h := by
  intro p e R s m args below meth c H locs ls hC hR hL hl
  subst hj
  subst hv
  have hlt : i.toNatClampNeg < n := Nat.not_le.mp fun q => hin (Or.inr q)
  exact W.aald (v := va_rf (f i.toNatClampNeg)) (ty := .object C) hC.1 hC.2.1 (hR.2.2.1 a _ hh).2 ((hC.2.2.2.2.2.2.2.2.1.1.2 t0 _ ht).1 n (fun j => va_rf (f j))) rfl (fun q => by cases q) (by show ¬ (i < 0 ∨ (arrV _ _ _).slots.size ≤ _); rw [arrV_size]; exact hin) (by show (arrV _ _ _).slots[_]? = _; rw [arrV_read _ _ hlt]) rfl rfl hd (kk p e R s m args below meth c H locs ls hC hR hL hl)
theorem go_alen {a n : Nat} {cA : ClassId} {x : vp_A} {t0 : Nat} {ty : FieldType} {v : Int32} (hd : decode (zb E) pc = .ok (.arraylength, 1)) (hh : h.1 a = some (.inl (cA, x))) (ht : (zty (zg E))[t0]? = some (cA, ty)) (hv : Int32.ofNat x.1 = v) (kk : Go E cs sl (pc + 1) lv (.int v :: st) h) : Go E cs sl pc lv (.ref a :: st) h := by
  intro p e R s m args below meth c H locs ls hC hR hL hl
  have hP : va_P (zg E).1 zcl [(a, .inl (cA, x))] H := fun j q hq => by
    match j, hq with
    | 0, hq => cases hq; exact (hR.2.2.1 a _ hh).2
    | j + 1, hq => simp at hq
  exact va_alen hC.1 hC.2.1 hC.2.2.2.2.2.2.2.2.1.1 hP 0 t0 rfl ht hv hd (kk p e R s m args below meth c H locs ls hC hR hL hl)
theorem zst_at {cA : ClassId} {n k : Nat} {f : Nat → Int32} {x : Int32} {H1 : Heap} {a : Nat} {D : va_G} (e : H1[a]? = some ((vp_cell cA (n, .inl f)).setSlot k (.int x))) : va_at D zcl (a, .inl (cA, n, .inl (upd f k x))) H1 := by
  show H1[a]? = some (vp_cell _ _)
  rw [e, vp_cell_i, vp_cell_i, arrV_store]
  congr 2
  funext q
  by_cases hq : q = k
  · subst hq
    simp [updV, upd]
  · simp [updV, upd, hq]
theorem go_iast {a n j : Nat} {f : Nat → Int32} {i x : Int32} (hd : decode (zb E) pc = .ok (.iastore, 1)) (hh : h.1 a = some (zai (zg E) n f)) (hin : vp_in i n) (hj : i.toNatClampNeg = j) (kk : Go E cs sl (pc + 1) lv st (zu h a (zai (zg E) n (upd f j x)))) : Go E cs sl pc lv (.int x :: .int i :: .ref a :: st) h := by
  intro p e R s m args below meth c H locs ls hC hR hL hl
  subst hj
  refine W.iast hC.1 hC.2.1 (hR.2.2.1 a _ hh).2 (zty_i hC.2.2.2.2.2.2.2.2.1.1 n (fun j => .int (f j))) (fun q => by cases q) (by show ¬ (i < 0 ∨ (arrV _ _ _).slots.size ≤ _); rw [arrV_size]; exact hin) rfl rfl hd fun H1 e1 z oq => ?_
  exact kk p e R s m args below meth c H1 _ ls hC (hR.put hh (zst_at e1) z oq) (zloc1 hL (hR.2.2.1 a _ hh).1) hl
theorem go_zast {a n j : Nat} {f : Nat → Int32} {i x : Int32} (hd : decode (zb E) pc = .ok (.bastore, 1)) (hh : h.1 a = some (zaz (zg E) n f)) (hin : vp_in i n) (hj : i.toNatClampNeg = j) (hx : x &&& 1 = x) (kk : Go E cs sl (pc + 1) lv st (zu h a (zaz (zg E) n (upd f j x)))) : Go E cs sl pc lv (.int x :: .int i :: .ref a :: st) h := by
  intro p e R s m args below meth c H locs ls hC hR hL hl
  subst hj
  refine W.zast hC.1 hC.2.1 (hR.2.2.1 a _ hh).2 (zty_z hC.2.2.2.2.2.2.2.2.1.1 n (fun j => .int (f j))) (fun q => by cases q) (by show ¬ (i < 0 ∨ (arrV _ _ _).slots.size ≤ _); rw [arrV_size]; exact hin) rfl rfl hd fun H1 e1 z oq => ?_
  have hxx : narrow .boolean (.int x) = .int x := by show Value.int (x &&& 1) = _; rw [hx]
  rw [hxx] at e1
  exact kk p e R s m args below meth c H1 _ ls hC (hR.put hh (zst_at e1) z oq) (zloc1 hL (hR.2.2.1 a _ hh).1) hl
theorem go_aast {t0 ci : Nat} {r : vw_C} {a n j b : Nat} {vs : List Value} {cA : ClassId} {f : Nat → Option Nat} {i : Int32} (hd : decode (zb E) pc = .ok (.aastore, 1)) (hh : h.1 a = some (.inl (cA, n, .inr (.inr (.inr (.inr f)))))) (ht : (zty (zg E))[t0]? = some (cA, .object r.1)) (hb : h.1 b = some (.inr (ci, vs))) (hc : zcl[ci]? = some r) (hin : vp_in i n) (hj : i.toNatClampNeg = j) (kk : Go E cs sl (pc + 1) lv st (zu h a (.inl (cA, n, .inr (.inr (.inr (.inr (va_up f j (some b))))))))) : Go E cs sl pc lv (.ref b :: .int i :: .ref a :: st) h := by
  intro p e R s m args below meth c H locs ls hC hR hL hl
  subst hj
  have hK := hC.2.2.2.2.2.2.2.2.1.1
  have hlt : i.toNatClampNeg < n := Nat.not_le.mp fun q => hin (Or.inr q)
  have h0 : ¬ i < 0 := fun q => hin (Or.inl q)
  obtain ⟨r', hr', cellV, g1, g2, g3, -⟩ := (hR.2.2.1 b _ hb).2
  have hcls := (hK.1 ci r hc).2
  obtain ⟨kA, comp, k1, k2, k3, -⟩ := (hK.2 t0 _ ht).2
  have hcomp : comp = (zg E).1.1 ci := Option.some.inj (k3.symm.trans hcls.1)
  subst hcomp
  obtain ⟨kC, hkC, -⟩ := hcls.2
  refine W.aast hC.1 hC.2.1 (hR.2.2.1 a _ hh).2 (fun q h => by cases h) (fun h => by cases h) k1 k2 rfl hkC ⟨h0, by show _ < (arrV _ _ _).slots.size; rw [arrV_size]; exact hlt⟩ g1 (fun q h => by rw [g3] at h; cases h) (by rw [g2]; exact hkC) (by rw [g2]; exact va_assign hcls) rfl rfl hd fun H1 e1 z oq => ?_
  refine kk p e R s m args below meth c H1 _ ls hC (hR.put hh ?_ z oq) (zloc1 hL (hR.2.2.1 a _ hh).1) hl
  show H1[a]? = some (vp_cell _ _)
  rw [e1, vp_cell_q, vp_cell_q, arrV_store]
  congr 2
  funext q
  by_cases hq : q = i.toNatClampNeg
  · subst hq
    simp [updV, va_up, va_rf]
  · simp [updV, va_up, hq]
theorem go_new {idx ci : Nat} {C : String} {T : u_T} {N : Nat} {fs : List Value} (hd : decode (zb E) pc = .ok (.new idx, 3)) (hc : zcl[ci]? = some (C, T, N)) (hw : Cond.classLink (zo E) idx C ∈ zT ∧ Cond.instantiable C N ∈ zT ∧ Cond.initialized C ∈ zT) (hfs : ∀ j, j < N → defaultValue (zct ci j) = vp_V fs j) (hcs : cs + 1 ≤ zcc E) (hsl : sl + N ≤ zcs E)
    (kk : Go E (cs + 1) (sl + N) (pc + 3) lv (.ref h.2 :: st) (zp h (.inr (ci, fs)))) : Go E cs sl pc lv st h := by
  intro p e R s m args below meth c H locs ls hC hR hL hl
  have hts := hC.2.2.2.2.2.2.2.1
  obtain ⟨hin, hnm, hty⟩ := zcl_ok hc
  have hKn := hC.2.2.2.2.2.2.2.2.1.1.1 ci _ hc
  have hrc := hC.2.2.2.2.2.2.2.2.2.2.2.2.1
  have hrs := hC.2.2.2.2.2.2.2.2.2.2.2.2.2
  refine W.newcK hC.1 hC.2.1 hC.2.2.2.2.2.1 (hts _ hw.1) (hts _ hw.2.1) (hts _ hw.2.2) rfl hd (by omega) (by omega) hKn.2.1 rfl fun H1 kC hkC e1 z1 o1 => ?_
  have hR1 := hR.push (e := .inr (ci, fs)) (H1 := H1) ⟨_, hc, (u_born (zct ci) hts hin hKn hkC e1 hty).to hfs⟩ z1 o1
  have := kk p e R s m args below meth c H1 locs ls hC hR1 hL hl
  rw [hR.1] at this
  exact this
theorem go_newi {n : Int32} {N : Nat} (hd : decode (zb E) pc = .ok (.newarray .int, 2)) (hw : Cond.arrayClass .int ∈ zT) (hn : ¬ n < 0) (hN : n.toNatClampNeg = N) (hsm : N ≤ 100000) (hcs : cs + 1 ≤ zcc E) (hsl : sl + N ≤ zcs E)
    (kk : Go E (cs + 1) (sl + N) (pc + 2) lv (.ref h.2 :: st) (zp h (zai (zg E) N (fun _ => 0)))) : Go E cs sl pc lv (.int n :: st) h := by
  intro p e R s m args below meth c H locs ls hC hR hL hl
  have hts := hC.2.2.2.2.2.2.2.1
  have hrc := hC.2.2.2.2.2.2.2.2.2.2.2.2.1
  have hrs := hC.2.2.2.2.2.2.2.2.2.2.2.2.2
  refine va_newaK (atype := .int) hC.1 hC.2.1 (hts _ hw) rfl hd rfl hn hN (by show N * 4 ≤ _; omega) (by omega) (by omega) rfl fun H1 cA e1 z1 o1 hAr hNm => ?_
  have hcA : cA = (zg E).2.1 0 := Option.some.inj (hNm.symm.trans (hC.2.2.2.2.2.2.2.2.1.1.2 0 _ rfl).2)
  subst hcA
  have hR1 := hR.push (e := zai (zg E) N (fun _ => 0)) (H1 := H1) e1 z1 o1
  have := kk p e R s m args below meth c H1 locs ls hC hR1 hL hl
  rw [hR.1] at this
  exact this
theorem go_newz {n : Int32} {N : Nat} (hd : decode (zb E) pc = .ok (.newarray .boolean, 2)) (hw : Cond.arrayClass .boolean ∈ zT) (hn : ¬ n < 0) (hN : n.toNatClampNeg = N) (hsm : N ≤ 100000) (hcs : cs + 1 ≤ zcc E) (hsl : sl + N ≤ zcs E)
    (kk : Go E (cs + 1) (sl + N) (pc + 2) lv (.ref h.2 :: st) (zp h (zaz (zg E) N (fun _ => 0)))) : Go E cs sl pc lv (.int n :: st) h := by
  intro p e R s m args below meth c H locs ls hC hR hL hl
  have hts := hC.2.2.2.2.2.2.2.1
  have hrc := hC.2.2.2.2.2.2.2.2.2.2.2.2.1
  have hrs := hC.2.2.2.2.2.2.2.2.2.2.2.2.2
  refine va_newaK (atype := .boolean) hC.1 hC.2.1 (hts _ hw) rfl hd rfl hn hN (by show N * 1 ≤ _; omega) (by omega) (by omega) rfl fun H1 cA e1 z1 o1 hAr hNm => ?_
  have hcA : cA = (zg E).2.1 1 := Option.some.inj (hNm.symm.trans (hC.2.2.2.2.2.2.2.2.1.1.2 1 _ rfl).2)
  subst hcA
  have hR1 := hR.push (e := zaz (zg E) N (fun _ => 0)) (H1 := H1) e1 z1 o1
  have := kk p e R s m args below meth c H1 locs ls hC hR1 hL hl
  rw [hR.1] at this
  exact this
theorem go_anew {idx t0 : Nat} {C : String} {n : Int32} {N : Nat} {cA0 : ClassId} (hd : decode (zb E) pc = .ok (.anewarray idx, 3)) (hw : Cond.classLink (zo E) idx C ∈ zT) (ho : ∀ U : State, zK (zg E) U → va_AO C U) (ht : (zty (zg E))[t0]? = some (cA0, .object C)) (hn : ¬ n < 0) (hN : n.toNatClampNeg = N) (hsm : N ≤ 100000) (hcs : cs + 1 ≤ zcc E) (hsl : sl + N ≤ zcs E)
    (kk : Go E (cs + 1) (sl + N) (pc + 3) lv (.ref h.2 :: st) (zp h (.inl (cA0, N, .inr (.inr (.inr (.inr (fun _ => none)))))))) : Go E cs sl pc lv (.int n :: st) h := by
  intro p e R s m args below meth c H locs ls hC hR hL hl
  subst hN
  have hts := hC.2.2.2.2.2.2.2.1
  have hrc := hC.2.2.2.2.2.2.2.2.2.2.2.2.1
  have hrs := hC.2.2.2.2.2.2.2.2.2.2.2.2.2
  refine W.anew hC.1 hC.2.1 hC.2.2.2.2.2.1 (hts _ hw) (va_AO.use (ho s hC.2.2.2.2.2.2.2.2.1)) rfl hd rfl hn (by omega) (by omega) (by omega) fun cA kA comp f1 f2 f3 f4 => ?_
  obtain ⟨-, -, -, -, -, f5⟩ := (hC.2.2.2.2.2.2.2.2.1.1.2 t0 _ ht).2
  have hcA : cA = cA0 := Option.some.inj (f1.symm.trans f5)
  subst hcA
  generalize hH1 : H.push ({ cls := cA, slots := Array.replicate n.toNatClampNeg .null, vm := .none } : Cell) = H1
  have z1 : H1.size = H.size + 1 := by rw [← hH1, Array.size_push]
  have e1 : H1[H.size]? = some (arrV cA n.toNatClampNeg (fun _ => .null)) := by rw [← hH1, Array.getElem?_push_size, ← arrV_new]
  have o1 : ∀ q : Nat, q < H.size → H1[q]? = H[q]? := fun q hq => by rw [← hH1, Array.getElem?_push, if_neg (Nat.ne_of_lt hq)]
  have hR1 := hR.push (e := .inl (cA, n.toNatClampNeg, .inr (.inr (.inr (.inr (fun _ => none)))))) (H1 := H1) e1 z1 o1
  have := kk p e R s m args below meth c H1 locs ls hC hR1 hL hl
  rw [hR.1] at this
  exact this
theorem zSfull {γ : zG} {h : zH} {H : Heap} (hR : zR γ h H) : ∀ q : Nat, q < γ.2.2.1.size → ¬ zA γ q → H[q]? = γ.2.2.1[q]? := fun q hq _ => hR.2.2.2 q hq
theorem go_gets {idx k : Nat} (hd : decode (zb E) pc = .ok (.getstatic idx, 3)) (hk : k < 3) (hw : Cond.fieldLink (zo E) idx RX3 (zsn k) "[I" ∈ zT) (kk : Go E cs sl (pc + 3) lv (.ref ((zg E).2.2.2 k) :: st) h) : Go E cs sl pc lv st h := by
  intro p e R s m args below meth c H locs ls hC hR hL hl
  obtain ⟨⟨cf, kf, fi, f, a, cell, h1, h2, h3, h4, h5, h6, h7, h8⟩, -⟩ := hC.2.2.2.2.2.2.2.2.1.2.1 k hk
  exact W.gets hC.1 hC.2.1 hC.2.2.2.2.2.1 (hC.2.2.2.2.2.2.2.1 _ hw) h1 h2 h3 h4 (by rw [zSfull hR a (Array.getElem?_eq_some_iff.mp h5).1 h8]; exact h5) (fun e => by rw [e] at h6; cases h6) h7 rfl hd (kk p e R s m args below meth c H locs ls hC hR hL hl)
theorem go_tald {k j : Nat} {i : Int32} (hd : decode (zb E) pc = .ok (.iaload, 1)) (hk : k < 3) (hin : vp_in i 5) (hj : i.toNatClampNeg = j) (kk : Go E cs sl (pc + 1) lv (.int (zsv k j) :: st) h) : Go E cs sl pc lv (.int i :: .ref ((zg E).2.2.2 k) :: st) h := by
  intro p e R s m args below meth c H locs ls hC hR hL hl
  subst hj
  obtain ⟨-, cell, h1, h2, h3, h4, h5, h6, h7⟩ := hC.2.2.2.2.2.2.2.2.1.2.1 k hk
  have hlt : i.toNatClampNeg < 5 := Nat.not_le.mp fun q => hin (Or.inr q)
  have hin' : ¬ (i < 0 ∨ cell.slots.size ≤ i.toNatClampNeg) := by
    intro q
    rcases q with q | q
    · exact hin (Or.inl q)
    · omega
  exact W.iald (v := .int (zsv k i.toNatClampNeg)) hC.1 hC.2.1 (by rw [zSfull hR _ (Array.getElem?_eq_some_iff.mp h1).1 h7]; exact h1) h2 h3 hin' (h6 _ hlt) rfl rfl hd (kk p e R s m args below meth c H locs ls hC hR hL hl)
theorem go_tlen {k : Nat} (hd : decode (zb E) pc = .ok (.arraylength, 1)) (hk : k < 3) (kk : Go E cs sl (pc + 1) lv (.int 5 :: st) h) : Go E cs sl pc lv (.ref ((zg E).2.2.2 k) :: st) h := by
  intro p e R s m args below meth c H locs ls hC hR hL hl
  obtain ⟨-, cell, h1, h2, h3, h4, h5, h6, h7⟩ := hC.2.2.2.2.2.2.2.2.1.2.1 k hk
  exact W.alen (n := 5) hC.1 hC.2.1 (by rw [zSfull hR _ (Array.getElem?_eq_some_iff.mp h1).1 h7]; exact h1) h2 h5 rfl rfl hd (kk p e R s m args below meth c H locs ls hC hR hL hl)
theorem go_ldcw {idx : Nat} {v : Int32} (hd : decode (zb E) pc = .ok (.ldc_w idx, 3)) (hw : Cond.constant (zo E) idx v ∈ zT) (kk : Go E cs sl (pc + 3) lv (.int v :: st) h) : Go E cs sl pc lv st h := by
  intro p e R s m args below meth c H locs ls hC hR hL hl
  exact lv_ldcw hC.1 hC.2.1 hC.2.2.2.2.2.1 (hC.2.2.2.2.2.2.2.1 _ hw) hd (kk p e R s m args below meth c H locs ls hC hR hL hl)
theorem go_objInit {idx a : Nat} (hd : decode (zb E) pc = .ok (.invokespecial idx, 3)) (hw : Cond.methodLink (zo E) idx objectInit ∈ zT ∧ Cond.instanceMethod objectInit ∈ zT ∧ Cond.code objectInit ⟨#[0xb1]⟩ 1 none ∈ zT) (hn : 1 ≤ zn E) (kk : Go E cs sl (pc + 3) lv [] h) : Go E cs sl pc lv [.ref a] h := by
  intro p e R s m args below meth c H locs ls hC hR hL hl
  have hts := hC.2.2.2.2.2.2.2.1
  have hfr := hC.2.2.2.2.2.2.2.2.2.2.1
  have hlo := hC.2.2.2.2.2.2.2.2.2.2.2.1
  exact W.objInit hC.1 hC.2.1 hC.2.2.2.2.2.1 (hts _ hw.1) (hts _ hw.2.1) (hts _ hw.2.2) rfl (by rw [hC.2.2.2.2.1]; exact hl.1) rfl hd (by omega) (by show 2 * 0 + 0 + 12 ≤ _; omega) (kk p e R s m args below meth c H locs ls hC hR hL hl)
end ZH
end
section
/-! rows: calls and ends -/
theorem zP_blind (γ : zG) (As : List Value) (h : zH) : FrameBlind (zP γ As h) := fun a U g mk q => ⟨q.1, q.2.1, zK.moved (u := U) (U := U.calling g mk a) (Vm.Alike.refl U.vm) q.2.2⟩
/-- what a call needs of the method that is called -/
def zMo (M : zM) (np : Nat) : Prop := Cond.code M.1 M.2.1 M.2.2.1 M.2.2.2 ∈ zT ∧ Cond.initialized M.1.cls ∈ zT ∧ (M.1.cls ≠ "java/lang/invoke/MethodHandle" ∧ M.1.cls ≠ "java/lang/invoke/VarHandle" ∧ (parseMethodDescriptor M.1.desc).map (fun d => d.parameters.length) = some np) ∧ M.2.2.1 ≤ 17
theorem zgood_in {M : zM} {np : Nat} (hm : zMo M np) : GoodIn zT (Cond.code M.1 M.2.1 M.2.2.1 M.2.2.2 :: zT) := fun w hw => by
  rcases List.mem_cons.mp hw with h | h
  · subst h; exact ⟨hm.1, zT_good hm.1⟩
  · exact ⟨h, zT_good h⟩
section ZC
variable {E : zE} {cs sl pc : Nat} {lv : zLv} {st : List Value} {h : zH}
theorem zcallB {p : Program} {R : Room} {s : State} {m : MethodId} {args : Array Value} {meth : Method} {c : Code} {M : zM} {np n' C' S' idx : Nat} (hC : zC E p R s m args meth c) (hm : zMo M np) (hl : Cond.methodLink (zo E) idx M.1 ∈ zT) (hn : n' + 1 ≤ zn E) :
    CallB R s args (zo E) idx M.1 M.2.1 M.2.2.1 M.2.2.2 (.code M.1 M.2.1 M.2.2.1 M.2.2.2 :: zT) (zrm n' C' S') C' S' np := by
  have hts := hC.2.2.2.2.2.2.2.1
  have hfr := hC.2.2.2.2.2.2.2.2.2.2.1
  have hlo := hC.2.2.2.2.2.2.2.2.2.2.2.1
  have hM := hm.2.2.2
  exact callB_of (ws' := zT) (rm := zrm n' C' S') np hts (zgood_in hm) rfl rfl rfl (hts _ hm.2.1) (hts _ hl) hm.2.2.1 ⟨by show n' + 1 ≤ _; omega, by show 8 + (M.2.2.1 + 11) + 36 * n' ≤ _; omega⟩
theorem zafter {p : Program} {e : Env} {R : Room} {s : State} {m : MethodId} {args : Array Value} {below : List Frame} {meth : Method} {c : Code} {H : Heap} {locs : List Loc} {ls : Array Slot} {mc ms : Nat} {st0 rest : List Value} {a : Array Value} {r : Option Value} {h1 : zH}
    (hr : va_Run p (zl E) e R s m args below meth c H locs cs sl mc ms (F0 m pc ls st0) rest (zQ (zg E) r h1 a) (zA (zg E))) (hC : zC E p R s m args meth c) (hL : ∀ q ∈ locs, zN (zg E) ≤ q.base) (hl : zloc ls (zm E).2.2.1 lv)
    (kk : Go E (cs + mc) (sl + ms) (pc + 3) lv (r.toList ++ rest) h1) : W p (zl E) e R s m args below meth c H locs cs sl (zf E s args below) (F0 m pc ls st0) := by
  intro T hT X
  obtain ⟨v, st₀, t, T', L, h0, X', hLL, e1, e2, ⟨hv, hR1⟩, st⟩ := hr T hT X
  cases hv
  rw [← e1] at hR1
  obtain ⟨t2, a1, b1⟩ := kk p e R s m args below meth c T'.heap (locs ++ L) ls hC hR1 (zlocs hL hLL) hl T' rfl X'
  exact ⟨t2, st t2 a1, b1⟩
theorem go_callV {idx np n' C' S' b ci : Nat} {M : zM} {As rest fs : List Value} {r : Option Value} {h1 : zH} {q : vw_C} (hd : decode (zb E) pc = .ok (.invokevirtual idx, 3)) (hm : zMo M np)
    (hw : Cond.methodLink (zo E) idx M.1 ∈ zT ∧ Cond.instanceMethod M.1 ∈ zT ∧ Cond.selects M.1.cls M.1 M.1 ∈ zT) (hc : zcl[ci]? = some q ∧ q.1 = M.1.cls)
    (hcon : Con (zg E) (zl E) n' C' S' M (.ref b :: As) h r h1) (hh : h.1 b = some (.inr (ci, fs))) (hst : st = As.reverse ++ .ref b :: rest) (hnp : As.length = np) (hn : n' + 1 ≤ zn E) (hcs : cs + C' ≤ zcc E) (hsl : sl + S' ≤ zcs E) (hrs : (rest.map fun v => v.category).sum ≤ 8)
    (kk : Go E (cs + C') (sl + S') (pc + 3) lv (r.toList ++ rest) h1) : Go E cs sl pc lv st h := by
  intro p e R s m args below meth c H locs ls hC hR hL hl
  have hts := hC.2.2.2.2.2.2.2.1
  have hrc := hC.2.2.2.2.2.2.2.2.2.2.2.2.1
  have hrl := hC.2.2.2.2.2.2.2.2.2.2.2.2.2
  have hK := hC.2.2.2.2.2.2.2.2.1
  have hP : va_P (zg E).1 zcl [(b, .inr (ci, fs))] H := fun j q hq => by
    match j, hq with
    | 0, hq => cases hq; exact (hR.2.2.1 b _ hh).2
    | j + 1, hq => simp at hq
  have hrecv := va_recv hK.1 hP hc.1 (q0 := 0) rfl
  rw [hc.2] at hrecv
  refine zafter (va_runV (C := M.1.cls) (Ts := zT) (own := zo E) (As := As) (rest := rest) (b := b) ⟨hC.1, hC.2.1, hC.2.2.2.2.1, hC.2.2.2.2.2.1, hts⟩ hcon ⟨zcallB hC hm hw.1 hn, hts _ hw.2.1, hts _ hw.2.2⟩ ⟨zP_blind _ _ _, hrecv, fun U hU hW => ⟨rfl, by rw [hU]; exact hR, hK.moved hW.alike⟩⟩ rfl hnp hl.1 hst (by show 2 * 0 + _ ≤ 8; omega) hd ⟨by omega, by omega⟩) hC hL hl kk
theorem go_callS {idx np n' C' S' : Nat} {M : zM} {As rest : List Value} {r : Option Value} {h1 : zH} (hd : decode (zb E) pc = .ok (.invokestatic idx, 3)) (hm : zMo M np)
    (hw : Cond.methodLink (zo E) idx M.1 ∈ zT ∧ Cond.static M.1 ∈ zT)
    (hcon : Con (zg E) (zl E) n' C' S' M As h r h1) (hst : st = As.reverse ++ rest) (hnp : As.length = np) (hn : n' + 1 ≤ zn E) (hcs : cs + C' ≤ zcc E) (hsl : sl + S' ≤ zcs E) (hrs : (rest.map fun v => v.category).sum ≤ 8)
    (kk : Go E (cs + C') (sl + S') (pc + 3) lv (r.toList ++ rest) h1) : Go E cs sl pc lv st h := by
  intro p e R s m args below meth c H locs ls hC hR hL hl
  have hts := hC.2.2.2.2.2.2.2.1
  have hrc := hC.2.2.2.2.2.2.2.2.2.2.2.2.1
  have hrl := hC.2.2.2.2.2.2.2.2.2.2.2.2.2
  have hK := hC.2.2.2.2.2.2.2.2.1
  refine zafter (va_runS (Ts := zT) (own := zo E) (As := As) (rest := rest) ⟨hC.1, hC.2.1, hC.2.2.2.2.1, hC.2.2.2.2.2.1, hts⟩ hcon ⟨zcallB hC hm hw.1 hn, hts _ hw.2⟩ ⟨zP_blind _ _ _, fun U hU hW => ⟨rfl, by rw [hU]; exact hR, hK.moved hW.alike⟩⟩ rfl hnp hl.1 hst (by show 2 * 0 + _ ≤ 8; omega) hd ⟨by omega, by omega⟩) hC hL hl kk
theorem go_callI {idx np n' C' S' b : Nat} {M : zM} {As rest : List Value} {r : Option Value} {h1 : zH} (hd : decode (zb E) pc = .ok (.invokespecial idx, 3)) (hm : zMo M np)
    (hw : Cond.methodLink (zo E) idx M.1 ∈ zT ∧ Cond.instanceMethod M.1 ∈ zT) (hi : M.1.name = "<init>" ∧ M.2.2.2 = none)
    (hcon : Con (zg E) (zl E) n' C' S' M (.ref b :: As) h r h1) (hst : st = As.reverse ++ .ref b :: rest) (hnp : As.length = np) (hn : n' + 1 ≤ zn E) (hcs : cs + C' ≤ zcc E) (hsl : sl + S' ≤ zcs E) (hrs : (rest.map fun v => v.category).sum ≤ 8)
    (kk : Go E (cs + C') (sl + S') (pc + 3) lv (r.toList ++ rest) h1) : Go E cs sl pc lv st h := by
  intro p e R s m args below meth c H locs ls hC hR hL hl
  have hts := hC.2.2.2.2.2.2.2.1
  have hrc := hC.2.2.2.2.2.2.2.2.2.2.2.2.1
  have hrl := hC.2.2.2.2.2.2.2.2.2.2.2.2.2
  have hK := hC.2.2.2.2.2.2.2.2.1
  have hB := zcallB (C' := C') (S' := S') hC hm hw.1 hn
  unfold Con at hcon
  rw [hi.2] at hB hcon
  refine zafter (va_runI (Ts := zT) (own := zo E) (As := As) (rest := rest) (b := b) ⟨hC.1, hC.2.1, hC.2.2.2.2.1, hC.2.2.2.2.2.1, hts⟩ hcon ⟨hB, hi.1, hts _ hw.2⟩ ⟨zP_blind _ _ _, fun U hU hW => ⟨rfl, by rw [hU]; exact hR, hK.moved hW.alike⟩⟩ rfl hnp hl.1 hst (by show 2 * 0 + _ ≤ 8; omega) hd ⟨by omega, by omega⟩) hC hL hl kk
theorem go_mmax {idx : Nat} {x y : Int32} (hd : decode (zb E) pc = .ok (.invokestatic idx, 3)) (hw : Cond.methodLink (zo E) idx Lib.Math.max.name ∈ zT ∧ Cond.static Lib.Math.max.name ∈ zT ∧ Cond.initialized "java/lang/Math" ∈ zT ∧ Cond.code Lib.Math.max.name Lib.Math.max.code 2 (some .int) ∈ zT) (hn : 1 ≤ zn E) (hcs : cs ≤ zcc E) (hsl : sl ≤ zcs E)
    (kk : Go E cs sl (pc + 3) lv [.int (if x < y then y else x)] h) : Go E cs sl pc lv [.int y, .int x] h := by
  intro p e R s m args below meth c H locs ls hC hR hL hl
  have hts := hC.2.2.2.2.2.2.2.1
  have hfr := hC.2.2.2.2.2.2.2.2.2.2.1
  have hlo := hC.2.2.2.2.2.2.2.2.2.2.2.1
  have hrc := hC.2.2.2.2.2.2.2.2.2.2.2.2.1
  have hrl := hC.2.2.2.2.2.2.2.2.2.2.2.2.2
  exact va_mmax hC.1 hC.2.1 (by rw [hC.2.2.2.2.1]; exact hl.1.symm) hC.2.2.2.2.2.1 (hts _ hw.1) (hts _ hw.2.1) (hts _ hw.2.2.1) (hts _ hw.2.2.2) (by omega) (by show 0 + 13 ≤ _; omega) (by omega) (by omega) hd (kk p e R s m args below meth c H locs ls hC hR hL hl)
end ZC
section ZF
variable {γ : zG} {l : Launch} {n C S cs sl pc : Nat} {M : zM} {lv : zLv} {h h' : zH} {r : Option Value}
theorem go_zret {v : Int32} {ty : FieldType} (hd : decode M.2.1 pc = .ok (.ireturn, 1)) (hty : M.2.2.2 = some ty) (hn : narrow ty (.int v) = .int v) (hr : r = some (.int v)) (hh : h' = h) (hcs : cs ≤ C) (hsl : sl ≤ S) : Go (γ, l, n, (C, S), M, zF γ C S r h') cs sl pc lv [.int v] h := by
  intro p e R s m args below meth c H locs ls hC hR hL hl
  subst hr; subst hh
  have hlocks := hC.2.2.2.1
  refine W.widen (k := C) (n := S) hcs hsl ?_
  exact W.zret (Qc := zQ γ (some (.int v)) h') (free := zA γ) hC.1 hC.2.1 (hC.2.2.1.trans hty) hn (fun t ht hW => ⟨rfl, by rw [ht]; exact hR⟩) hL hd hlocks
theorem go_iret {v : Int32} (hd : decode M.2.1 pc = .ok (.ireturn, 1)) (hty : M.2.2.2 = some .int) (hr : r = some (.int v)) (hh : h' = h) (hcs : cs ≤ C) (hsl : sl ≤ S) : Go (γ, l, n, (C, S), M, zF γ C S r h') cs sl pc lv [.int v] h := go_zret hd hty rfl hr hh hcs hsl
theorem go_vret (hd : decode M.2.1 pc = .ok (.return_, 1)) (hty : M.2.2.2 = none) (hr : r = none) (hh : h' = h) (hcs : cs ≤ C) (hsl : sl ≤ S) : Go (γ, l, n, (C, S), M, zF γ C S r h') cs sl pc lv [] h := by
  intro p e R s m args below meth c H locs ls hC hR hL hl
  subst hr; subst hh
  have hlocks := hC.2.2.2.1
  refine W.widen (k := C) (n := S) hcs hsl ?_
  exact W.vret (Qc := zQ γ none h') (free := zA γ) hC.1 hC.2.1 (hC.2.2.1.trans hty) (fun t ht hW => ⟨rfl, by rw [ht]; exact hR⟩) hL hd hlocks
end ZF
section ZV
variable {E : zE} {cs sl pc : Nat} {lv lv' : zLv} {st : List Value} {h h1 : zH}
theorem go_lv (hs : zsub lv 0 lv') (k : Go E cs sl pc lv' st h) : Go E cs sl pc lv st h := fun p e R s m args below meth c H locs ls hC hR hL hl => k p e R s m args below meth c H locs ls hC hR hL (hl.sub hs)
theorem go_h (he : h = h1) (k : Go E cs sl pc lv st h1) : Go E cs sl pc lv st h := he ▸ k
theorem go_at {pc' : Nat} {st' : List Value} (h1 : lv = lv') (h2 : st = st') (h3 : pc = pc') (k : Go E cs sl pc' lv' st' h) : Go E cs sl pc lv st h := by subst h1; subst h2; subst h3; exact k
theorem go_top {x : Int32} (k : ∀ y : Int32, y = x → Go E cs sl pc lv (.int y :: st) h) : Go E cs sl pc lv (.int x :: st) h := k x rfl
theorem go_widen {cs' sl' : Nat} (h1 : cs ≤ cs') (h2 : sl ≤ sl') (k : Go E cs' sl' pc lv st h) : Go E cs sl pc lv st h := fun p e R s m args below meth c H locs ls hC hR hL hl => W.widen h1 h2 (k p e R s m args below meth c H locs ls hC hR hL hl)
theorem go_copyi {idx a0 a n0 n1 j : Nat} {f g : Nat → Int32} {n : Int32} (hd : decode (zb E) pc = .ok (.invokestatic idx, 3)) (hw : Cond.methodLink (zo E) idx arraycopyName ∈ zT ∧ Cond.native arraycopyName ∈ zT ∧ Cond.static arraycopyName ∈ zT ∧ Cond.initialized "java/lang/System" ∈ zT)
    (hs : h.1 a0 = some (zai (zg E) n0 f)) (ht : h.1 a = some (zai (zg E) n1 g)) (hn : ¬ n < 0) (hj : n.toNatClampNeg = j) (h4 : j ≤ n0) (h5 : j ≤ n1) (hlev : 1 ≤ zn E) (hnw : nativeFrameWords "java/lang/System" "arraycopy" 5 ≤ 25)
    (kk : Go E cs sl (pc + 3) lv [] (zu h a (zai (zg E) n1 (va_cpy f g 0 0 j)))) : Go E cs sl pc lv [.int n, .int 0, .ref a, .int 0, .ref a0] h := by
  intro p e R s m args below meth c H locs ls hC hR hL hl
  subst hj
  have hts := hC.2.2.2.2.2.2.2.1
  have hfr := hC.2.2.2.2.2.2.2.2.2.2.1
  have hlo := hC.2.2.2.2.2.2.2.2.2.2.2.1
  have hK := hC.2.2.2.2.2.2.2.2.1.1
  have nn : ∀ z : Int32, ¬ z < 0 → z.toInt = (z.toNatClampNeg : Int) := by
    intro z hz
    have hz0 : (0 : Int) ≤ z.toInt := by
      have := Int32.not_lt.mp hz
      simpa using Int32.le_iff_toInt_le.mp this
    show z.toInt = ((z.toInt.toNat : Nat) : Int)
    omega
  have hz : ¬ (0 : Int32) < 0 := by decide
  have hzc : (0 : Int32).toNatClampNeg = 0 := by decide
  intro T hT X
  have hc0 : H[a0]? = some (vp_cell ((zg E).2.1 0) (n0, .inl f)) := (hR.2.2.1 a0 _ hs).2
  have hc1 : H[a]? = some (vp_cell ((zg E).2.1 0) (n1, .inl g)) := (hR.2.2.1 a _ ht).2
  obtain ⟨-, k0, hk0, cm0, hkk0⟩ := zty_i hK n0 (fun j => .int (f j))
  obtain ⟨-, k1, hk1, cm1, hkk1⟩ := zty_i hK n1 (fun j => .int (g j))
  obtain ⟨vm', X', step⟩ := X.arraycopy hC.1 hC.2.2.2.2.2.1 (hts _ hw.1) (hts _ hw.2.1) (hts _ hw.2.2.1) (hts _ hw.2.2.2) (src := a0) (dst := a) (cs := vp_cell ((zg E).2.1 0) (n0, .inl f)) (cd := vp_cell ((zg E).2.1 0) (n1, .inl g)) (srcPos := 0) (destPos := 0) (n := n) (by rw [hT]; exact hc0) (by rw [hT]; exact hc1)
    (fun _ h => by cases h) (fun _ h => by cases h) (fun h => by cases h) (fun h => by cases h) hk0 hk1 hkk0 hkk1 (by simp [refKind]) hz hz hn
    (by rw [nn 0 hz, nn n hn, hzc]; show ¬ _ > ((arrV _ n0 (fun j => .int (f j))).slots.size : Int); rw [arrV_size]; omega)
    (by rw [nn 0 hz, nn n hn, hzc]; show ¬ _ > ((arrV _ n1 (fun j => .int (g j))).slots.size : Int); rw [arrV_size]; omega)
    (fun vm₁ _ i hi => by
      have e : (vp_cell ((zg E).2.1 0) (n0, .inl f)).slots.getD ((0 : Int32).toNatClampNeg + i) .null = .int (f ((0 : Int32).toNatClampNeg + i)) := by
        show (arrV _ n0 (fun j => .int (f j))).slots.getD _ _ = _
        rw [Array.getD_eq_getD_getElem?, arrV_read _ _ (by omega)]
        rfl
      refine ⟨?_, ?_⟩
      · rw [e]
        rfl
      · rw [e]
        exact trivial)
    (g := F0 m pc ls [.int n, .int 0, .ref a, .int 0, .ref a0]) rfl (by rw [hC.2.2.2.2.1]; exact hl.1) (rest := []) rfl (by rw [hC.2.1]; exact hd) (by omega) (by show 2 * 0 + 0 + (nativeFrameWords "java/lang/System" "arraycopy" 5 + 11) ≤ _; omega)
  have e1 : copied (vp_cell ((zg E).2.1 0) (n0, .inl f)) (vp_cell ((zg E).2.1 0) (n1, .inl g)) 0 0 n = vp_cell ((zg E).2.1 0) (n1, .inl (va_cpy f g 0 0 n.toNatClampNeg)) := va_copied (sp := 0) (dp := 0) (fun z => .int z) _ _ f g (by omega)
  rw [e1] at X' step
  have hlt : a < H.size := (Array.getElem?_eq_some_iff.mp hc1).1
  have hheap : ((T.setVm vm').setCell a (vp_cell ((zg E).2.1 0) (n1, .inl (va_cpy f g 0 0 n.toNatClampNeg)))).heap = H.setIfInBounds a (vp_cell ((zg E).2.1 0) (n1, .inl (va_cpy f g 0 0 n.toNatClampNeg))) := by rw [← hT]; rfl
  have oq : ∀ q : Nat, q ≠ a → (H.setIfInBounds a (vp_cell ((zg E).2.1 0) (n1, .inl (va_cpy f g 0 0 n.toNatClampNeg))))[q]? = H[q]? := fun q hq => by simp [Array.getElem?_setIfInBounds, Ne.symm hq]
  have hR1 : zR (zg E) (zu h a (zai (zg E) n1 (va_cpy f g 0 0 n.toNatClampNeg))) (H.setIfInBounds a (vp_cell ((zg E).2.1 0) (n1, .inl (va_cpy f g 0 0 n.toNatClampNeg)))) := hR.put ht (show (H.setIfInBounds a _)[a]? = some _ by simp [Array.getElem?_setIfInBounds, hlt]) (by simp) oq
  obtain ⟨t, a1, b1⟩ := kk p e R s m args below meth c _ _ ls hC hR1 (zlocs hL (fun q hq => by
      obtain ⟨z, -, hz⟩ := List.mem_map.mp hq
      rw [← hz]
      exact (hR.2.2.1 a _ ht).1)) hl _ hheap X'
  exact ⟨t, step t a1, b1⟩
end ZV
end
