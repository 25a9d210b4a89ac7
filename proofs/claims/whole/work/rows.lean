section
-- ===== PART A: goes FIRST, ahead of the names: the tables' words, and 'selects' of the private methods out of them =====
/-- a private method of a class that the tables say can be made, by its rows of tables_1 -/
def lw_okq (q : MethodName × Nat) : Prop := (q.1.cls ≠ "java/lang/invoke/MethodHandle" ∧ q.1.cls ≠ "java/lang/invoke/VarHandle") ∧ Cond.instantiable q.1.cls q.2 ∈ tables_1 ∧ Cond.privateMethod q.1 ∈ tables_1 ∧ Cond.instanceMethod q.1 ∈ tables_1
theorem lw_p0 : lw_okq (⟨"PoeSwitch$State", "lastPoweredPort", "()I"⟩, 10) := ⟨⟨by decide +kernel, by decide +kernel⟩, List.mem_of_getElem? (i := 18) (by decide +kernel), List.mem_of_getElem? (i := 315) (by decide +kernel), List.mem_of_getElem? (i := 316) (by decide +kernel)⟩
theorem lw_p1 : lw_okq (⟨"PoeSwitch$State", "cutPorts", "()I"⟩, 10) := ⟨⟨by decide +kernel, by decide +kernel⟩, List.mem_of_getElem? (i := 18) (by decide +kernel), List.mem_of_getElem? (i := 328) (by decide +kernel), List.mem_of_getElem? (i := 329) (by decide +kernel)⟩
theorem lw_p2 : lw_okq (⟨"PoeSwitch$State", "coolDownExcept", "(I)V"⟩, 10) := ⟨⟨by decide +kernel, by decide +kernel⟩, List.mem_of_getElem? (i := 18) (by decide +kernel), List.mem_of_getElem? (i := 337) (by decide +kernel), List.mem_of_getElem? (i := 338) (by decide +kernel)⟩
theorem lw_p3 : lw_okq (⟨"PoeSwitch$State", "powerUp", "()I"⟩, 10) := ⟨⟨by decide +kernel, by decide +kernel⟩, List.mem_of_getElem? (i := 18) (by decide +kernel), List.mem_of_getElem? (i := 341) (by decide +kernel), List.mem_of_getElem? (i := 342) (by decide +kernel)⟩
theorem lw_p4 : lw_okq (⟨"PoeSwitch$State", "firstPortToPowerUp", "()I"⟩, 10) := ⟨⟨by decide +kernel, by decide +kernel⟩, List.mem_of_getElem? (i := 18) (by decide +kernel), List.mem_of_getElem? (i := 345) (by decide +kernel), List.mem_of_getElem? (i := 346) (by decide +kernel)⟩
theorem lw_p5 : lw_okq (⟨"PoeSwitch", "settlePlan", "()I"⟩, 3) := ⟨⟨by decide +kernel, by decide +kernel⟩, List.mem_of_getElem? (i := 10) (by decide +kernel), List.mem_of_getElem? (i := 417) (by decide +kernel), List.mem_of_getElem? (i := 418) (by decide +kernel)⟩
theorem lw_p6 : lw_okq (⟨"PoeSwitch$State", "portsAreCalm", "()Z"⟩, 10) := ⟨⟨by decide +kernel, by decide +kernel⟩, List.mem_of_getElem? (i := 18) (by decide +kernel), List.mem_of_getElem? (i := 425) (by decide +kernel), List.mem_of_getElem? (i := 426) (by decide +kernel)⟩
theorem lw_p7 : lw_okq (⟨"PoeSwitchModel", "set", "(II)I"⟩, 7) := ⟨⟨by decide +kernel, by decide +kernel⟩, List.mem_of_getElem? (i := 444) (by decide +kernel), List.mem_of_getElem? (i := 485) (by decide +kernel), List.mem_of_getElem? (i := 486) (by decide +kernel)⟩
theorem lw_p8 : lw_okq (⟨"PoeSwitchModel", "of", "(II)I"⟩, 7) := ⟨⟨by decide +kernel, by decide +kernel⟩, List.mem_of_getElem? (i := 444) (by decide +kernel), List.mem_of_getElem? (i := 518) (by decide +kernel), List.mem_of_getElem? (i := 519) (by decide +kernel)⟩
theorem lw_p9 : lw_okq (⟨"PoeSwitchModel", "losePower", "(I)V"⟩, 7) := ⟨⟨by decide +kernel, by decide +kernel⟩, List.mem_of_getElem? (i := 444) (by decide +kernel), List.mem_of_getElem? (i := 529) (by decide +kernel), List.mem_of_getElem? (i := 530) (by decide +kernel)⟩
theorem lw_p10 : lw_okq (⟨"PoeSwitchModel", "isConnected", "(I)Z"⟩, 7) := ⟨⟨by decide +kernel, by decide +kernel⟩, List.mem_of_getElem? (i := 444) (by decide +kernel), List.mem_of_getElem? (i := 541) (by decide +kernel), List.mem_of_getElem? (i := 542) (by decide +kernel)⟩
theorem lw_p11 : lw_okq (⟨"PoeSwitchModel", "isPowered", "(I)Z"⟩, 7) := ⟨⟨by decide +kernel, by decide +kernel⟩, List.mem_of_getElem? (i := 444) (by decide +kernel), List.mem_of_getElem? (i := 555) (by decide +kernel), List.mem_of_getElem? (i := 556) (by decide +kernel)⟩
theorem lw_p12 : lw_okq (⟨"PoeSwitchModel", "classOf", "(I)I"⟩, 7) := ⟨⟨by decide +kernel, by decide +kernel⟩, List.mem_of_getElem? (i := 444) (by decide +kernel), List.mem_of_getElem? (i := 567) (by decide +kernel), List.mem_of_getElem? (i := 568) (by decide +kernel)⟩
theorem lw_p13 : lw_okq (⟨"PoeSwitchModel", "isEligible", "(I)Z"⟩, 7) := ⟨⟨by decide +kernel, by decide +kernel⟩, List.mem_of_getElem? (i := 444) (by decide +kernel), List.mem_of_getElem? (i := 580) (by decide +kernel), List.mem_of_getElem? (i := 581) (by decide +kernel)⟩
theorem lw_p14 : lw_okq (⟨"PoeSwitchModel", "detects", "(I)Z"⟩, 7) := ⟨⟨by decide +kernel, by decide +kernel⟩, List.mem_of_getElem? (i := 444) (by decide +kernel), List.mem_of_getElem? (i := 584) (by decide +kernel), List.mem_of_getElem? (i := 585) (by decide +kernel)⟩
theorem lw_p15 : lw_okq (⟨"PoeSwitchModel", "told", "(II)I"⟩, 7) := ⟨⟨by decide +kernel, by decide +kernel⟩, List.mem_of_getElem? (i := 444) (by decide +kernel), List.mem_of_getElem? (i := 596) (by decide +kernel), List.mem_of_getElem? (i := 597) (by decide +kernel)⟩
def lw_privs_1 : List (MethodName × Nat) := [(⟨"PoeSwitch$State", "lastPoweredPort", "()I"⟩, 10), (⟨"PoeSwitch$State", "cutPorts", "()I"⟩, 10), (⟨"PoeSwitch$State", "coolDownExcept", "(I)V"⟩, 10), (⟨"PoeSwitch$State", "powerUp", "()I"⟩, 10), (⟨"PoeSwitch$State", "firstPortToPowerUp", "()I"⟩, 10), (⟨"PoeSwitch", "settlePlan", "()I"⟩, 3), (⟨"PoeSwitch$State", "portsAreCalm", "()Z"⟩, 10), (⟨"PoeSwitchModel", "set", "(II)I"⟩, 7), (⟨"PoeSwitchModel", "of", "(II)I"⟩, 7), (⟨"PoeSwitchModel", "losePower", "(I)V"⟩, 7), (⟨"PoeSwitchModel", "isConnected", "(I)Z"⟩, 7), (⟨"PoeSwitchModel", "isPowered", "(I)Z"⟩, 7), (⟨"PoeSwitchModel", "classOf", "(I)I"⟩, 7), (⟨"PoeSwitchModel", "isEligible", "(I)Z"⟩, 7), (⟨"PoeSwitchModel", "detects", "(I)Z"⟩, 7), (⟨"PoeSwitchModel", "told", "(II)I"⟩, 7)]
theorem lw_r1 : ∀ q ∈ lw_privs_1, lw_okq q := List.forall_mem_cons.mpr ⟨lw_p0, List.forall_mem_cons.mpr ⟨lw_p1, List.forall_mem_cons.mpr ⟨lw_p2, List.forall_mem_cons.mpr ⟨lw_p3, List.forall_mem_cons.mpr ⟨lw_p4, List.forall_mem_cons.mpr ⟨lw_p5, List.forall_mem_cons.mpr ⟨lw_p6, List.forall_mem_cons.mpr ⟨lw_p7, List.forall_mem_cons.mpr ⟨lw_p8, List.forall_mem_cons.mpr ⟨lw_p9, List.forall_mem_cons.mpr ⟨lw_p10, List.forall_mem_cons.mpr ⟨lw_p11, List.forall_mem_cons.mpr ⟨lw_p12, List.forall_mem_cons.mpr ⟨lw_p13, List.forall_mem_cons.mpr ⟨lw_p14, List.forall_mem_cons.mpr ⟨lw_p15, fun _ h => absurd h List.not_mem_nil⟩⟩⟩⟩⟩⟩⟩⟩⟩⟩⟩⟩⟩⟩⟩⟩
theorem lw_p16 : lw_okq (⟨"PoeSwitchModel", "second", "()V"⟩, 7) := ⟨⟨by decide +kernel, by decide +kernel⟩, List.mem_of_getElem? (i := 444) (by decide +kernel), List.mem_of_getElem? (i := 612) (by decide +kernel), List.mem_of_getElem? (i := 613) (by decide +kernel)⟩
theorem lw_p17 : lw_okq (⟨"PoeSwitchModel", "shedAll", "()I"⟩, 7) := ⟨⟨by decide +kernel, by decide +kernel⟩, List.mem_of_getElem? (i := 444) (by decide +kernel), List.mem_of_getElem? (i := 616) (by decide +kernel), List.mem_of_getElem? (i := 617) (by decide +kernel)⟩
theorem lw_p18 : lw_okq (⟨"PoeSwitchModel", "inOrder", "(I)I"⟩, 7) := ⟨⟨by decide +kernel, by decide +kernel⟩, List.mem_of_getElem? (i := 444) (by decide +kernel), List.mem_of_getElem? (i := 620) (by decide +kernel), List.mem_of_getElem? (i := 621) (by decide +kernel)⟩
theorem lw_p19 : lw_okq (⟨"PoeSwitchModel", "addEvent", "(II)V"⟩, 7) := ⟨⟨by decide +kernel, by decide +kernel⟩, List.mem_of_getElem? (i := 444) (by decide +kernel), List.mem_of_getElem? (i := 624) (by decide +kernel), List.mem_of_getElem? (i := 625) (by decide +kernel)⟩
theorem lw_p20 : lw_okq (⟨"PoeSwitchModel", "isCut", "(I)Z"⟩, 7) := ⟨⟨by decide +kernel, by decide +kernel⟩, List.mem_of_getElem? (i := 444) (by decide +kernel), List.mem_of_getElem? (i := 628) (by decide +kernel), List.mem_of_getElem? (i := 629) (by decide +kernel)⟩
theorem lw_p21 : lw_okq (⟨"PoeSwitchModel", "checkOverload", "(I)V"⟩, 7) := ⟨⟨by decide +kernel, by decide +kernel⟩, List.mem_of_getElem? (i := 444) (by decide +kernel), List.mem_of_getElem? (i := 632) (by decide +kernel), List.mem_of_getElem? (i := 633) (by decide +kernel)⟩
theorem lw_p22 : lw_okq (⟨"PoeSwitchModel", "powerUp", "()V"⟩, 7) := ⟨⟨by decide +kernel, by decide +kernel⟩, List.mem_of_getElem? (i := 444) (by decide +kernel), List.mem_of_getElem? (i := 636) (by decide +kernel), List.mem_of_getElem? (i := 637) (by decide +kernel)⟩
theorem lw_p23 : lw_okq (⟨"PoeSwitchModel", "ofEvent", "(II)I"⟩, 7) := ⟨⟨by decide +kernel, by decide +kernel⟩, List.mem_of_getElem? (i := 444) (by decide +kernel), List.mem_of_getElem? (i := 652) (by decide +kernel), List.mem_of_getElem? (i := 653) (by decide +kernel)⟩
theorem lw_p24 : lw_okq (⟨"PoeSwitchModel", "keep", "()V"⟩, 7) := ⟨⟨by decide +kernel, by decide +kernel⟩, List.mem_of_getElem? (i := 444) (by decide +kernel), List.mem_of_getElem? (i := 668) (by decide +kernel), List.mem_of_getElem? (i := 669) (by decide +kernel)⟩
theorem lw_p25 : lw_okq (⟨"PoeSwitchModel", "putBack", "()V"⟩, 7) := ⟨⟨by decide +kernel, by decide +kernel⟩, List.mem_of_getElem? (i := 444) (by decide +kernel), List.mem_of_getElem? (i := 672) (by decide +kernel), List.mem_of_getElem? (i := 673) (by decide +kernel)⟩
theorem lw_p26 : lw_okq (⟨"PoeSwitchModel", "findStable", "()I"⟩, 7) := ⟨⟨by decide +kernel, by decide +kernel⟩, List.mem_of_getElem? (i := 444) (by decide +kernel), List.mem_of_getElem? (i := 684) (by decide +kernel), List.mem_of_getElem? (i := 685) (by decide +kernel)⟩
theorem lw_p27 : lw_okq (⟨"PoeSwitchModel", "isStableSecond", "()Z"⟩, 7) := ⟨⟨by decide +kernel, by decide +kernel⟩, List.mem_of_getElem? (i := 444) (by decide +kernel), List.mem_of_getElem? (i := 689) (by decide +kernel), List.mem_of_getElem? (i := 690) (by decide +kernel)⟩
def lw_privs_2 : List (MethodName × Nat) := [(⟨"PoeSwitchModel", "second", "()V"⟩, 7), (⟨"PoeSwitchModel", "shedAll", "()I"⟩, 7), (⟨"PoeSwitchModel", "inOrder", "(I)I"⟩, 7), (⟨"PoeSwitchModel", "addEvent", "(II)V"⟩, 7), (⟨"PoeSwitchModel", "isCut", "(I)Z"⟩, 7), (⟨"PoeSwitchModel", "checkOverload", "(I)V"⟩, 7), (⟨"PoeSwitchModel", "powerUp", "()V"⟩, 7), (⟨"PoeSwitchModel", "ofEvent", "(II)I"⟩, 7), (⟨"PoeSwitchModel", "keep", "()V"⟩, 7), (⟨"PoeSwitchModel", "putBack", "()V"⟩, 7), (⟨"PoeSwitchModel", "findStable", "()I"⟩, 7), (⟨"PoeSwitchModel", "isStableSecond", "()Z"⟩, 7)]
theorem lw_r2 : ∀ q ∈ lw_privs_2, lw_okq q := List.forall_mem_cons.mpr ⟨lw_p16, List.forall_mem_cons.mpr ⟨lw_p17, List.forall_mem_cons.mpr ⟨lw_p18, List.forall_mem_cons.mpr ⟨lw_p19, List.forall_mem_cons.mpr ⟨lw_p20, List.forall_mem_cons.mpr ⟨lw_p21, List.forall_mem_cons.mpr ⟨lw_p22, List.forall_mem_cons.mpr ⟨lw_p23, List.forall_mem_cons.mpr ⟨lw_p24, List.forall_mem_cons.mpr ⟨lw_p25, List.forall_mem_cons.mpr ⟨lw_p26, List.forall_mem_cons.mpr ⟨lw_p27, fun _ h => absurd h List.not_mem_nil⟩⟩⟩⟩⟩⟩⟩⟩⟩⟩⟩⟩
def lw_privs : List (MethodName × Nat) := lw_privs_1 ++ (lw_privs_2)
def lw_tbl : List Cond := k2_sels lw_privs ++ tables_1
theorem lw_privs_ok : ∀ q ∈ lw_privs, lw_okq q := by
  show ∀ q ∈ lw_privs_1 ++ (lw_privs_2), lw_okq q
  exact List.forall_mem_append.mpr ⟨lw_r1, lw_r2⟩
end
section
def RX0 : String := "PoeSwitch$EventLog"
def TX0 : u_T := fun k => match k with
  | 0 => ("PoeSwitch$EventLog", "times", "[I", true)
  | 1 => ("PoeSwitch$EventLog", "ports", "[I", true)
  | 2 => ("PoeSwitch$EventLog", "kinds", "[I", true)
  | 3 => ("PoeSwitch$EventLog", "oldest", "I", false)
  | _ => ("PoeSwitch$EventLog", "count", "I", false)
def tyX0 : Nat → FieldType := fun k => match k with
  | 0 => .array .int
  | 1 => .array .int
  | 2 => .array .int
  | 3 => .int
  | _ => .int
abbrev wsX00 : List Cond := u_ws RX0 TX0 5
theorem nmX0 : ∀ a, a < 5 → ∀ b, b < 5 → a ≠ b → (TX0 a).2.1 ≠ (TX0 b).2.1 := by decide +kernel
theorem tyX0_ok : ∀ k, k < 5 → parseFieldDescriptor (TX0 k).2.2.1 = some (tyX0 k) := by decide +kernel
abbrev cX0_init : ByteArray := prog_2_method_1_code
def yX0_init : MethodName := ⟨RX0, "<init>", "()V"⟩
abbrev cX0_holds : ByteArray := prog_2_method_2_code
def yX0_holds : MethodName := ⟨RX0, "holds", "(I)Z"⟩
abbrev cX0_placeOf : ByteArray := prog_2_method_3_code
def yX0_placeOf : MethodName := ⟨RX0, "placeOf", "(I)I"⟩
abbrev cX0_add : ByteArray := prog_2_method_4_code
def yX0_add : MethodName := ⟨RX0, "add", "(III)V"⟩
abbrev cX0_copyFrom : ByteArray := prog_2_method_5_code
def yX0_copyFrom : MethodName := ⟨RX0, "copyFrom", "(LPoeSwitch$EventLog;)V"⟩
def RX1 : String := "PoeSwitch$Port"
def TX1 : u_T := fun k => match k with
  | 0 => ("PoeSwitch$Port", "enabled", "Z", false)
  | 1 => ("PoeSwitch$Port", "priority", "I", false)
  | 2 => ("PoeSwitch$Port", "connected", "Z", false)
  | 3 => ("PoeSwitch$Port", "detected", "Z", false)
  | 4 => ("PoeSwitch$Port", "deviceClass", "I", false)
  | 5 => ("PoeSwitch$Port", "load", "I", false)
  | 6 => ("PoeSwitch$Port", "request", "I", false)
  | 7 => ("PoeSwitch$Port", "grant", "I", false)
  | 8 => ("PoeSwitch$Port", "overload", "I", false)
  | _ => ("PoeSwitch$Port", "cooldown", "I", false)
def tyX1 : Nat → FieldType := fun k => match k with
  | 0 => .boolean
  | 1 => .int
  | 2 => .boolean
  | 3 => .boolean
  | 4 => .int
  | 5 => .int
  | 6 => .int
  | 7 => .int
  | 8 => .int
  | _ => .int
abbrev wsX10 : List Cond := u_ws RX1 TX1 10
theorem nmX1 : ∀ a, a < 10 → ∀ b, b < 10 → a ≠ b → (TX1 a).2.1 ≠ (TX1 b).2.1 := by decide +kernel
theorem tyX1_ok : ∀ k, k < 10 → parseFieldDescriptor (TX1 k).2.2.1 = some (tyX1 k) := by decide +kernel
abbrev cX1_init : ByteArray := prog_3_method_1_code
def yX1_init : MethodName := ⟨RX1, "<init>", "()V"⟩
abbrev cX1_isPowered : ByteArray := prog_3_method_2_code
def yX1_isPowered : MethodName := ⟨RX1, "isPowered", "()Z"⟩
abbrev cX1_isOverloaded : ByteArray := prog_3_method_3_code
def yX1_isOverloaded : MethodName := ⟨RX1, "isOverloaded", "()Z"⟩
abbrev cX1_hasRequest : ByteArray := prog_3_method_4_code
def yX1_hasRequest : MethodName := ⟨RX1, "hasRequest", "()Z"⟩
abbrev cX1_isEligible : ByteArray := prog_3_method_5_code
def yX1_isEligible : MethodName := ⟨RX1, "isEligible", "()Z"⟩
abbrev cX1_canPowerUp : ByteArray := prog_3_method_6_code
def yX1_canPowerUp : MethodName := ⟨RX1, "canPowerUp", "(I)Z"⟩
abbrev cX1_losePower : ByteArray := prog_3_method_7_code
def yX1_losePower : MethodName := ⟨RX1, "losePower", "()V"⟩
abbrev cX1_reset : ByteArray := prog_3_method_8_code
def yX1_reset : MethodName := ⟨RX1, "reset", "()V"⟩
abbrev cX1_copyFrom : ByteArray := prog_3_method_9_code
def yX1_copyFrom : MethodName := ⟨RX1, "copyFrom", "(LPoeSwitch$Port;)V"⟩
def RX2 : String := "PoeSwitch$State"
def TX2 : u_T := fun k => match k with
  | 0 => ("PoeSwitch$State", "capacities", "[I", true)
  | 1 => ("PoeSwitch$State", "works", "[Z", true)
  | 2 => ("PoeSwitch$State", "ports", "[LPoeSwitch$Port;", true)
  | 3 => ("PoeSwitch$State", "log", "LPoeSwitch$EventLog;", true)
  | 4 => ("PoeSwitch$State", "reserve", "I", false)
  | 5 => ("PoeSwitch$State", "restartGap", "I", false)
  | 6 => ("PoeSwitch$State", "overloadLimit", "I", false)
  | 7 => ("PoeSwitch$State", "cooldownTime", "I", false)
  | 8 => ("PoeSwitch$State", "restartTimer", "I", false)
  | _ => ("PoeSwitch$State", "time", "I", false)
def tyX2 : Nat → FieldType := fun k => match k with
  | 0 => .array .int
  | 1 => .array .boolean
  | 2 => .array (.object "PoeSwitch$Port")
  | 3 => .object "PoeSwitch$EventLog"
  | 4 => .int
  | 5 => .int
  | 6 => .int
  | 7 => .int
  | 8 => .int
  | _ => .int
abbrev wsX20 : List Cond := u_ws RX2 TX2 10
theorem nmX2 : ∀ a, a < 10 → ∀ b, b < 10 → a ≠ b → (TX2 a).2.1 ≠ (TX2 b).2.1 := by decide +kernel
theorem tyX2_ok : ∀ k, k < 10 → parseFieldDescriptor (TX2 k).2.2.1 = some (tyX2 k) := by decide +kernel
abbrev cX2_init : ByteArray := prog_4_method_1_code
def yX2_init : MethodName := ⟨RX2, "<init>", "()V"⟩
abbrev cX2_copyFrom : ByteArray := prog_4_method_2_code
def yX2_copyFrom : MethodName := ⟨RX2, "copyFrom", "(LPoeSwitch$State;)V"⟩
abbrev cX2_wholeBudget : ByteArray := prog_4_method_3_code
def yX2_wholeBudget : MethodName := ⟨RX2, "wholeBudget", "()I"⟩
abbrev cX2_sparePower : ByteArray := prog_4_method_4_code
def yX2_sparePower : MethodName := ⟨RX2, "sparePower", "()I"⟩
abbrev cX2_eligibleSet : ByteArray := prog_4_method_5_code
def yX2_eligibleSet : MethodName := ⟨RX2, "eligibleSet", "()I"⟩
abbrev cX2_poweredSet : ByteArray := prog_4_method_6_code
def yX2_poweredSet : MethodName := ⟨RX2, "poweredSet", "()I"⟩
abbrev cX2_fittingSet : ByteArray := prog_4_method_7_code
def yX2_fittingSet : MethodName := ⟨RX2, "fittingSet", "()I"⟩
abbrev cX2_runSecond : ByteArray := prog_4_method_8_code
def yX2_runSecond : MethodName := ⟨RX2, "runSecond", "()I"⟩
abbrev cX2_shedPorts : ByteArray := prog_4_method_9_code
def yX2_shedPorts : MethodName := ⟨RX2, "shedPorts", "()I"⟩
abbrev cX2_lastPoweredPort : ByteArray := prog_4_method_10_code
def yX2_lastPoweredPort : MethodName := ⟨RX2, "lastPoweredPort", "()I"⟩
abbrev cX2_cutPorts : ByteArray := prog_4_method_11_code
def yX2_cutPorts : MethodName := ⟨RX2, "cutPorts", "()I"⟩
abbrev cX2_coolDownExcept : ByteArray := prog_4_method_12_code
def yX2_coolDownExcept : MethodName := ⟨RX2, "coolDownExcept", "(I)V"⟩
abbrev cX2_powerUp : ByteArray := prog_4_method_13_code
def yX2_powerUp : MethodName := ⟨RX2, "powerUp", "()I"⟩
abbrev cX2_firstPortToPowerUp : ByteArray := prog_4_method_14_code
def yX2_firstPortToPowerUp : MethodName := ⟨RX2, "firstPortToPowerUp", "()I"⟩
abbrev cX2_isStable : ByteArray := prog_4_method_15_code
def yX2_isStable : MethodName := ⟨RX2, "isStable", "()Z"⟩
abbrev cX2_portsAreCalm : ByteArray := prog_4_method_16_code
def yX2_portsAreCalm : MethodName := ⟨RX2, "portsAreCalm", "()Z"⟩
def RX3 : String := "PoeSwitch"
def TX3 : u_T := fun k => match k with
  | 0 => ("PoeSwitch", "state", "LPoeSwitch$State;", true)
  | 1 => ("PoeSwitch", "plan", "LPoeSwitch$State;", true)
  | _ => ("PoeSwitch", "snapshots", "[LPoeSwitch$State;", true)
def tyX3 : Nat → FieldType := fun k => match k with
  | 0 => .object "PoeSwitch$State"
  | 1 => .object "PoeSwitch$State"
  | _ => .array (.object "PoeSwitch$State")
abbrev wsX30 : List Cond := u_ws RX3 TX3 3
theorem nmX3 : ∀ a, a < 3 → ∀ b, b < 3 → a ≠ b → (TX3 a).2.1 ≠ (TX3 b).2.1 := by decide +kernel
theorem tyX3_ok : ∀ k, k < 3 → parseFieldDescriptor (TX3 k).2.2.1 = some (tyX3 k) := by decide +kernel
abbrev cX3_init : ByteArray := prog_1_method_1_code
def yX3_init : MethodName := ⟨RX3, "<init>", "()V"⟩
abbrev cX3_setCapacity : ByteArray := prog_1_method_2_code
def yX3_setCapacity : MethodName := ⟨RX3, "setCapacity", "(II)I"⟩
abbrev cX3_setWorking : ByteArray := prog_1_method_3_code
def yX3_setWorking : MethodName := ⟨RX3, "setWorking", "(IZ)I"⟩
abbrev cX3_setReserve : ByteArray := prog_1_method_4_code
def yX3_setReserve : MethodName := ⟨RX3, "setReserve", "(I)I"⟩
abbrev cX3_setRestartGap : ByteArray := prog_1_method_5_code
def yX3_setRestartGap : MethodName := ⟨RX3, "setRestartGap", "(I)I"⟩
abbrev cX3_setOverloadLimit : ByteArray := prog_1_method_6_code
def yX3_setOverloadLimit : MethodName := ⟨RX3, "setOverloadLimit", "(I)I"⟩
abbrev cX3_setCooldownTime : ByteArray := prog_1_method_7_code
def yX3_setCooldownTime : MethodName := ⟨RX3, "setCooldownTime", "(I)I"⟩
abbrev cX3_budget : ByteArray := prog_1_method_8_code
def yX3_budget : MethodName := ⟨RX3, "budget", "()I"⟩
abbrev cX3_available : ByteArray := prog_1_method_9_code
def yX3_available : MethodName := ⟨RX3, "available", "()I"⟩
abbrev cX3_setEnabled : ByteArray := prog_1_method_10_code
def yX3_setEnabled : MethodName := ⟨RX3, "setEnabled", "(IZ)I"⟩
abbrev cX3_setPriority : ByteArray := prog_1_method_11_code
def yX3_setPriority : MethodName := ⟨RX3, "setPriority", "(II)I"⟩
abbrev cX3_connect : ByteArray := prog_1_method_12_code
def yX3_connect : MethodName := ⟨RX3, "connect", "(IIIII)I"⟩
abbrev cX3_disconnect : ByteArray := prog_1_method_13_code
def yX3_disconnect : MethodName := ⟨RX3, "disconnect", "(I)I"⟩
abbrev cX3_setLoad : ByteArray := prog_1_method_14_code
def yX3_setLoad : MethodName := ⟨RX3, "setLoad", "(II)I"⟩
abbrev cX3_setRequest : ByteArray := prog_1_method_15_code
def yX3_setRequest : MethodName := ⟨RX3, "setRequest", "(II)I"⟩
abbrev cX3_request : ByteArray := prog_1_method_16_code
def yX3_request : MethodName := ⟨RX3, "request", "(I)I"⟩
abbrev cX3_eligiblePorts : ByteArray := prog_1_method_17_code
def yX3_eligiblePorts : MethodName := ⟨RX3, "eligiblePorts", "()I"⟩
abbrev cX3_poweredPorts : ByteArray := prog_1_method_18_code
def yX3_poweredPorts : MethodName := ⟨RX3, "poweredPorts", "()I"⟩
abbrev cX3_grant : ByteArray := prog_1_method_19_code
def yX3_grant : MethodName := ⟨RX3, "grant", "(I)I"⟩
abbrev cX3_overload : ByteArray := prog_1_method_20_code
def yX3_overload : MethodName := ⟨RX3, "overload", "(I)I"⟩
abbrev cX3_cooldown : ByteArray := prog_1_method_21_code
def yX3_cooldown : MethodName := ⟨RX3, "cooldown", "(I)I"⟩
abbrev cX3_advance : ByteArray := prog_1_method_22_code
def yX3_advance : MethodName := ⟨RX3, "advance", "(I)I"⟩
abbrev cX3_clock : ByteArray := prog_1_method_23_code
def yX3_clock : MethodName := ⟨RX3, "clock", "()I"⟩
abbrev cX3_eventCount : ByteArray := prog_1_method_24_code
def yX3_eventCount : MethodName := ⟨RX3, "eventCount", "()I"⟩
abbrev cX3_eventTime : ByteArray := prog_1_method_25_code
def yX3_eventTime : MethodName := ⟨RX3, "eventTime", "(I)I"⟩
abbrev cX3_eventPort : ByteArray := prog_1_method_26_code
def yX3_eventPort : MethodName := ⟨RX3, "eventPort", "(I)I"⟩
abbrev cX3_eventKind : ByteArray := prog_1_method_27_code
def yX3_eventKind : MethodName := ⟨RX3, "eventKind", "(I)I"⟩
abbrev cX3_shedIfFails : ByteArray := prog_1_method_28_code
def yX3_shedIfFails : MethodName := ⟨RX3, "shedIfFails", "(I)I"⟩
abbrev cX3_fittingPorts : ByteArray := prog_1_method_29_code
def yX3_fittingPorts : MethodName := ⟨RX3, "fittingPorts", "()I"⟩
abbrev cX3_secondsToStable : ByteArray := prog_1_method_30_code
def yX3_secondsToStable : MethodName := ⟨RX3, "secondsToStable", "()I"⟩
abbrev cX3_stablePorts : ByteArray := prog_1_method_31_code
def yX3_stablePorts : MethodName := ⟨RX3, "stablePorts", "()I"⟩
abbrev cX3_save : ByteArray := prog_1_method_32_code
def yX3_save : MethodName := ⟨RX3, "save", "(I)I"⟩
abbrev cX3_restore : ByteArray := prog_1_method_33_code
def yX3_restore : MethodName := ⟨RX3, "restore", "(I)I"⟩
abbrev cX3_settlePlan : ByteArray := prog_1_method_34_code
def yX3_settlePlan : MethodName := ⟨RX3, "settlePlan", "()I"⟩
abbrev cX3_isPort : ByteArray := prog_1_method_35_code
def yX3_isPort : MethodName := ⟨RX3, "isPort", "(I)Z"⟩
abbrev cX3_isSupply : ByteArray := prog_1_method_36_code
def yX3_isSupply : MethodName := ⟨RX3, "isSupply", "(I)Z"⟩
abbrev cX3_isSlot : ByteArray := prog_1_method_37_code
def yX3_isSlot : MethodName := ⟨RX3, "isSlot", "(I)Z"⟩
abbrev cX3_isWithin : ByteArray := prog_1_method_38_code
def yX3_isWithin : MethodName := ⟨RX3, "isWithin", "(III)Z"⟩
abbrev cX3_isDetected : ByteArray := prog_1_method_39_code
def yX3_isDetected : MethodName := ⟨RX3, "isDetected", "(II)Z"⟩
abbrev cX3_classOf : ByteArray := prog_1_method_40_code
def yX3_classOf : MethodName := ⟨RX3, "classOf", "(I)I"⟩
abbrev cX3_maximumOf : ByteArray := prog_1_method_41_code
def yX3_maximumOf : MethodName := ⟨RX3, "maximumOf", "(I)I"⟩
def RX4 : String := "PoeSwitchModel"
def TX4 : u_T := fun k => match k with
  | 0 => ("PoeSwitchModel", "state", "[I", true)
  | 1 => ("PoeSwitchModel", "before", "[I", true)
  | 2 => ("PoeSwitchModel", "slots", "[I", true)
  | 3 => ("PoeSwitchModel", "isSaved", "[Z", true)
  | 4 => ("PoeSwitchModel", "occurred", "I", false)
  | 5 => ("PoeSwitchModel", "ahead", "[I", true)
  | _ => ("PoeSwitchModel", "stableSet", "I", false)
def tyX4 : Nat → FieldType := fun k => match k with
  | 0 => .array .int
  | 1 => .array .int
  | 2 => .array .int
  | 3 => .array .boolean
  | 4 => .int
  | 5 => .array .int
  | _ => .int
abbrev wsX40 : List Cond := u_ws RX4 TX4 7
theorem nmX4 : ∀ a, a < 7 → ∀ b, b < 7 → a ≠ b → (TX4 a).2.1 ≠ (TX4 b).2.1 := by decide +kernel
theorem tyX4_ok : ∀ k, k < 7 → parseFieldDescriptor (TX4 k).2.2.1 = some (tyX4 k) := by decide +kernel
abbrev cX4_init : ByteArray := prog_6_method_1_code
def yX4_init : MethodName := ⟨RX4, "<init>", "()V"⟩
abbrev cX4_in : ByteArray := prog_6_method_2_code
def yX4_in : MethodName := ⟨RX4, "in", "(III)Z"⟩
abbrev cX4_isPort : ByteArray := prog_6_method_3_code
def yX4_isPort : MethodName := ⟨RX4, "isPort", "(I)Z"⟩
abbrev cX4_isSupply : ByteArray := prog_6_method_4_code
def yX4_isSupply : MethodName := ⟨RX4, "isSupply", "(I)Z"⟩
abbrev cX4_at : ByteArray := prog_6_method_5_code
def yX4_at : MethodName := ⟨RX4, "at", "(II)I"⟩
abbrev cX4_of : ByteArray := prog_6_method_6_code
def yX4_of : MethodName := ⟨RX4, "of", "(II)I"⟩
abbrev cX4_set : ByteArray := prog_6_method_7_code
def yX4_set : MethodName := ⟨RX4, "set", "(II)I"⟩
abbrev cX4_setCapacity : ByteArray := prog_6_method_8_code
def yX4_setCapacity : MethodName := ⟨RX4, "setCapacity", "(II)I"⟩
abbrev cX4_setWorking : ByteArray := prog_6_method_9_code
def yX4_setWorking : MethodName := ⟨RX4, "setWorking", "(IZ)I"⟩
abbrev cX4_setReserve : ByteArray := prog_6_method_10_code
def yX4_setReserve : MethodName := ⟨RX4, "setReserve", "(I)I"⟩
abbrev cX4_setRestartGap : ByteArray := prog_6_method_11_code
def yX4_setRestartGap : MethodName := ⟨RX4, "setRestartGap", "(I)I"⟩
abbrev cX4_setOverloadLimit : ByteArray := prog_6_method_12_code
def yX4_setOverloadLimit : MethodName := ⟨RX4, "setOverloadLimit", "(I)I"⟩
abbrev cX4_setCooldownTime : ByteArray := prog_6_method_13_code
def yX4_setCooldownTime : MethodName := ⟨RX4, "setCooldownTime", "(I)I"⟩
abbrev cX4_budget : ByteArray := prog_6_method_14_code
def yX4_budget : MethodName := ⟨RX4, "budget", "()I"⟩
abbrev cX4_available : ByteArray := prog_6_method_15_code
def yX4_available : MethodName := ⟨RX4, "available", "()I"⟩
abbrev cX4_losePower : ByteArray := prog_6_method_16_code
def yX4_losePower : MethodName := ⟨RX4, "losePower", "(I)V"⟩
abbrev cX4_isPowered : ByteArray := prog_6_method_17_code
def yX4_isPowered : MethodName := ⟨RX4, "isPowered", "(I)Z"⟩
abbrev cX4_setEnabled : ByteArray := prog_6_method_18_code
def yX4_setEnabled : MethodName := ⟨RX4, "setEnabled", "(IZ)I"⟩
abbrev cX4_setPriority : ByteArray := prog_6_method_19_code
def yX4_setPriority : MethodName := ⟨RX4, "setPriority", "(II)I"⟩
abbrev cX4_classBy : ByteArray := prog_6_method_20_code
def yX4_classBy : MethodName := ⟨RX4, "classBy", "(I)I"⟩
abbrev cX4_maximumOf : ByteArray := prog_6_method_21_code
def yX4_maximumOf : MethodName := ⟨RX4, "maximumOf", "(I)I"⟩
abbrev cX4_isConnected : ByteArray := prog_6_method_22_code
def yX4_isConnected : MethodName := ⟨RX4, "isConnected", "(I)Z"⟩
abbrev cX4_classOf : ByteArray := prog_6_method_23_code
def yX4_classOf : MethodName := ⟨RX4, "classOf", "(I)I"⟩
abbrev cX4_connect : ByteArray := prog_6_method_24_code
def yX4_connect : MethodName := ⟨RX4, "connect", "(IIIII)I"⟩
abbrev cX4_disconnect : ByteArray := prog_6_method_25_code
def yX4_disconnect : MethodName := ⟨RX4, "disconnect", "(I)I"⟩
abbrev cX4_setLoad : ByteArray := prog_6_method_26_code
def yX4_setLoad : MethodName := ⟨RX4, "setLoad", "(II)I"⟩
abbrev cX4_setRequest : ByteArray := prog_6_method_27_code
def yX4_setRequest : MethodName := ⟨RX4, "setRequest", "(II)I"⟩
abbrev cX4_detects : ByteArray := prog_6_method_28_code
def yX4_detects : MethodName := ⟨RX4, "detects", "(I)Z"⟩
abbrev cX4_request : ByteArray := prog_6_method_29_code
def yX4_request : MethodName := ⟨RX4, "request", "(I)I"⟩
abbrev cX4_isEligible : ByteArray := prog_6_method_30_code
def yX4_isEligible : MethodName := ⟨RX4, "isEligible", "(I)Z"⟩
abbrev cX4_eligiblePorts : ByteArray := prog_6_method_31_code
def yX4_eligiblePorts : MethodName := ⟨RX4, "eligiblePorts", "()I"⟩
abbrev cX4_poweredPorts : ByteArray := prog_6_method_32_code
def yX4_poweredPorts : MethodName := ⟨RX4, "poweredPorts", "()I"⟩
abbrev cX4_told : ByteArray := prog_6_method_33_code
def yX4_told : MethodName := ⟨RX4, "told", "(II)I"⟩
abbrev cX4_grant : ByteArray := prog_6_method_34_code
def yX4_grant : MethodName := ⟨RX4, "grant", "(I)I"⟩
abbrev cX4_overload : ByteArray := prog_6_method_35_code
def yX4_overload : MethodName := ⟨RX4, "overload", "(I)I"⟩
abbrev cX4_cooldown : ByteArray := prog_6_method_36_code
def yX4_cooldown : MethodName := ⟨RX4, "cooldown", "(I)I"⟩
abbrev cX4_addEvent : ByteArray := prog_6_method_37_code
def yX4_addEvent : MethodName := ⟨RX4, "addEvent", "(II)V"⟩
abbrev cX4_inOrder : ByteArray := prog_6_method_38_code
def yX4_inOrder : MethodName := ⟨RX4, "inOrder", "(I)I"⟩
abbrev cX4_shedAll : ByteArray := prog_6_method_39_code
def yX4_shedAll : MethodName := ⟨RX4, "shedAll", "()I"⟩
abbrev cX4_checkOverload : ByteArray := prog_6_method_40_code
def yX4_checkOverload : MethodName := ⟨RX4, "checkOverload", "(I)V"⟩
abbrev cX4_isCut : ByteArray := prog_6_method_41_code
def yX4_isCut : MethodName := ⟨RX4, "isCut", "(I)Z"⟩
abbrev cX4_powerUp : ByteArray := prog_6_method_42_code
def yX4_powerUp : MethodName := ⟨RX4, "powerUp", "()V"⟩
abbrev cX4_second : ByteArray := prog_6_method_43_code
def yX4_second : MethodName := ⟨RX4, "second", "()V"⟩
abbrev cX4_advance : ByteArray := prog_6_method_44_code
def yX4_advance : MethodName := ⟨RX4, "advance", "(I)I"⟩
abbrev cX4_clock : ByteArray := prog_6_method_45_code
def yX4_clock : MethodName := ⟨RX4, "clock", "()I"⟩
abbrev cX4_eventCount : ByteArray := prog_6_method_46_code
def yX4_eventCount : MethodName := ⟨RX4, "eventCount", "()I"⟩
abbrev cX4_ofEvent : ByteArray := prog_6_method_47_code
def yX4_ofEvent : MethodName := ⟨RX4, "ofEvent", "(II)I"⟩
abbrev cX4_eventTime : ByteArray := prog_6_method_48_code
def yX4_eventTime : MethodName := ⟨RX4, "eventTime", "(I)I"⟩
abbrev cX4_eventPort : ByteArray := prog_6_method_49_code
def yX4_eventPort : MethodName := ⟨RX4, "eventPort", "(I)I"⟩
abbrev cX4_eventKind : ByteArray := prog_6_method_50_code
def yX4_eventKind : MethodName := ⟨RX4, "eventKind", "(I)I"⟩
abbrev cX4_keep : ByteArray := prog_6_method_51_code
def yX4_keep : MethodName := ⟨RX4, "keep", "()V"⟩
abbrev cX4_putBack : ByteArray := prog_6_method_52_code
def yX4_putBack : MethodName := ⟨RX4, "putBack", "()V"⟩
abbrev cX4_shedIfFails : ByteArray := prog_6_method_53_code
def yX4_shedIfFails : MethodName := ⟨RX4, "shedIfFails", "(I)I"⟩
abbrev cX4_fittingPorts : ByteArray := prog_6_method_54_code
def yX4_fittingPorts : MethodName := ⟨RX4, "fittingPorts", "()I"⟩
abbrev cX4_isStableSecond : ByteArray := prog_6_method_55_code
def yX4_isStableSecond : MethodName := ⟨RX4, "isStableSecond", "()Z"⟩
abbrev cX4_findStable : ByteArray := prog_6_method_56_code
def yX4_findStable : MethodName := ⟨RX4, "findStable", "()I"⟩
abbrev cX4_secondsToStable : ByteArray := prog_6_method_57_code
def yX4_secondsToStable : MethodName := ⟨RX4, "secondsToStable", "()I"⟩
abbrev cX4_stablePorts : ByteArray := prog_6_method_58_code
def yX4_stablePorts : MethodName := ⟨RX4, "stablePorts", "()I"⟩
abbrev cX4_save : ByteArray := prog_6_method_59_code
def yX4_save : MethodName := ⟨RX4, "save", "(I)I"⟩
abbrev cX4_restore : ByteArray := prog_6_method_60_code
def yX4_restore : MethodName := ⟨RX4, "restore", "(I)I"⟩
def RJ6 : String := "java/lang/Integer"
def TJ6 : u_T := fun k => match k with
  | _ => ("", "", "", false)
def tyJ6 : Nat → FieldType := fun k => match k with
  | _ => .int
abbrev wsJ60 : List Cond := u_ws RJ6 TJ6 0
theorem nmJ6 : ∀ a, a < 0 → ∀ b, b < 0 → a ≠ b → (TJ6 a).2.1 ≠ (TJ6 b).2.1 := by decide +kernel
theorem tyJ6_ok : ∀ k, k < 0 → parseFieldDescriptor (TJ6 k).2.2.1 = some (tyJ6 k) := by decide +kernel
abbrev cJ6_bitCount_0f7a4 : ByteArray := prog_7_method_49_code
def yJ6_bitCount_0f7a4 : MethodName := ⟨RJ6, "bitCount", "(I)I"⟩
def RJ9 : String := "java/lang/Math"
def TJ9 : u_T := fun k => match k with
  | _ => ("", "", "", false)
def tyJ9 : Nat → FieldType := fun k => match k with
  | _ => .int
abbrev wsJ90 : List Cond := u_ws RJ9 TJ9 0
theorem nmJ9 : ∀ a, a < 0 → ∀ b, b < 0 → a ≠ b → (TJ9 a).2.1 ≠ (TJ9 b).2.1 := by decide +kernel
theorem tyJ9_ok : ∀ k, k < 0 → parseFieldDescriptor (TJ9 k).2.2.1 = some (tyJ9 k) := by decide +kernel
abbrev cJ9_max_7cf53 : ByteArray := prog_8_method_65_code
def yJ9_max_7cf53 : MethodName := ⟨RJ9, "max", "(II)I"⟩
def RJ10 : String := "java/lang/System"
def TJ10 : u_T := fun k => match k with
  | _ => ("", "", "", false)
def tyJ10 : Nat → FieldType := fun k => match k with
  | _ => .int
abbrev wsJ100 : List Cond := u_ws RJ10 TJ10 0
theorem nmJ10 : ∀ a, a < 0 → ∀ b, b < 0 → a ≠ b → (TJ10 a).2.1 ≠ (TJ10 b).2.1 := by decide +kernel
theorem tyJ10_ok : ∀ k, k < 0 → parseFieldDescriptor (TJ10 k).2.2.1 = some (tyJ10 k) := by decide +kernel
def RL : String := "PoeSwitchLaw"
abbrev cL_law : ByteArray := code
def yL_law : MethodName := ⟨RL, "law", "([I)Z"⟩
end
section
/-! the core: abstract heaps, walks over them, contracts over them -/
/-- the words of the tables that hold in every state of the run -/
def zT : List Cond := lw_tbl.filter goodWord
theorem zT_mem {w : Cond} (i : Nat) (h : lw_tbl[i]? = some w) (hg : goodWord w = true) : w ∈ zT := List.mem_filter.mpr ⟨List.mem_of_getElem? h, hg⟩
theorem zT_good {w : Cond} (h : w ∈ zT) : (w.onTables && w.keeps) = true ∨ ∃ ty, w = .arrayClass ty := good_of_word (List.mem_filter.mp h).2
abbrev zH : Type := (Nat → Option va_E) × Nat
/-- class numbers and slots; array classes; the heap at the law's entry; where the static tables lie -/
abbrev zG : Type := va_G × (Nat → ClassId) × Heap × (Nat → Nat)
def zcl : List vw_C := [(RX0, TX0, 5), (RX1, TX1, 10), (RX2, TX2, 10), (RX3, TX3, 3), (RX4, TX4, 7)]
def zty (γ : zG) : List (ClassId × FieldType) := [(γ.2.1 0, .int), (γ.2.1 1, .boolean), (γ.2.1 2, .object RX1), (γ.2.1 3, .object RX2)]
def zN (γ : zG) : Nat := γ.2.2.1.size
def zsn : Nat → String := fun k => match k with
  | 0 => "CLASS_CURRENT_FROM"
  | 1 => "CLASS_CURRENT_TO"
  | _ => "CLASS_MAXIMUM"
def zsv : Nat → Nat → Int32 := fun k j => match k with
  | 0 => (match j with | 0 => 0 | 1 => 9 | 2 => 17 | 3 => 26 | _ => 36)
  | 1 => (match j with | 0 => 4 | 1 => 12 | 2 => 20 | 3 => 30 | _ => 44)
  | _ => (match j with | 0 => 154 | 1 => 40 | 2 => 70 | 3 => 154 | _ => 300)
def zA (γ : zG) : Nat → Prop := fun q => zN γ ≤ q
def zSt (γ : zG) (U : State) : Prop := ∀ k, k < 3 → va_Z RX3 (zsn k) "[I" (.ref (γ.2.2.2 k)) (zA γ) U γ.2.2.1 ∧ va_T .int (γ.2.2.2 k) 5 (fun j => .int (zsv k j)) (zA γ) U γ.2.2.1
def zK (γ : zG) (U : State) : Prop := va_K γ.1 zcl (zty γ) U ∧ zSt γ U ∧ va_AO RX1 U ∧ va_AO RX2 U
theorem zK.moved {γ : zG} {u U : State} (hvm : u.vm.Alike U.vm) (h : zK γ u) : zK γ U :=
  ⟨va_K.moved hvm h.1, fun k hk => ⟨va_Z.moved hvm (h.2.1 k hk).1, va_T.moved hvm (h.2.1 k hk).2⟩, h.2.2.1.moved hvm, h.2.2.2.moved hvm⟩
/-- the heap H is what h says -/
def zR (γ : zG) (h : zH) (H : Heap) : Prop := h.2 = H.size ∧ zN γ ≤ H.size ∧ (∀ (a : Nat) (e : va_E), h.1 a = some e → zN γ ≤ a ∧ va_at γ.1 zcl (a, e) H) ∧ ∀ q : Nat, q < zN γ → H[q]? = γ.2.2.1[q]?
/-- one cell changed; one cell more -/
def zu (h : zH) (a : Nat) (e : va_E) : zH := (fun x => if x = a then some e else h.1 x, h.2)
def zp (h : zH) (e : va_E) : zH := (fun x => if x = h.2 then some e else h.1 x, h.2 + 1)
theorem zu_s (h : zH) (a : Nat) (e : va_E) : (zu h a e).1 a = some e := by simp [zu]
theorem zu_n {h : zH} {a b : Nat} {e : va_E} (hn : b ≠ a) : (zu h a e).1 b = h.1 b := by simp [zu, hn]
theorem zu_zu (h : zH) (a : Nat) (e f : va_E) : zu (zu h a e) a f = zu h a f := by
  unfold zu
  congr 1
  funext x
  by_cases hx : x = a <;> simp [hx]
theorem zR.lt {γ : zG} {h : zH} {H : Heap} (hR : zR γ h H) {a : Nat} {e : va_E} (ha : h.1 a = some e) : a < H.size := (hR.2.2.1 a e ha).2.lt
theorem zR.put {γ : zG} {h : zH} {H H1 : Heap} (hR : zR γ h H) {a : Nat} {e0 e : va_E} (ha : h.1 a = some e0) (he : va_at γ.1 zcl (a, e) H1) (z : H1.size = H.size) (oq : ∀ q : Nat, q ≠ a → H1[q]? = H[q]?) : zR γ (zu h a e) H1 := by
  refine ⟨hR.1.trans z.symm, by rw [z]; exact hR.2.1, fun b f hb => ?_, fun q hq => ?_⟩
  · by_cases hba : b = a
    · subst hba
      rw [zu_s] at hb
      cases hb
      exact ⟨(hR.2.2.1 b e0 ha).1, he⟩
    · rw [zu_n hba] at hb
      exact ⟨(hR.2.2.1 b f hb).1, (hR.2.2.1 b f hb).2.kept (oq b hba)⟩
  · have h1 := (hR.2.2.1 a e0 ha).1
    rw [oq q (by omega)]
    exact hR.2.2.2 q hq
theorem zR.push {γ : zG} {h : zH} {H H1 : Heap} (hR : zR γ h H) {e : va_E} (he : va_at γ.1 zcl (H.size, e) H1) (z : H1.size = H.size + 1) (oq : ∀ q : Nat, q < H.size → H1[q]? = H[q]?) : zR γ (zp h e) H1 := by
  refine ⟨by show h.2 + 1 = _; rw [hR.1, z], by rw [z]; have := hR.2.1; omega, fun b f hb => ?_, fun q hq => ?_⟩
  · by_cases hba : b = h.2
    · have hb' : (zp h e).1 b = some e := by simp [zp, hba]
      rw [hb'] at hb
      cases hb
      rw [hba, hR.1]
      exact ⟨hR.2.1, he⟩
    · have hb' : (zp h e).1 b = h.1 b := by simp [zp, hba]
      rw [hb'] at hb
      exact ⟨(hR.2.2.1 b f hb).1, (hR.2.2.1 b f hb).2.kept (oq b (hR.lt hb))⟩
  · have h1 := hR.2.1
    rw [oq q (by omega)]
    exact hR.2.2.2 q hq
/-! locals by their places; every value here takes one slot -/
abbrev zLv : Type := List (Option Value)
def zat : zLv → Nat → Option Value
  | [], _ => none
  | v :: _, 0 => v
  | _ :: l, i + 1 => zat l i
def zloc (ls : Array Slot) (nL : Nat) (lv : zLv) : Prop := ls.size = nL ∧ lv_wf ls ∧ ∀ (j : Nat) (w : Value), zat lv j = some w → ls[j]? = some (.val w) ∧ w.category = 1
def zpr (lv : zLv) : List (Nat × Value) := (List.range lv.length).filterMap fun j => (zat lv j).map fun w => (j, w)
theorem zat_lt : ∀ {lv : zLv} {j : Nat} {w : Value}, zat lv j = some w → j < lv.length
  | [], j, w, h => by cases h
  | _ :: l, 0, w, h => by simp
  | _ :: l, j + 1, w, h => by
    have := zat_lt (lv := l) (j := j) h
    simp; omega
theorem zpr_mem {lv : zLv} {j : Nat} {w : Value} : (j, w) ∈ zpr lv ↔ zat lv j = some w := by
  constructor
  · intro h
    obtain ⟨i, -, h⟩ := List.mem_filterMap.mp h
    cases hi : zat lv i with
    | none => rw [hi] at h; cases h
    | some v =>
      rw [hi] at h
      cases h
      exact hi
  · intro h
    exact List.mem_filterMap.mpr ⟨j, List.mem_range.mpr (zat_lt h), by rw [h]; rfl⟩
theorem zloc.has {ls : Array Slot} {nL : Nat} {lv : zLv} (h : zloc ls nL lv) : lv_has ls nL (zpr lv) := ⟨h.1, h.2.1, fun q hq => (h.2.2 q.1 q.2 (zpr_mem.mp hq)).1⟩
theorem zloc.at {ls : Array Slot} {nL : Nat} {lv : zLv} (h : zloc ls nL lv) {i : Nat} {v : Value} (hv : zat lv i = some v) : ls[i]? = some (.val v) := (h.2.2 i v hv).1
theorem zat_set : ∀ {lv : zLv} {i j : Nat} {v w : Value}, zat (lv.set i (some v)) j = some w → (j = i ∧ w = v) ∨ (j ≠ i ∧ zat lv j = some w)
  | [], i, j, v, w, h => by cases h
  | _ :: l, 0, 0, v, w, h => by
    have : some v = some w := h
    cases this
    exact Or.inl ⟨rfl, rfl⟩
  | _ :: l, 0, j + 1, v, w, h => Or.inr ⟨by omega, h⟩
  | _ :: l, i + 1, 0, v, w, h => Or.inr ⟨by omega, h⟩
  | _ :: l, i + 1, j + 1, v, w, h => by
    rcases zat_set (lv := l) (i := i) (j := j) h with ⟨h1, h2⟩ | ⟨h1, h2⟩
    · exact Or.inl ⟨by omega, h2⟩
    · exact Or.inr ⟨by omega, h2⟩
theorem zloc.set {ls ls' : Array Slot} {nL : Nat} {lv : zLv} {i : Nat} {v : Value} (h : zloc ls nL lv) (hc : v.category = 1) (h' : lv_has ls' nL ((i, v) :: (zpr lv).filter (fun q => !(q.1 == i) && !(q.1 + 1 == i && q.2.category == 2)))) : zloc ls' nL (lv.set i (some v)) := by
  refine ⟨h'.1, h'.2.1, fun j w hj => ?_⟩
  rcases zat_set hj with ⟨h1, h2⟩ | ⟨h1, h2⟩
  · subst h1; subst h2
    exact ⟨h'.2.2 _ List.mem_cons_self, hc⟩
  · have hw := (h.2.2 j w h2).2
    refine ⟨h'.2.2 (j, w) (List.mem_cons_of_mem _ (List.mem_filter.mpr ⟨zpr_mem.mpr h2, ?_⟩)), hw⟩
    simp [h1, hw]
def zent (As : List Value) (n : Nat) : zLv := As.map some ++ List.replicate (n - As.length) none
theorem zat_rep (n : Nat) : ∀ j, zat (List.replicate n none) j = none := by
  induction n with
  | zero => intro j; rfl
  | succ n ih =>
    intro j
    cases j with
    | zero => rfl
    | succ j => exact ih j
theorem zent_args : ∀ (As : List Value) (k n j : Nat) (w : Value), (∀ v ∈ As, v.category = 1) → zat (As.map some ++ List.replicate n none) j = some w → (k + j, w) ∈ lv_args k As ∧ w.category = 1
  | [], k, n, j, w, _, h => by
    rw [List.map_nil, List.nil_append, zat_rep] at h
    cases h
  | v :: As, k, n, 0, w, hc, h => by
    have e : some v = some w := h
    cases e
    exact ⟨by simp [lv_args], hc v List.mem_cons_self⟩
  | v :: As, k, n, j + 1, w, hc, h => by
    have hv := hc v List.mem_cons_self
    have := zent_args As (k + 1) n j w (fun u hu => hc u (List.mem_cons_of_mem _ hu)) h
    refine ⟨?_, this.2⟩
    simp only [lv_args, hv]
    refine List.mem_cons_of_mem _ ?_
    rw [show k + (j + 1) = k + 1 + j by omega]
    exact this.1
theorem zloc_entry {ls : Array Slot} {nL : Nat} {As : List Value} (hc : ∀ v ∈ As, v.category = 1) (h : lv_has ls nL (lv_args 0 As)) : zloc ls nL (zent As nL) :=
  ⟨h.1, h.2.1, fun j w hj => by
    obtain ⟨h1, h2⟩ := zent_args As 0 _ j w hc hj
    rw [Nat.zero_add] at h1
    exact ⟨h.2.2 _ h1, h2⟩⟩
/-- fewer values -/
def zsub (lv : zLv) : Nat → zLv → Prop
  | _, [] => True
  | i, none :: l => zsub lv (i + 1) l
  | i, some v :: l => zat lv i = some v ∧ zsub lv (i + 1) l
theorem zsub_at {lv : zLv} : ∀ {l : zLv} {i j : Nat} {w : Value}, zsub lv i l → zat l j = some w → zat lv (i + j) = some w
  | [], i, j, w, _, h => by cases h
  | none :: l, i, 0, w, _, h => by cases h
  | some v :: l, i, 0, w, hs, h => by
    have e : some v = some w := h
    cases e
    exact hs.1
  | none :: l, i, j + 1, w, hs, h => by
    rw [show i + (j + 1) = i + 1 + j by omega]
    exact zsub_at (l := l) hs h
  | some v :: l, i, j + 1, w, hs, h => by
    rw [show i + (j + 1) = i + 1 + j by omega]
    exact zsub_at (l := l) hs.2 h
theorem zloc.sub {ls : Array Slot} {nL : Nat} {lv lv' : zLv} (h : zloc ls nL lv) (hs : zsub lv 0 lv') : zloc ls nL lv' :=
  ⟨h.1, h.2.1, fun j w hj => h.2.2 j w (by have := zsub_at hs hj; rwa [Nat.zero_add] at this)⟩
/-- a method: its name, its code, its locals, its answer's type -/
abbrev zM : Type := MethodName × ByteArray × Nat × Option FieldType
/-- a walk's surroundings: the world, the launch, the level, the cells and slots that it may make in all, the method, the end -/
abbrev zE : Type := zG × Launch × Nat × (Nat × Nat) × zM × (State → Array Value → List Frame → State → Prop)
abbrev zg (E : zE) : zG := E.1
abbrev zl (E : zE) : Launch := E.2.1
abbrev zn (E : zE) : Nat := E.2.2.1
abbrev zcc (E : zE) : Nat := E.2.2.2.1.1
abbrev zcs (E : zE) : Nat := E.2.2.2.1.2
abbrev zm (E : zE) : zM := E.2.2.2.2.1
abbrev zf (E : zE) : State → Array Value → List Frame → State → Prop := E.2.2.2.2.2
abbrev zb (E : zE) : ByteArray := (zm E).2.1
abbrev zo (E : zE) : String := (zm E).1.cls
def zC (E : zE) (p : Program) (R : Room) (s : State) (m : MethodId) (args : Array Value) (meth : Method) (c : Code) : Prop :=
  p.tables.exec = Jvm.exec ∧ c.code = zb E ∧ meth.sig.returnType = (zm E).2.2.2 ∧ meth.locks = false ∧ c.maxLocals = (zm E).2.2.1 ∧ s.vm.findClass (zo E) = some m.cls ∧ ((zm E).1.name = "<init>" → meth.name = "<init>") ∧
  (∀ w ∈ zT, w.before args s = true) ∧ zK (zg E) s ∧ zN (zg E) ≤ s.heap.size ∧ zn E ≤ R.frames ∧ 36 * zn E ≤ R.locals ∧ zcc E ≤ R.cells ∧ zcs E ≤ R.slots
def Go (E : zE) (cs sl pc : Nat) (lv : zLv) (st : List Value) (h : zH) : Prop :=
  ∀ (p : Program) (e : Env) (R : Room) (s : State) (m : MethodId) (args : Array Value) (below : List Frame) (meth : Method) (c : Code) (H : Heap) (locs : List Loc) (ls : Array Slot),
    zC E p R s m args meth c → zR (zg E) h H → (∀ q ∈ locs, zN (zg E) ≤ q.base) → zloc ls (zm E).2.2.1 lv →
    W p (zl E) e R s m args below meth c H locs cs sl (zf E s args below) (F0 m pc ls st)
/-- a contract: from the arguments and the heap h it answers r and leaves h' -/
def zP (γ : zG) (As : List Value) (h : zH) : Array Value → State → Prop := fun v U => v = As.toArray ∧ zR γ h U.heap ∧ zK γ U
def zQ (γ : zG) (r : Option Value) (h' : zH) : Array Value → State → Outcome → State → Prop := fun _ _ o t => o = .returned r ∧ zR γ h' t.heap
def zF (γ : zG) (C S : Nat) (r : Option Value) (h' : zH) : State → Array Value → List Frame → State → Prop := fun s args below => MQ below (zQ γ r h') args s C S (zA γ)
def zrm (n C S : Nat) : Room := { frames := n, cells := C, slots := S, locals := 36 * n }
def Con (γ : zG) (l : Launch) (n C S : Nat) (M : zM) (As : List Value) (h : zH) (r : Option Value) (h' : zH) : Prop :=
  Met l M.1 (.code M.1 M.2.1 M.2.2.1 M.2.2.2 :: zT) (zrm n C S) (zP γ As h) (zQ γ r h') C S (zA γ)
set_option maxHeartbeats 1000000 in
theorem Con.of {γ : zG} {l : Launch} {n C S : Nat} {M : zM} {As : List Value} {h : zH} {r : Option Value} {h' : zH} (hy : plainName M.1.cls = true) (hlen : (lg_sl As).length ≤ M.2.2.1)
    (hcat : ∀ v ∈ As, v.category = 1) (hgo : Go (γ, l, n, (C, S), M, zF γ C S r h') 0 0 0 (zent As M.2.2.1) [] h) : Con γ l n C S M As h r h' := by
  refine Met.ofW (cc := M.2.1) (maxL := M.2.2.1) (ret := M.2.2.2) hy rfl ?_
  intro p e s m args below meth c s₁ B hml hv
  obtain ⟨rfl, hR, hK⟩ := hv
  have hts := atoms_spec (ws := .code M.1 M.2.1 M.2.2.1 M.2.2.2 :: zT) B.pre
  have hown : s.vm.findClass M.1.cls = some m.cls := findClass_of_methodNamed B.named
  have hl := lv_entry As (n := M.2.2.1) hlen
  rw [lg_entry_eq]
  have hnm : meth.name = M.1.name := (name_of_methodNamed B.named B.method).1
  exact hgo p e (headSpec (.code M.1 M.2.1 M.2.2.1 M.2.2.2 :: zT) (zrm n C S)).room s m As.toArray below meth c s.heap [] _
    ⟨B.exec, B.bytes, B.returns, B.notSynchronized, hml, hown, fun hh => hnm.trans hh, fun w hw => hts w (List.mem_cons_of_mem _ hw), hK, hR.2.1, Nat.le_refl _, Nat.le_refl _, Nat.le_refl _, Nat.le_refl _⟩ hR (fun q hq => by cases hq) (zloc_entry hcat hl)
end
section
/-! rows: an instruction each -/
section ZR
variable {E : zE} {cs sl pc : Nat} {lv : zLv} {st : List Value} {h : zH}
theorem go_W (f : ∀ (p : Program) (e : Env) (R : Room) (s : State) (m : MethodId) (args : Array Value) (below : List Frame) (meth : Method) (c : Code) (H : Heap) (locs : List Loc) (ls : Array Slot),
    zC E p R s m args meth c → zR (zg E) h H → (∀ q ∈ locs, zN (zg E) ≤ q.base) → zloc ls (zm E).2.2.1 lv → W p (zl E) e R s m args below meth c H locs cs sl (zf E s args below) (F0 m pc ls st)) : Go E cs sl pc lv st h := f
theorem go_iconst {n : Int} {v : Int32} (hd : decode (zb E) pc = .ok (.iconst n, 1)) (hv : Int32.ofInt n = v) (k : Go E cs sl (pc + 1) lv (.int v :: st) h) : Go E cs sl pc lv st h := by
  intro p e R s m args below meth c H locs ls hC hR hL hl
  exact lv_iconst hC.1 hC.2.1 hd hv (k p e R s m args below meth c H locs ls hC hR hL hl)
theorem go_bipush {n : Int} {v : Int32} (hd : decode (zb E) pc = .ok (.bipush n, 2)) (hv : (Int8.ofInt n).toInt32 = v) (k : Go E cs sl (pc + 2) lv (.int v :: st) h) : Go E cs sl pc lv st h := by
  intro p e R s m args below meth c H locs ls hC hR hL hl
  exact lv_bipush hC.1 hC.2.1 hd hv (k p e R s m args below meth c H locs ls hC hR hL hl)
theorem go_sipush {n : Int} {v : Int32} (hd : decode (zb E) pc = .ok (.sipush n, 3)) (hv : (Int16.ofInt n).toInt32 = v) (k : Go E cs sl (pc + 3) lv (.int v :: st) h) : Go E cs sl pc lv st h := by
  intro p e R s m args below meth c H locs ls hC hR hL hl
  exact lv_sipush hC.1 hC.2.1 hd hv (k p e R s m args below meth c H locs ls hC hR hL hl)
theorem go_iload_n {j : Fin 4} {x : Int32} (hd : decode (zb E) pc = .ok (.iload_n j, 1)) (hx : zat lv (j : Nat) = some (.int x)) (k : Go E cs sl (pc + 1) lv (.int x :: st) h) : Go E cs sl pc lv st h := by
  intro p e R s m args below meth c H locs ls hC hR hL hl
  exact lv_iload_n hC.1 hC.2.1 hd rfl (hl.at hx) (k p e R s m args below meth c H locs ls hC hR hL hl)
theorem go_iload {i : Nat} {x : Int32} (hd : decode (zb E) pc = .ok (.iload i, 2)) (hx : zat lv i = some (.int x)) (k : Go E cs sl (pc + 2) lv (.int x :: st) h) : Go E cs sl pc lv st h := by
  intro p e R s m args below meth c H locs ls hC hR hL hl
  exact lv_iload hC.1 hC.2.1 hd (hl.at hx) (k p e R s m args below meth c H locs ls hC hR hL hl)
theorem go_aload_n {j : Fin 4} {x : Nat} (hd : decode (zb E) pc = .ok (.aload_n j, 1)) (hx : zat lv (j : Nat) = some (.ref x)) (k : Go E cs sl (pc + 1) lv (.ref x :: st) h) : Go E cs sl pc lv st h := by
  intro p e R s m args below meth c H locs ls hC hR hL hl
  exact lv_aload_n hC.1 hC.2.1 hd rfl (hl.at hx) (k p e R s m args below meth c H locs ls hC hR hL hl)
theorem go_aload {i : Nat} {x : Nat} (hd : decode (zb E) pc = .ok (.aload i, 2)) (hx : zat lv i = some (.ref x)) (k : Go E cs sl (pc + 2) lv (.ref x :: st) h) : Go E cs sl pc lv st h := by
  intro p e R s m args below meth c H locs ls hC hR hL hl
  exact lv_aload hC.1 hC.2.1 hd (hl.at hx) (k p e R s m args below meth c H locs ls hC hR hL hl)
theorem go_istore_n {j : Fin 4} {x : Int32} (hd : decode (zb E) pc = .ok (.istore_n j, 1)) (hn : (j : Nat) < (zm E).2.2.1) (k : Go E cs sl (pc + 1) (lv.set j (some (.int x))) st h) : Go E cs sl pc lv (.int x :: st) h := by
  intro p e R s m args below meth c H locs ls hC hR hL hl
  exact lv_istore_n hC.1 hC.2.1 hd rfl hl.has hn rfl (fun ls' hl' => k p e R s m args below meth c H locs ls' hC hR hL (hl.set rfl hl'))
theorem go_istore {i : Nat} {x : Int32} (hd : decode (zb E) pc = .ok (.istore i, 2)) (hn : i < (zm E).2.2.1) (k : Go E cs sl (pc + 2) (lv.set i (some (.int x))) st h) : Go E cs sl pc lv (.int x :: st) h := by
  intro p e R s m args below meth c H locs ls hC hR hL hl
  exact lv_istore hC.1 hC.2.1 hd hl.has hn rfl (fun ls' hl' => k p e R s m args below meth c H locs ls' hC hR hL (hl.set rfl hl'))
theorem go_astore_n {j : Fin 4} {x : Nat} (hd : decode (zb E) pc = .ok (.astore_n j, 1)) (hn : (j : Nat) < (zm E).2.2.1) (k : Go E cs sl (pc + 1) (lv.set j (some (.ref x))) st h) : Go E cs sl pc lv (.ref x :: st) h := by
  intro p e R s m args below meth c H locs ls hC hR hL hl
  exact lv_astore_n hC.1 hC.2.1 hd rfl hl.has hn rfl (fun ls' hl' => k p e R s m args below meth c H locs ls' hC hR hL (hl.set rfl hl'))
theorem go_astore {i : Nat} {x : Nat} (hd : decode (zb E) pc = .ok (.astore i, 2)) (hn : i < (zm E).2.2.1) (k : Go E cs sl (pc + 2) (lv.set i (some (.ref x))) st h) : Go E cs sl pc lv (.ref x :: st) h := by
  intro p e R s m args below meth c H locs ls hC hR hL hl
  exact lv_astore hC.1 hC.2.1 hd hl.has hn rfl (fun ls' hl' => k p e R s m args below meth c H locs ls' hC hR hL (hl.set rfl hl'))
theorem go_iinc {i : Nat} {n : Int} {x v : Int32} (hd : decode (zb E) pc = .ok (.iinc i n, 3)) (hx : zat lv i = some (.int x)) (hv : x + Int32.ofInt n = v) (hn : i < (zm E).2.2.1) (k : Go E cs sl (pc + 3) (lv.set i (some (.int v))) st h) : Go E cs sl pc lv st h := by
  intro p e R s m args below meth c H locs ls hC hR hL hl
  obtain ⟨q, hq⟩ := List.getElem?_of_mem (zpr_mem.mpr hx)
  exact lv_iinc hC.1 hC.2.1 hd hl.has hq hv hn rfl (fun ls' hl' => k p e R s m args below meth c H locs ls' hC hR hL (hl.set rfl hl'))
theorem go_iadd {x y : Int32} (hd : decode (zb E) pc = .ok (.iadd, 1)) (k : Go E cs sl (pc + 1) lv (.int (x + y) :: st) h) : Go E cs sl pc lv (.int y :: .int x :: st) h := by
  intro p e R s m args below meth c H locs ls hC hR hL hl
  exact lv_iadd hC.1 hC.2.1 hd (k p e R s m args below meth c H locs ls hC hR hL hl)
theorem go_isub {x y : Int32} (hd : decode (zb E) pc = .ok (.isub, 1)) (k : Go E cs sl (pc + 1) lv (.int (x - y) :: st) h) : Go E cs sl pc lv (.int y :: .int x :: st) h := by
  intro p e R s m args below meth c H locs ls hC hR hL hl
  exact lv_isub hC.1 hC.2.1 hd (k p e R s m args below meth c H locs ls hC hR hL hl)
theorem go_imul {x y : Int32} (hd : decode (zb E) pc = .ok (.imul, 1)) (k : Go E cs sl (pc + 1) lv (.int (x * y) :: st) h) : Go E cs sl pc lv (.int y :: .int x :: st) h := by
  intro p e R s m args below meth c H locs ls hC hR hL hl
  exact lv_imul hC.1 hC.2.1 hd (k p e R s m args below meth c H locs ls hC hR hL hl)
theorem go_iand {x y : Int32} (hd : decode (zb E) pc = .ok (.iand, 1)) (k : Go E cs sl (pc + 1) lv (.int (x &&& y) :: st) h) : Go E cs sl pc lv (.int y :: .int x :: st) h := by
  intro p e R s m args below meth c H locs ls hC hR hL hl
  exact lv_iand hC.1 hC.2.1 hd (k p e R s m args below meth c H locs ls hC hR hL hl)
theorem go_ior {x y : Int32} (hd : decode (zb E) pc = .ok (.ior, 1)) (k : Go E cs sl (pc + 1) lv (.int (x ||| y) :: st) h) : Go E cs sl pc lv (.int y :: .int x :: st) h := by
  intro p e R s m args below meth c H locs ls hC hR hL hl
  exact lv_ior hC.1 hC.2.1 hd (k p e R s m args below meth c H locs ls hC hR hL hl)
theorem go_ishl {x y : Int32} (hd : decode (zb E) pc = .ok (.ishl, 1)) (k : Go E cs sl (pc + 1) lv (.int (x <<< (y &&& 31)) :: st) h) : Go E cs sl pc lv (.int y :: .int x :: st) h := by
  intro p e R s m args below meth c H locs ls hC hR hL hl
  exact lv_ishl hC.1 hC.2.1 hd (k p e R s m args below meth c H locs ls hC hR hL hl)
theorem go_ishr {x y : Int32} (hd : decode (zb E) pc = .ok (.ishr, 1)) (k : Go E cs sl (pc + 1) lv (.int (x >>> (y &&& 31)) :: st) h) : Go E cs sl pc lv (.int y :: .int x :: st) h := by
  intro p e R s m args below meth c H locs ls hC hR hL hl
  exact lv_ishr hC.1 hC.2.1 hd (k p e R s m args below meth c H locs ls hC hR hL hl)
theorem go_irem {x y : Int32} (hd : decode (zb E) pc = .ok (.irem, 1)) (hne : ¬ y = 0) (k : Go E cs sl (pc + 1) lv (.int (x - x / y * y) :: st) h) : Go E cs sl pc lv (.int y :: .int x :: st) h := by
  intro p e R s m args below meth c H locs ls hC hR hL hl
  exact lv_irem hC.1 hC.2.1 hd hne (k p e R s m args below meth c H locs ls hC hR hL hl)
theorem go_iushr {x y : Int32} (hd : decode (zb E) pc = .ok (.iushr, 1)) (k : Go E cs sl (pc + 1) lv (.int ((x.toUInt32 >>> (y.toUInt32 &&& Int32.toUInt32 31)).toInt32) :: st) h) : Go E cs sl pc lv (.int y :: .int x :: st) h := by
  intro p e R s m args below meth c H locs ls hC hR hL hl
  exact lv_iushr hC.1 hC.2.1 hd rfl (k p e R s m args below meth c H locs ls hC hR hL hl)
theorem go_dup {v : Value} (hd : decode (zb E) pc = .ok (.dup, 1)) (hv : v.category = 1) (k : Go E cs sl (pc + 1) lv (v :: v :: st) h) : Go E cs sl pc lv (v :: st) h := by
  intro p e R s m args below meth c H locs ls hC hR hL hl
  exact lv_dup hC.1 hC.2.1 hd hv (k p e R s m args below meth c H locs ls hC hR hL hl)
theorem go_pop {v : Value} (hd : decode (zb E) pc = .ok (.pop, 1)) (hv : v.category = 1) (k : Go E cs sl (pc + 1) lv st h) : Go E cs sl pc lv (v :: st) h := by
  intro p e R s m args below meth c H locs ls hC hR hL hl
  exact lv_pop hC.1 hC.2.1 hd hv (k p e R s m args below meth c H locs ls hC hR hL hl)
theorem go_dup2 {v w : Value} (hd : decode (zb E) pc = .ok (.dup2, 1)) (hv : v.category = 1) (hw : w.category = 1) (k : Go E cs sl (pc + 1) lv (v :: w :: v :: w :: st) h) : Go E cs sl pc lv (v :: w :: st) h := by
  intro p e R s m args below meth c H locs ls hC hR hL hl
  exact lv_dup2_11 hC.1 hC.2.1 hd hv hw (k p e R s m args below meth c H locs ls hC hR hL hl)
theorem go_if_eq {x : Int32} {off : Int} {tgt : Nat} (hd : decode (zb E) pc = .ok (.ifCond .eq off, 3)) (ht : (pc : Int) + off = (tgt : Int)) (kt : x = 0 → Go E cs sl tgt lv st h) (kf : ¬ (x = 0) → Go E cs sl (pc + 3) lv st h) : Go E cs sl pc lv (.int x :: st) h := by
  intro p e R s m args below meth c H locs ls hC hR hL hl
  exact lv_if_eq hC.1 hC.2.1 hd ht (fun q => kt q p e R s m args below meth c H locs ls hC hR hL hl) (fun q => kf q p e R s m args below meth c H locs ls hC hR hL hl)
theorem go_icmp_eq {x y : Int32} {off : Int} {tgt : Nat} (hd : decode (zb E) pc = .ok (.if_icmp .eq off, 3)) (ht : (pc : Int) + off = (tgt : Int)) (kt : x = y → Go E cs sl tgt lv st h) (kf : ¬ (x = y) → Go E cs sl (pc + 3) lv st h) : Go E cs sl pc lv (.int y :: .int x :: st) h := by
  intro p e R s m args below meth c H locs ls hC hR hL hl
  exact lv_icmp_eq hC.1 hC.2.1 hd ht (fun q => kt q p e R s m args below meth c H locs ls hC hR hL hl) (fun q => kf q p e R s m args below meth c H locs ls hC hR hL hl)
theorem go_if_ne {x : Int32} {off : Int} {tgt : Nat} (hd : decode (zb E) pc = .ok (.ifCond .ne off, 3)) (ht : (pc : Int) + off = (tgt : Int)) (kt : ¬ x = 0 → Go E cs sl tgt lv st h) (kf : x = 0 → Go E cs sl (pc + 3) lv st h) : Go E cs sl pc lv (.int x :: st) h := by
  intro p e R s m args below meth c H locs ls hC hR hL hl
  exact lv_if_ne hC.1 hC.2.1 hd ht (fun q => kt q p e R s m args below meth c H locs ls hC hR hL hl) (fun q => kf q p e R s m args below meth c H locs ls hC hR hL hl)
theorem go_icmp_ne {x y : Int32} {off : Int} {tgt : Nat} (hd : decode (zb E) pc = .ok (.if_icmp .ne off, 3)) (ht : (pc : Int) + off = (tgt : Int)) (kt : ¬ x = y → Go E cs sl tgt lv st h) (kf : x = y → Go E cs sl (pc + 3) lv st h) : Go E cs sl pc lv (.int y :: .int x :: st) h := by
  intro p e R s m args below meth c H locs ls hC hR hL hl
  exact lv_icmp_ne hC.1 hC.2.1 hd ht (fun q => kt q p e R s m args below meth c H locs ls hC hR hL hl) (fun q => kf q p e R s m args below meth c H locs ls hC hR hL hl)
theorem go_if_lt {x : Int32} {off : Int} {tgt : Nat} (hd : decode (zb E) pc = .ok (.ifCond .lt off, 3)) (ht : (pc : Int) + off = (tgt : Int)) (kt : x < 0 → Go E cs sl tgt lv st h) (kf : ¬ (x < 0) → Go E cs sl (pc + 3) lv st h) : Go E cs sl pc lv (.int x :: st) h := by
  intro p e R s m args below meth c H locs ls hC hR hL hl
  exact lv_if_lt hC.1 hC.2.1 hd ht (fun q => kt q p e R s m args below meth c H locs ls hC hR hL hl) (fun q => kf q p e R s m args below meth c H locs ls hC hR hL hl)
theorem go_icmp_lt {x y : Int32} {off : Int} {tgt : Nat} (hd : decode (zb E) pc = .ok (.if_icmp .lt off, 3)) (ht : (pc : Int) + off = (tgt : Int)) (kt : x < y → Go E cs sl tgt lv st h) (kf : ¬ (x < y) → Go E cs sl (pc + 3) lv st h) : Go E cs sl pc lv (.int y :: .int x :: st) h := by
  intro p e R s m args below meth c H locs ls hC hR hL hl
  exact lv_icmp_lt hC.1 hC.2.1 hd ht (fun q => kt q p e R s m args below meth c H locs ls hC hR hL hl) (fun q => kf q p e R s m args below meth c H locs ls hC hR hL hl)
theorem go_if_ge {x : Int32} {off : Int} {tgt : Nat} (hd : decode (zb E) pc = .ok (.ifCond .ge off, 3)) (ht : (pc : Int) + off = (tgt : Int)) (kt : 0 ≤ x → Go E cs sl tgt lv st h) (kf : ¬ (0 ≤ x) → Go E cs sl (pc + 3) lv st h) : Go E cs sl pc lv (.int x :: st) h := by
  intro p e R s m args below meth c H locs ls hC hR hL hl
  exact lv_if_ge hC.1 hC.2.1 hd ht (fun q => kt q p e R s m args below meth c H locs ls hC hR hL hl) (fun q => kf q p e R s m args below meth c H locs ls hC hR hL hl)
theorem go_icmp_ge {x y : Int32} {off : Int} {tgt : Nat} (hd : decode (zb E) pc = .ok (.if_icmp .ge off, 3)) (ht : (pc : Int) + off = (tgt : Int)) (kt : y ≤ x → Go E cs sl tgt lv st h) (kf : ¬ (y ≤ x) → Go E cs sl (pc + 3) lv st h) : Go E cs sl pc lv (.int y :: .int x :: st) h := by
  intro p e R s m args below meth c H locs ls hC hR hL hl
  exact lv_icmp_ge hC.1 hC.2.1 hd ht (fun q => kt q p e R s m args below meth c H locs ls hC hR hL hl) (fun q => kf q p e R s m args below meth c H locs ls hC hR hL hl)
theorem go_if_gt {x : Int32} {off : Int} {tgt : Nat} (hd : decode (zb E) pc = .ok (.ifCond .gt off, 3)) (ht : (pc : Int) + off = (tgt : Int)) (kt : 0 < x → Go E cs sl tgt lv st h) (kf : ¬ (0 < x) → Go E cs sl (pc + 3) lv st h) : Go E cs sl pc lv (.int x :: st) h := by
  intro p e R s m args below meth c H locs ls hC hR hL hl
  exact lv_if_gt hC.1 hC.2.1 hd ht (fun q => kt q p e R s m args below meth c H locs ls hC hR hL hl) (fun q => kf q p e R s m args below meth c H locs ls hC hR hL hl)
theorem go_icmp_gt {x y : Int32} {off : Int} {tgt : Nat} (hd : decode (zb E) pc = .ok (.if_icmp .gt off, 3)) (ht : (pc : Int) + off = (tgt : Int)) (kt : y < x → Go E cs sl tgt lv st h) (kf : ¬ (y < x) → Go E cs sl (pc + 3) lv st h) : Go E cs sl pc lv (.int y :: .int x :: st) h := by
  intro p e R s m args below meth c H locs ls hC hR hL hl
  exact lv_icmp_gt hC.1 hC.2.1 hd ht (fun q => kt q p e R s m args below meth c H locs ls hC hR hL hl) (fun q => kf q p e R s m args below meth c H locs ls hC hR hL hl)
theorem go_if_le {x : Int32} {off : Int} {tgt : Nat} (hd : decode (zb E) pc = .ok (.ifCond .le off, 3)) (ht : (pc : Int) + off = (tgt : Int)) (kt : x ≤ 0 → Go E cs sl tgt lv st h) (kf : ¬ (x ≤ 0) → Go E cs sl (pc + 3) lv st h) : Go E cs sl pc lv (.int x :: st) h := by
  intro p e R s m args below meth c H locs ls hC hR hL hl
  exact lv_if_le hC.1 hC.2.1 hd ht (fun q => kt q p e R s m args below meth c H locs ls hC hR hL hl) (fun q => kf q p e R s m args below meth c H locs ls hC hR hL hl)
theorem go_icmp_le {x y : Int32} {off : Int} {tgt : Nat} (hd : decode (zb E) pc = .ok (.if_icmp .le off, 3)) (ht : (pc : Int) + off = (tgt : Int)) (kt : x ≤ y → Go E cs sl tgt lv st h) (kf : ¬ (x ≤ y) → Go E cs sl (pc + 3) lv st h) : Go E cs sl pc lv (.int y :: .int x :: st) h := by
  intro p e R s m args below meth c H locs ls hC hR hL hl
  exact lv_icmp_le hC.1 hC.2.1 hd ht (fun q => kt q p e R s m args below meth c H locs ls hC hR hL hl) (fun q => kf q p e R s m args below meth c H locs ls hC hR hL hl)
theorem go_goto {off : Int} {tgt : Nat} (hd : decode (zb E) pc = .ok (.goto off, 3)) (ht : (pc : Int) + off = (tgt : Int)) (k : Go E cs sl tgt lv st h) : Go E cs sl pc lv st h := by
  intro p e R s m args below meth c H locs ls hC hR hL hl
  exact lv_goto hC.1 hC.2.1 hd ht (k p e R s m args below meth c H locs ls hC hR hL hl)
theorem go_ifnonnull_r {x : Nat} {off : Int} {tgt : Nat} (hd : decode (zb E) pc = .ok (.ifnonnull off, 3)) (ht : (pc : Int) + off = (tgt : Int)) (k : Go E cs sl tgt lv st h) : Go E cs sl pc lv (.ref x :: st) h := by
  intro p e R s m args below meth c H locs ls hC hR hL hl
  exact lv_ifnonnull hC.1 hC.2.1 hd ht (k p e R s m args below meth c H locs ls hC hR hL hl)
theorem go_ifnonnull_n {off : Int} (hd : decode (zb E) pc = .ok (.ifnonnull off, 3)) (k : Go E cs sl (pc + 3) lv st h) : Go E cs sl pc lv (.null :: st) h := by
  intro p e R s m args below meth c H locs ls hC hR hL hl
  exact lv_ifnonnullN hC.1 hC.2.1 hd (k p e R s m args below meth c H locs ls hC hR hL hl)
theorem go_tableIn {dflt lo hi : Int} {offs : Array Int} {len : Nat} {x : Int32} {off : Int} {tgt : Nat} (hd : decode (zb E) pc = .ok (.tableswitch dflt lo hi offs, len)) (h1 : ¬ x.toInt < lo) (h2 : ¬ hi < x.toInt) (ho : offs[(x.toInt - lo).toNat]? = some off) (ht : (pc : Int) + off = (tgt : Int)) (k : Go E cs sl tgt lv st h) : Go E cs sl pc lv (.int x :: st) h := by
  intro p e R s m args below meth c H locs ls hC hR hL hl
  exact lv_tableIn hC.1 hC.2.1 hd h1 h2 ho ht (k p e R s m args below meth c H locs ls hC hR hL hl)
theorem go_tableOut {dflt lo hi : Int} {offs : Array Int} {len : Nat} {x : Int32} {tgt : Nat} (hd : decode (zb E) pc = .ok (.tableswitch dflt lo hi offs, len)) (h1 : x.toInt < lo ∨ hi < x.toInt) (ht : (pc : Int) + dflt = (tgt : Int)) (k : Go E cs sl tgt lv st h) : Go E cs sl pc lv (.int x :: st) h := by
  intro p e R s m args below meth c H locs ls hC hR hL hl
  exact lv_tableOut hC.1 hC.2.1 hd h1 ht (k p e R s m args below meth c H locs ls hC hR hL hl)
end ZR
end
section
/-! rows: fields, arrays, objects, statics -/
def zct : Nat → Nat → FieldType := fun ci => match ci with
  | 0 => tyX0
  | 1 => tyX1
  | 2 => tyX2
  | 3 => tyX3
  | _ => tyX4
theorem zws0 : ∀ w ∈ u_ws RX0 TX0 5, w ∈ zT := by decide +kernel
theorem zws1 : ∀ w ∈ u_ws RX1 TX1 10, w ∈ zT := by decide +kernel
theorem zws2 : ∀ w ∈ u_ws RX2 TX2 10, w ∈ zT := by decide +kernel
theorem zws3 : ∀ w ∈ u_ws RX3 TX3 3, w ∈ zT := by decide +kernel
theorem zws4 : ∀ w ∈ u_ws RX4 TX4 7, w ∈ zT := by decide +kernel
theorem zcl_ok {ci : Nat} {q : vw_C} (h : zcl[ci]? = some q) : (∀ w ∈ u_ws q.1 q.2.1 q.2.2, w ∈ zT) ∧ (∀ a, a < q.2.2 → ∀ b, b < q.2.2 → a ≠ b → (q.2.1 a).2.1 ≠ (q.2.1 b).2.1) ∧ ∀ k, k < q.2.2 → parseFieldDescriptor (q.2.1 k).2.2.1 = some (zct ci k) := by
  match ci, h with
  | 0, h => cases h; exact ⟨zws0, nmX0, tyX0_ok⟩
  | 1, h => cases h; exact ⟨zws1, nmX1, tyX1_ok⟩
  | 2, h => cases h; exact ⟨zws2, nmX2, tyX2_ok⟩
  | 3, h => cases h; exact ⟨zws3, nmX3, tyX3_ok⟩
  | 4, h => cases h; exact ⟨zws4, nmX4, tyX4_ok⟩
  | n + 5, h => simp [zcl] at h
/-- the entry idx of own's pool is field k of class ci; final or not -/
def zFl (own : String) (idx ci k : Nat) : Prop := ∃ (C : String) (T : u_T) (N : Nat), zcl[ci]? = some (C, T, N) ∧ k < N ∧ Cond.fieldLink own idx (T k).1 (T k).2.1 (T k).2.2.1 ∈ zT
def zFn (ci k : Nat) (b : Bool) : Prop := ∃ (C : String) (T : u_T) (N : Nat), zcl[ci]? = some (C, T, N) ∧ (T k).2.2.2 = b ∧ (T k).1 = C
section ZH
variable {E : zE} {cs sl pc : Nat} {lv : zLv} {st : List Value} {h : zH}
theorem go_getf {idx ci k a : Nat} {fs : List Value} {v : Value} (hd : decode (zb E) pc = .ok (.getfield idx, 3)) (hf : zFl (zo E) idx ci k) (hh : h.1 a = some (.inr (ci, fs))) (hv : fs[k]? = some v) (kk : Go E cs sl (pc + 3) lv (v :: st) h) : Go E cs sl pc lv (.ref a :: st) h := by
  intro p e R s m args below meth c H locs ls hC hR hL hl
  obtain ⟨C, T, N, hc, hk, hlk⟩ := hf
  obtain ⟨hin, hnm, hty⟩ := zcl_ok hc
  have hP : va_P (zg E).1 zcl [(a, .inr (ci, fs))] H := fun j q hq => by
    match j, hq with
    | 0, hq => cases hq; exact (hR.2.2.1 a _ hh).2
    | j + 1, hq => simp at hq
  exact va_get (D := (zg E).1) (Ts := zT) hC.1 hC.2.1 hC.2.2.2.2.2.2.2.1 hin hC.2.2.2.2.2.1 hC.2.2.2.2.2.2.2.2.1.1 hP 0 rfl hc k hk (hC.2.2.2.2.2.2.2.1 _ hlk) (fun _ x => x) hv hd (kk p e R s m args below meth c H locs ls hC hR hL hl)
theorem zlocs {γ : zG} {locs L : List Loc} (hL : ∀ q ∈ locs, zN γ ≤ q.base) (h : ∀ q ∈ L, zN γ ≤ q.base) : ∀ q ∈ locs ++ L, zN γ ≤ q.base := fun q hq => (List.mem_append.mp hq).elim (hL q) (h q)
theorem zloc1 {γ : zG} {locs : List Loc} {a k : Nat} (hL : ∀ q ∈ locs, zN γ ≤ q.base) (h : zN γ ≤ a) : ∀ q ∈ locs ++ [(⟨a, k⟩ : Loc)], zN γ ≤ q.base := zlocs hL (fun q hq => by rw [List.mem_singleton.mp hq]; exact h)
theorem go_putf {idx ci k a : Nat} {fs : List Value} {v : Value} (hd : decode (zb E) pc = .ok (.putfield idx, 3)) (hf : zFl (zo E) idx ci k) (hfin : zFn ci k false) (hh : h.1 a = some (.inr (ci, fs))) (hn : narrow (zct ci k) v = v) (hfit : fits (zct ci k) v = true) (hlen : k < fs.length) (kk : Go E cs sl (pc + 3) lv st (zu h a (.inr (ci, fs.set k v)))) : Go E cs sl pc lv (v :: .ref a :: st) h := by
  intro p e R s m args below meth c H locs ls hC hR hL hl
  obtain ⟨C, T, N, hc, hk, hlk⟩ := hf
  obtain ⟨C', T', N', hc', hfin, hdecl⟩ := hfin
  cases hc.symm.trans hc'
  obtain ⟨hin, hnm, hty⟩ := zcl_ok hc
  have hts := hC.2.2.2.2.2.2.2.1
  have hK := hC.2.2.2.2.2.2.2.2.1.1
  have hap := va_apart (own := zo E) hts hin (zct ci) hty hnm hK hc
  obtain ⟨r, h1, cell, q1, q2, q3, q4⟩ := (hR.2.2.1 a _ hh).2
  have hr : r = (C, T, N) := Option.some.inj (h1.symm.trans hc)
  subst hr
  obtain ⟨hS, hfc, kC, hkC, hkind⟩ := hK.1 ci _ hc
  obtain ⟨cf, kf, fi, f, hi, hsl⟩ := hS k hk
  have hlay := hts _ (hin _ (u_in_lay hk))
  unfold u_lay at hlay
  rw [if_neg (by rw [hfin]; decide)] at hlay
  have hst := (u_facts hfc hkC (u_lays hts hin hk) hi).1
  have h6 := u_store hfc hkC hkind hlay hi (hty k hk) hn hfit
  refine W.putK hC.1 hC.2.1 (f := f) ⟨hC.2.2.2.2.2.1, hts _ hlk, ⟨_, _, _, hi⟩, hst⟩ (by rw [q2]; exact h6) q1 q3 (by rw [hsl]; exact k2_hasslot (q4 k hk)) rfl rfl hd fun H' e1 e2 e3 => ?_
  rw [hsl] at e1 ⊢
  exact kk p e R s m args below meth c H' _ ls hC (hR.put hh ⟨_, hc, t_OB.to (V := updV (vp_V fs) k v) ⟨_, e1, q2, q3, t_set q4 hap hk v⟩ (fun j _ => vp_updV_set hlen v j)⟩ e2 e3) (zloc1 hL (hR.2.2.1 a _ hh).1) hl
theorem go_putF {idx ci k a : Nat} {fs : List Value} {v : Value} (hd : decode (zb E) pc = .ok (.putfield idx, 3)) (hf : zFl (zo E) idx ci k) (hfin : zFn ci k true) (hown : (zcl[ci]?).map (fun q => q.1) = some (zo E)) (hini : (zm E).1.name = "<init>") (hh : h.1 a = some (.inr (ci, fs))) (hn : narrow (zct ci k) v = v) (hfit : fits (zct ci k) v = true) (hlen : k < fs.length) (kk : Go E cs sl (pc + 3) lv st (zu h a (.inr (ci, fs.set k v)))) : Go E cs sl pc lv (v :: .ref a :: st) h := by
  intro p e R s m args below meth c H locs ls hC hR hL hl
  obtain ⟨C, T, N, hc, hk, hlk⟩ := hf
  obtain ⟨C', T', N', hc', hfin, hdecl⟩ := hfin
  cases hc.symm.trans hc'
  rw [hc] at hown
  have hCo : C = zo E := Option.some.inj hown
  obtain ⟨hin, hnm, hty⟩ := zcl_ok hc
  have hts := hC.2.2.2.2.2.2.2.1
  have hK := hC.2.2.2.2.2.2.2.2.1.1
  have hap := va_apart (own := zo E) hts hin (zct ci) hty hnm hK hc
  obtain ⟨r, h1, cell, q1, q2, q3, q4⟩ := (hR.2.2.1 a _ hh).2
  have hr : r = (C, T, N) := Option.some.inj (h1.symm.trans hc)
  subst hr
  obtain ⟨hS, hfc, kC, hkC, hkind⟩ := hK.1 ci _ hc
  obtain ⟨cf, kf, fi, f, hi, hsl⟩ := hS k hk
  have hlay := hts _ (hin _ (u_in_lay hk))
  unfold u_lay at hlay
  rw [if_pos hfin] at hlay
  have hst := (u_facts hfc hkC (u_lays hts hin hk) hi).1
  have hcf : m.cls = cf := by
    obtain ⟨_, _, c', _, _, _, -, -, hf', -, -, -, hown2, -⟩ := Cond.laysFinal_spec hlay
    have e1 : c' = cf := by have := hi.symm.trans hf'; simp at this; exact this.1.symm
    have e2 : (T k).1 = zo E := hdecl.trans hCo
    rw [e2] at hown2
    rw [← e1]; exact Option.some.inj (hC.2.2.2.2.2.1.symm.trans hown2)
  have h6 := u_fits hfc hkC hkind (Or.inr hlay) hi (hty k hk) hn hfit
  refine W.putFinK hC.1 hC.2.1 hC.2.2.2.2.2.1 (hts _ hlk) hi hst hcf (hC.2.2.2.2.2.2.1 hini) (by rw [q2]; exact h6) q1 q3 (by rw [hsl]; exact k2_hasslot (q4 k hk)) rfl rfl hd fun H' e1 e2 e3 => ?_
  rw [hsl] at e1 ⊢
  exact kk p e R s m args below meth c H' _ ls hC (hR.put hh ⟨_, hc, t_OB.to (V := updV (vp_V fs) k v) ⟨_, e1, q2, q3, t_set q4 hap hk v⟩ (fun j _ => vp_updV_set hlen v j)⟩ e2 e3) (zloc1 hL (hR.2.2.1 a _ hh).1) hl
theorem zty_i {γ : zG} {U : State} (hK : va_K γ.1 zcl (zty γ) U) : ArrOfT U (γ.2.1 0) .int := (hK.2 0 _ rfl).1
theorem zty_z {γ : zG} {U : State} (hK : va_K γ.1 zcl (zty γ) U) : ArrOfT U (γ.2.1 1) .boolean := (hK.2 1 _ rfl).1
/-- cells that are arrays: of ints, of booleans, of Ports, of States -/
def zai (γ : zG) (n : Nat) (f : Nat → Int32) : va_E := .inl (γ.2.1 0, n, .inl f)
def zaz (γ : zG) (n : Nat) (f : Nat → Int32) : va_E := .inl (γ.2.1 1, n, .inl f)
def zap (γ : zG) (n : Nat) (f : Nat → Option Nat) : va_E := .inl (γ.2.1 2, n, .inr (.inr (.inr (.inr f))))
def zas (γ : zG) (n : Nat) (f : Nat → Option Nat) : va_E := .inl (γ.2.1 3, n, .inr (.inr (.inr (.inr f))))
theorem go_iald {a n j : Nat} {f : Nat → Int32} {i : Int32} (hd : decode (zb E) pc = .ok (.iaload, 1)) (hh : h.1 a = some (zai (zg E) n f)) (hin : vp_in i n) (hj : i.toNatClampNeg = j) (kk : Go E cs sl (pc + 1) lv (.int (f j) :: st) h) : Go E cs sl pc lv (.int i :: .ref a :: st) h := by
  intro p e R s m args below meth c H locs ls hC hR hL hl
  subst hj
  have hlt : i.toNatClampNeg < n := Nat.not_le.mp fun q => hin (Or.inr q)
  exact W.iald (v := .int (f i.toNatClampNeg)) hC.1 hC.2.1 (hR.2.2.1 a _ hh).2 (zty_i hC.2.2.2.2.2.2.2.2.1.1 n (fun j => .int (f j))) (fun q => by cases q) (by show ¬ (i < 0 ∨ (arrV _ _ _).slots.size ≤ _); rw [arrV_size]; exact hin) (by show (arrV _ _ _).slots[_]? = _; rw [arrV_read _ _ hlt]) rfl rfl hd (kk p e R s m args below meth c H locs ls hC hR hL hl)
theorem go_zald {a n j : Nat} {f : Nat → Int32} {i : Int32} (hd : decode (zb E) pc = .ok (.baload, 1)) (hh : h.1 a = some (zaz (zg E) n f)) (hin : vp_in i n) (hj : i.toNatClampNeg = j) (kk : Go E cs sl (pc + 1) lv (.int (f j) :: st) h) : Go E cs sl pc lv (.int i :: .ref a :: st) h := by
  intro p e R s m args below meth c H locs ls hC hR hL hl
  subst hj
  have hlt : i.toNatClampNeg < n := Nat.not_le.mp fun q => hin (Or.inr q)
  exact W.zald (v := .int (f i.toNatClampNeg)) hC.1 hC.2.1 (hR.2.2.1 a _ hh).2 (zty_z hC.2.2.2.2.2.2.2.2.1.1 n (fun j => .int (f j))) (fun q => by cases q) (by show ¬ (i < 0 ∨ (arrV _ _ _).slots.size ≤ _); rw [arrV_size]; exact hin) (by show (arrV _ _ _).slots[_]? = _; rw [arrV_read _ _ hlt]) rfl rfl hd (kk p e R s m args below meth c H locs ls hC hR hL hl)
theorem go_ald {t0 : Nat} {C : String} {a n j : Nat} {cA : ClassId} {f : Nat → Option Nat} {i : Int32} {v : Value} (hd : decode (zb E) pc = .ok (.aaload, 1)) (hh : h.1 a = some (.inl (cA, n, .inr (.inr (.inr (.inr f)))))) (ht : (zty (zg E))[t0]? = some (cA, .object C)) (hin : vp_in i n) (hj : i.toNatClampNeg = j) (hv : va_rf (f j) = v) (kk : Go E cs sl (pc + 1) lv (v :: st) h) : Go E cs sl pc lv (.int i :: .ref a :: st) h := by
  intro p e R s m args below meth c H locs ls hC hR hL hl
  subst hj
  subst hv
  have hlt : i.toNatClampNeg < n := Nat.not_le.mp fun q => hin (Or.inr q)
  exact W.aald (v := va_rf (f i.toNatClampNeg)) (ty := .object C) hC.1 hC.2.1 (hR.2.2.1 a _ hh).2 ((hC.2.2.2.2.2.2.2.2.1.1.2 t0 _ ht).1 n (fun j => va_rf (f j))) rfl (fun q => by cases q) (by show ¬ (i < 0 ∨ (arrV _ _ _).slots.size ≤ _); rw [arrV_size]; exact hin) (by show (arrV _ _ _).slots[_]? = _; rw [arrV_read _ _ hlt]) rfl rfl hd (kk p e R s m args below meth c H locs ls hC hR hL hl)
theorem go_alen {a n : Nat} {cA : ClassId} {x : vp_A} {t0 : Nat} {ty : FieldType} {v : Int32} (hd : decode (zb E) pc = .ok (.arraylength, 1)) (hh : h.1 a = some (.inl (cA, x))) (ht : (zty (zg E))[t0]? = some (cA, ty)) (hv : Int32.ofNat x.1 = v) (kk : Go E cs sl (pc + 1) lv (.int v :: st) h) : Go E cs sl pc lv (.ref a :: st) h := by
  intro p e R s m args below meth c H locs ls hC hR hL hl
  have hP : va_P (zg E).1 zcl [(a, .inl (cA, x))] H := fun j q hq => by
    match j, hq with
    | 0, hq => cases hq; exact (hR.2.2.1 a _ hh).2
    | j + 1, hq => simp at hq
  exact va_alen hC.1 hC.2.1 hC.2.2.2.2.2.2.2.2.1.1 hP 0 t0 rfl ht hv hd (kk p e R s m args below meth c H locs ls hC hR hL hl)
theorem zst_at {cA : ClassId} {n k : Nat} {f : Nat → Int32} {x : Int32} {H1 : Heap} {a : Nat} {D : va_G} (e : H1[a]? = some ((vp_cell cA (n, .inl f)).setSlot k (.int x))) : va_at D zcl (a, .inl (cA, n, .inl (upd f k x))) H1 := by
  show H1[a]? = some (vp_cell _ _)
  rw [e, vp_cell_i, vp_cell_i, arrV_store]
  congr 2
  funext q
  by_cases hq : q = k
  · subst hq
    simp [updV, upd]
  · simp [updV, upd, hq]
theorem go_iast {a n j : Nat} {f : Nat → Int32} {i x : Int32} (hd : decode (zb E) pc = .ok (.iastore, 1)) (hh : h.1 a = some (zai (zg E) n f)) (hin : vp_in i n) (hj : i.toNatClampNeg = j) (kk : Go E cs sl (pc + 1) lv st (zu h a (zai (zg E) n (upd f j x)))) : Go E cs sl pc lv (.int x :: .int i :: .ref a :: st) h := by
  intro p e R s m args below meth c H locs ls hC hR hL hl
  subst hj
  refine W.iast hC.1 hC.2.1 (hR.2.2.1 a _ hh).2 (zty_i hC.2.2.2.2.2.2.2.2.1.1 n (fun j => .int (f j))) (fun q => by cases q) (by show ¬ (i < 0 ∨ (arrV _ _ _).slots.size ≤ _); rw [arrV_size]; exact hin) rfl rfl hd fun H1 e1 z oq => ?_
  exact kk p e R s m args below meth c H1 _ ls hC (hR.put hh (zst_at e1) z oq) (zloc1 hL (hR.2.2.1 a _ hh).1) hl
theorem go_zast {a n j : Nat} {f : Nat → Int32} {i x : Int32} (hd : decode (zb E) pc = .ok (.bastore, 1)) (hh : h.1 a = some (zaz (zg E) n f)) (hin : vp_in i n) (hj : i.toNatClampNeg = j) (hx : x &&& 1 = x) (kk : Go E cs sl (pc + 1) lv st (zu h a (zaz (zg E) n (upd f j x)))) : Go E cs sl pc lv (.int x :: .int i :: .ref a :: st) h := by
  intro p e R s m args below meth c H locs ls hC hR hL hl
  subst hj
  refine W.zast hC.1 hC.2.1 (hR.2.2.1 a _ hh).2 (zty_z hC.2.2.2.2.2.2.2.2.1.1 n (fun j => .int (f j))) (fun q => by cases q) (by show ¬ (i < 0 ∨ (arrV _ _ _).slots.size ≤ _); rw [arrV_size]; exact hin) rfl rfl hd fun H1 e1 z oq => ?_
  have hxx : narrow .boolean (.int x) = .int x := by show Value.int (x &&& 1) = _; rw [hx]
  rw [hxx] at e1
  exact kk p e R s m args below meth c H1 _ ls hC (hR.put hh (zst_at e1) z oq) (zloc1 hL (hR.2.2.1 a _ hh).1) hl
theorem go_aast {t0 ci : Nat} {r : vw_C} {a n j b : Nat} {vs : List Value} {cA : ClassId} {f : Nat → Option Nat} {i : Int32} (hd : decode (zb E) pc = .ok (.aastore, 1)) (hh : h.1 a = some (.inl (cA, n, .inr (.inr (.inr (.inr f)))))) (ht : (zty (zg E))[t0]? = some (cA, .object r.1)) (hb : h.1 b = some (.inr (ci, vs))) (hc : zcl[ci]? = some r) (hin : vp_in i n) (hj : i.toNatClampNeg = j) (kk : Go E cs sl (pc + 1) lv st (zu h a (.inl (cA, n, .inr (.inr (.inr (.inr (va_up f j (some b))))))))) : Go E cs sl pc lv (.ref b :: .int i :: .ref a :: st) h := by
  intro p e R s m args below meth c H locs ls hC hR hL hl
  subst hj
  have hK := hC.2.2.2.2.2.2.2.2.1.1
  have hlt : i.toNatClampNeg < n := Nat.not_le.mp fun q => hin (Or.inr q)
  have h0 : ¬ i < 0 := fun q => hin (Or.inl q)
  obtain ⟨r', hr', cellV, g1, g2, g3, -⟩ := (hR.2.2.1 b _ hb).2
  have hcls := (hK.1 ci r hc).2
  obtain ⟨kA, comp, k1, k2, k3, -⟩ := (hK.2 t0 _ ht).2
  have hcomp : comp = (zg E).1.1 ci := Option.some.inj (k3.symm.trans hcls.1)
  subst hcomp
  obtain ⟨kC, hkC, -⟩ := hcls.2
  refine W.aast hC.1 hC.2.1 (hR.2.2.1 a _ hh).2 (fun q h => by cases h) (fun h => by cases h) k1 k2 rfl hkC ⟨h0, by show _ < (arrV _ _ _).slots.size; rw [arrV_size]; exact hlt⟩ g1 (fun q h => by rw [g3] at h; cases h) (by rw [g2]; exact hkC) (by rw [g2]; exact va_assign hcls) rfl rfl hd fun H1 e1 z oq => ?_
  refine kk p e R s m args below meth c H1 _ ls hC (hR.put hh ?_ z oq) (zloc1 hL (hR.2.2.1 a _ hh).1) hl
  show H1[a]? = some (vp_cell _ _)
  rw [e1, vp_cell_q, vp_cell_q, arrV_store]
  congr 2
  funext q
  by_cases hq : q = i.toNatClampNeg
  · subst hq
    simp [updV, va_up, va_rf]
  · simp [updV, va_up, hq]
theorem go_new {idx ci : Nat} {C : String} {T : u_T} {N : Nat} {fs : List Value} (hd : decode (zb E) pc = .ok (.new idx, 3)) (hc : zcl[ci]? = some (C, T, N)) (hw : Cond.classLink (zo E) idx C ∈ zT ∧ Cond.instantiable C N ∈ zT ∧ Cond.initialized C ∈ zT) (hfs : ∀ j, j < N → defaultValue (zct ci j) = vp_V fs j) (hcs : cs + 1 ≤ zcc E) (hsl : sl + N ≤ zcs E)
    (kk : Go E (cs + 1) (sl + N) (pc + 3) lv (.ref h.2 :: st) (zp h (.inr (ci, fs)))) : Go E cs sl pc lv st h := by
  intro p e R s m args below meth c H locs ls hC hR hL hl
  have hts := hC.2.2.2.2.2.2.2.1
  obtain ⟨hin, hnm, hty⟩ := zcl_ok hc
  have hKn := hC.2.2.2.2.2.2.2.2.1.1.1 ci _ hc
  have hrc := hC.2.2.2.2.2.2.2.2.2.2.2.2.1
  have hrs := hC.2.2.2.2.2.2.2.2.2.2.2.2.2
  refine W.newcK hC.1 hC.2.1 hC.2.2.2.2.2.1 (hts _ hw.1) (hts _ hw.2.1) (hts _ hw.2.2) rfl hd (by omega) (by omega) hKn.2.1 rfl fun H1 kC hkC e1 z1 o1 => ?_
  have hR1 := hR.push (e := .inr (ci, fs)) (H1 := H1) ⟨_, hc, (u_born (zct ci) hts hin hKn hkC e1 hty).to hfs⟩ z1 o1
  have := kk p e R s m args below meth c H1 locs ls hC hR1 hL hl
  rw [hR.1] at this
  exact this
theorem go_newi {n : Int32} {N : Nat} (hd : decode (zb E) pc = .ok (.newarray .int, 2)) (hw : Cond.arrayClass .int ∈ zT) (hn : ¬ n < 0) (hN : n.toNatClampNeg = N) (hsm : N ≤ 100000) (hcs : cs + 1 ≤ zcc E) (hsl : sl + N ≤ zcs E)
    (kk : Go E (cs + 1) (sl + N) (pc + 2) lv (.ref h.2 :: st) (zp h (zai (zg E) N (fun _ => 0)))) : Go E cs sl pc lv (.int n :: st) h := by
  intro p e R s m args below meth c H locs ls hC hR hL hl
  have hts := hC.2.2.2.2.2.2.2.1
  have hrc := hC.2.2.2.2.2.2.2.2.2.2.2.2.1
  have hrs := hC.2.2.2.2.2.2.2.2.2.2.2.2.2
  refine va_newaK (atype := .int) hC.1 hC.2.1 (hts _ hw) rfl hd rfl hn hN (by show N * 4 ≤ _; omega) (by omega) (by omega) rfl fun H1 cA e1 z1 o1 hAr hNm => ?_
  have hcA : cA = (zg E).2.1 0 := Option.some.inj (hNm.symm.trans (hC.2.2.2.2.2.2.2.2.1.1.2 0 _ rfl).2)
  subst hcA
  have hR1 := hR.push (e := zai (zg E) N (fun _ => 0)) (H1 := H1) e1 z1 o1
  have := kk p e R s m args below meth c H1 locs ls hC hR1 hL hl
  rw [hR.1] at this
  exact this
theorem go_newz {n : Int32} {N : Nat} (hd : decode (zb E) pc = .ok (.newarray .boolean, 2)) (hw : Cond.arrayClass .boolean ∈ zT) (hn : ¬ n < 0) (hN : n.toNatClampNeg = N) (hsm : N ≤ 100000) (hcs : cs + 1 ≤ zcc E) (hsl : sl + N ≤ zcs E)
    (kk : Go E (cs + 1) (sl + N) (pc + 2) lv (.ref h.2 :: st) (zp h (zaz (zg E) N (fun _ => 0)))) : Go E cs sl pc lv (.int n :: st) h := by
  intro p e R s m args below meth c H locs ls hC hR hL hl
  have hts := hC.2.2.2.2.2.2.2.1
  have hrc := hC.2.2.2.2.2.2.2.2.2.2.2.2.1
  have hrs := hC.2.2.2.2.2.2.2.2.2.2.2.2.2
  refine va_newaK (atype := .boolean) hC.1 hC.2.1 (hts _ hw) rfl hd rfl hn hN (by show N * 1 ≤ _; omega) (by omega) (by omega) rfl fun H1 cA e1 z1 o1 hAr hNm => ?_
  have hcA : cA = (zg E).2.1 1 := Option.some.inj (hNm.symm.trans (hC.2.2.2.2.2.2.2.2.1.1.2 1 _ rfl).2)
  subst hcA
  have hR1 := hR.push (e := zaz (zg E) N (fun _ => 0)) (H1 := H1) e1 z1 o1
  have := kk p e R s m args below meth c H1 locs ls hC hR1 hL hl
  rw [hR.1] at this
  exact this
theorem go_anew {idx t0 : Nat} {C : String} {n : Int32} {N : Nat} {cA0 : ClassId} (hd : decode (zb E) pc = .ok (.anewarray idx, 3)) (hw : Cond.classLink (zo E) idx C ∈ zT) (ho : ∀ U : State, zK (zg E) U → va_AO C U) (ht : (zty (zg E))[t0]? = some (cA0, .object C)) (hn : ¬ n < 0) (hN : n.toNatClampNeg = N) (hsm : N ≤ 100000) (hcs : cs + 1 ≤ zcc E) (hsl : sl + N ≤ zcs E)
    (kk : Go E (cs + 1) (sl + N) (pc + 3) lv (.ref h.2 :: st) (zp h (.inl (cA0, N, .inr (.inr (.inr (.inr (fun _ => none)))))))) : Go E cs sl pc lv (.int n :: st) h := by
  intro p e R s m args below meth c H locs ls hC hR hL hl
  subst hN
  have hts := hC.2.2.2.2.2.2.2.1
  have hrc := hC.2.2.2.2.2.2.2.2.2.2.2.2.1
  have hrs := hC.2.2.2.2.2.2.2.2.2.2.2.2.2
  refine W.anew hC.1 hC.2.1 hC.2.2.2.2.2.1 (hts _ hw) (va_AO.use (ho s hC.2.2.2.2.2.2.2.2.1)) rfl hd rfl hn (by omega) (by omega) (by omega) fun cA kA comp f1 f2 f3 f4 => ?_
  obtain ⟨-, -, -, -, -, f5⟩ := (hC.2.2.2.2.2.2.2.2.1.1.2 t0 _ ht).2
  have hcA : cA = cA0 := Option.some.inj (f1.symm.trans f5)
  subst hcA
  generalize hH1 : H.push ({ cls := cA, slots := Array.replicate n.toNatClampNeg .null, vm := .none } : Cell) = H1
  have z1 : H1.size = H.size + 1 := by rw [← hH1, Array.size_push]
  have e1 : H1[H.size]? = some (arrV cA n.toNatClampNeg (fun _ => .null)) := by rw [← hH1, Array.getElem?_push_size, ← arrV_new]
  have o1 : ∀ q : Nat, q < H.size → H1[q]? = H[q]? := fun q hq => by rw [← hH1, Array.getElem?_push, if_neg (Nat.ne_of_lt hq)]
  have hR1 := hR.push (e := .inl (cA, n.toNatClampNeg, .inr (.inr (.inr (.inr (fun _ => none)))))) (H1 := H1) e1 z1 o1
  have := kk p e R s m args below meth c H1 locs ls hC hR1 hL hl
  rw [hR.1] at this
  exact this
theorem zSfull {γ : zG} {h : zH} {H : Heap} (hR : zR γ h H) : ∀ q : Nat, q < γ.2.2.1.size → ¬ zA γ q → H[q]? = γ.2.2.1[q]? := fun q hq _ => hR.2.2.2 q hq
theorem go_gets {idx k : Nat} (hd : decode (zb E) pc = .ok (.getstatic idx, 3)) (hk : k < 3) (hw : Cond.fieldLink (zo E) idx RX3 (zsn k) "[I" ∈ zT) (kk : Go E cs sl (pc + 3) lv (.ref ((zg E).2.2.2 k) :: st) h) : Go E cs sl pc lv st h := by
  intro p e R s m args below meth c H locs ls hC hR hL hl
  obtain ⟨⟨cf, kf, fi, f, a, cell, h1, h2, h3, h4, h5, h6, h7, h8⟩, -⟩ := hC.2.2.2.2.2.2.2.2.1.2.1 k hk
  exact W.gets hC.1 hC.2.1 hC.2.2.2.2.2.1 (hC.2.2.2.2.2.2.2.1 _ hw) h1 h2 h3 h4 (by rw [zSfull hR a (Array.getElem?_eq_some_iff.mp h5).1 h8]; exact h5) (fun e => by rw [e] at h6; cases h6) h7 rfl hd (kk p e R s m args below meth c H locs ls hC hR hL hl)
theorem go_tald {k j : Nat} {i : Int32} (hd : decode (zb E) pc = .ok (.iaload, 1)) (hk : k < 3) (hin : vp_in i 5) (hj : i.toNatClampNeg = j) (kk : Go E cs sl (pc + 1) lv (.int (zsv k j) :: st) h) : Go E cs sl pc lv (.int i :: .ref ((zg E).2.2.2 k) :: st) h := by
  intro p e R s m args below meth c H locs ls hC hR hL hl
  subst hj
  obtain ⟨-, cell, h1, h2, h3, h4, h5, h6, h7⟩ := hC.2.2.2.2.2.2.2.2.1.2.1 k hk
  have hlt : i.toNatClampNeg < 5 := Nat.not_le.mp fun q => hin (Or.inr q)
  have hin' : ¬ (i < 0 ∨ cell.slots.size ≤ i.toNatClampNeg) := by
    intro q
    rcases q with q | q
    · exact hin (Or.inl q)
    · omega
  exact W.iald (v := .int (zsv k i.toNatClampNeg)) hC.1 hC.2.1 (by rw [zSfull hR _ (Array.getElem?_eq_some_iff.mp h1).1 h7]; exact h1) h2 h3 hin' (h6 _ hlt) rfl rfl hd (kk p e R s m args below meth c H locs ls hC hR hL hl)
theorem go_tlen {k : Nat} (hd : decode (zb E) pc = .ok (.arraylength, 1)) (hk : k < 3) (kk : Go E cs sl (pc + 1) lv (.int 5 :: st) h) : Go E cs sl pc lv (.ref ((zg E).2.2.2 k) :: st) h := by
  intro p e R s m args below meth c H locs ls hC hR hL hl
  obtain ⟨-, cell, h1, h2, h3, h4, h5, h6, h7⟩ := hC.2.2.2.2.2.2.2.2.1.2.1 k hk
  exact W.alen (n := 5) hC.1 hC.2.1 (by rw [zSfull hR _ (Array.getElem?_eq_some_iff.mp h1).1 h7]; exact h1) h2 h5 rfl rfl hd (kk p e R s m args below meth c H locs ls hC hR hL hl)
theorem go_ldcw {idx : Nat} {v : Int32} (hd : decode (zb E) pc = .ok (.ldc_w idx, 3)) (hw : Cond.constant (zo E) idx v ∈ zT) (kk : Go E cs sl (pc + 3) lv (.int v :: st) h) : Go E cs sl pc lv st h := by
  intro p e R s m args below meth c H locs ls hC hR hL hl
  exact lv_ldcw hC.1 hC.2.1 hC.2.2.2.2.2.1 (hC.2.2.2.2.2.2.2.1 _ hw) hd (kk p e R s m args below meth c H locs ls hC hR hL hl)
theorem go_objInit {idx a : Nat} (hd : decode (zb E) pc = .ok (.invokespecial idx, 3)) (hw : Cond.methodLink (zo E) idx objectInit ∈ zT ∧ Cond.instanceMethod objectInit ∈ zT ∧ Cond.code objectInit ⟨#[0xb1]⟩ 1 none ∈ zT) (hn : 1 ≤ zn E) (kk : Go E cs sl (pc + 3) lv [] h) : Go E cs sl pc lv [.ref a] h := by
  intro p e R s m args below meth c H locs ls hC hR hL hl
  have hts := hC.2.2.2.2.2.2.2.1
  have hfr := hC.2.2.2.2.2.2.2.2.2.2.1
  have hlo := hC.2.2.2.2.2.2.2.2.2.2.2.1
  exact W.objInit hC.1 hC.2.1 hC.2.2.2.2.2.1 (hts _ hw.1) (hts _ hw.2.1) (hts _ hw.2.2) rfl (by rw [hC.2.2.2.2.1]; exact hl.1) rfl hd (by omega) (by show 2 * 0 + 0 + 12 ≤ _; omega) (kk p e R s m args below meth c H locs ls hC hR hL hl)
end ZH
end
section
/-! rows: calls and ends -/
theorem zP_blind (γ : zG) (As : List Value) (h : zH) : FrameBlind (zP γ As h) := fun a U g mk q => ⟨q.1, q.2.1, zK.moved (u := U) (U := U.calling g mk a) (Vm.Alike.refl U.vm) q.2.2⟩
/-- what a call needs of the method that is called -/
def zMo (M : zM) (np : Nat) : Prop := Cond.code M.1 M.2.1 M.2.2.1 M.2.2.2 ∈ zT ∧ Cond.initialized M.1.cls ∈ zT ∧ (M.1.cls ≠ "java/lang/invoke/MethodHandle" ∧ M.1.cls ≠ "java/lang/invoke/VarHandle" ∧ (parseMethodDescriptor M.1.desc).map (fun d => d.parameters.length) = some np) ∧ M.2.2.1 ≤ 17
theorem zgood_in {M : zM} {np : Nat} (hm : zMo M np) : GoodIn zT (Cond.code M.1 M.2.1 M.2.2.1 M.2.2.2 :: zT) := fun w hw => by
  rcases List.mem_cons.mp hw with h | h
  · subst h; exact ⟨hm.1, zT_good hm.1⟩
  · exact ⟨h, zT_good h⟩
section ZC
variable {E : zE} {cs sl pc : Nat} {lv : zLv} {st : List Value} {h : zH}
theorem zcallB {p : Program} {R : Room} {s : State} {m : MethodId} {args : Array Value} {meth : Method} {c : Code} {M : zM} {np n' C' S' idx : Nat} (hC : zC E p R s m args meth c) (hm : zMo M np) (hl : Cond.methodLink (zo E) idx M.1 ∈ zT) (hn : n' + 1 ≤ zn E) :
    CallB R s args (zo E) idx M.1 M.2.1 M.2.2.1 M.2.2.2 (.code M.1 M.2.1 M.2.2.1 M.2.2.2 :: zT) (zrm n' C' S') C' S' np := by
  have hts := hC.2.2.2.2.2.2.2.1
  have hfr := hC.2.2.2.2.2.2.2.2.2.2.1
  have hlo := hC.2.2.2.2.2.2.2.2.2.2.2.1
  have hM := hm.2.2.2
  exact callB_of (ws' := zT) (rm := zrm n' C' S') np hts (zgood_in hm) rfl rfl rfl (hts _ hm.2.1) (hts _ hl) hm.2.2.1 ⟨by show n' + 1 ≤ _; omega, by show 8 + (M.2.2.1 + 11) + 36 * n' ≤ _; omega⟩
theorem zafter {p : Program} {e : Env} {R : Room} {s : State} {m : MethodId} {args : Array Value} {below : List Frame} {meth : Method} {c : Code} {H : Heap} {locs : List Loc} {ls : Array Slot} {mc ms : Nat} {st0 rest : List Value} {a : Array Value} {r : Option Value} {h1 : zH}
    (hr : va_Run p (zl E) e R s m args below meth c H locs cs sl mc ms (F0 m pc ls st0) rest (zQ (zg E) r h1 a) (zA (zg E))) (hC : zC E p R s m args meth c) (hL : ∀ q ∈ locs, zN (zg E) ≤ q.base) (hl : zloc ls (zm E).2.2.1 lv)
    (kk : Go E (cs + mc) (sl + ms) (pc + 3) lv (r.toList ++ rest) h1) : W p (zl E) e R s m args below meth c H locs cs sl (zf E s args below) (F0 m pc ls st0) := by
  intro T hT X
  obtain ⟨v, st₀, t, T', L, h0, X', hLL, e1, e2, ⟨hv, hR1⟩, st⟩ := hr T hT X
  cases hv
  rw [← e1] at hR1
  obtain ⟨t2, a1, b1⟩ := kk p e R s m args below meth c T'.heap (locs ++ L) ls hC hR1 (zlocs hL hLL) hl T' rfl X'
  exact ⟨t2, st t2 a1, b1⟩
theorem go_callV {idx np n' C' S' b ci : Nat} {M : zM} {As rest fs : List Value} {r : Option Value} {h1 : zH} {q : vw_C} (hd : decode (zb E) pc = .ok (.invokevirtual idx, 3)) (hm : zMo M np)
    (hw : Cond.methodLink (zo E) idx M.1 ∈ zT ∧ Cond.instanceMethod M.1 ∈ zT ∧ Cond.selects M.1.cls M.1 M.1 ∈ zT) (hc : zcl[ci]? = some q ∧ q.1 = M.1.cls)
    (hcon : Con (zg E) (zl E) n' C' S' M (.ref b :: As) h r h1) (hh : h.1 b = some (.inr (ci, fs))) (hst : st = As.reverse ++ .ref b :: rest) (hnp : As.length = np) (hn : n' + 1 ≤ zn E) (hcs : cs + C' ≤ zcc E) (hsl : sl + S' ≤ zcs E) (hrs : (rest.map fun v => v.category).sum ≤ 8)
    (kk : Go E (cs + C') (sl + S') (pc + 3) lv (r.toList ++ rest) h1) : Go E cs sl pc lv st h := by
  intro p e R s m args below meth c H locs ls hC hR hL hl
  have hts := hC.2.2.2.2.2.2.2.1
  have hrc := hC.2.2.2.2.2.2.2.2.2.2.2.2.1
  have hrl := hC.2.2.2.2.2.2.2.2.2.2.2.2.2
  have hK := hC.2.2.2.2.2.2.2.2.1
  have hP : va_P (zg E).1 zcl [(b, .inr (ci, fs))] H := fun j q hq => by
    match j, hq with
    | 0, hq => cases hq; exact (hR.2.2.1 b _ hh).2
    | j + 1, hq => simp at hq
  have hrecv := va_recv hK.1 hP hc.1 (q0 := 0) rfl
  rw [hc.2] at hrecv
  refine zafter (va_runV (C := M.1.cls) (Ts := zT) (own := zo E) (As := As) (rest := rest) (b := b) ⟨hC.1, hC.2.1, hC.2.2.2.2.1, hC.2.2.2.2.2.1, hts⟩ hcon ⟨zcallB hC hm hw.1 hn, hts _ hw.2.1, hts _ hw.2.2⟩ ⟨zP_blind _ _ _, hrecv, fun U hU hW => ⟨rfl, by rw [hU]; exact hR, hK.moved hW.alike⟩⟩ rfl hnp hl.1 hst (by show 2 * 0 + _ ≤ 8; omega) hd ⟨by omega, by omega⟩) hC hL hl kk
theorem go_callS {idx np n' C' S' : Nat} {M : zM} {As rest : List Value} {r : Option Value} {h1 : zH} (hd : decode (zb E) pc = .ok (.invokestatic idx, 3)) (hm : zMo M np)
    (hw : Cond.methodLink (zo E) idx M.1 ∈ zT ∧ Cond.static M.1 ∈ zT)
    (hcon : Con (zg E) (zl E) n' C' S' M As h r h1) (hst : st = As.reverse ++ rest) (hnp : As.length = np) (hn : n' + 1 ≤ zn E) (hcs : cs + C' ≤ zcc E) (hsl : sl + S' ≤ zcs E) (hrs : (rest.map fun v => v.category).sum ≤ 8)
    (kk : Go E (cs + C') (sl + S') (pc + 3) lv (r.toList ++ rest) h1) : Go E cs sl pc lv st h := by
  intro p e R s m args below meth c H locs ls hC hR hL hl
  have hts := hC.2.2.2.2.2.2.2.1
  have hrc := hC.2.2.2.2.2.2.2.2.2.2.2.2.1
  have hrl := hC.2.2.2.2.2.2.2.2.2.2.2.2.2
  have hK := hC.2.2.2.2.2.2.2.2.1
  refine zafter (va_runS (Ts := zT) (own := zo E) (As := As) (rest := rest) ⟨hC.1, hC.2.1, hC.2.2.2.2.1, hC.2.2.2.2.2.1, hts⟩ hcon ⟨zcallB hC hm hw.1 hn, hts _ hw.2⟩ ⟨zP_blind _ _ _, fun U hU hW => ⟨rfl, by rw [hU]; exact hR, hK.moved hW.alike⟩⟩ rfl hnp hl.1 hst (by show 2 * 0 + _ ≤ 8; omega) hd ⟨by omega, by omega⟩) hC hL hl kk
theorem go_callI {idx np n' C' S' b : Nat} {M : zM} {As rest : List Value} {r : Option Value} {h1 : zH} (hd : decode (zb E) pc = .ok (.invokespecial idx, 3)) (hm : zMo M np)
    (hw : Cond.methodLink (zo E) idx M.1 ∈ zT ∧ Cond.instanceMethod M.1 ∈ zT) (hi : M.1.name = "<init>" ∧ M.2.2.2 = none)
    (hcon : Con (zg E) (zl E) n' C' S' M (.ref b :: As) h r h1) (hst : st = As.reverse ++ .ref b :: rest) (hnp : As.length = np) (hn : n' + 1 ≤ zn E) (hcs : cs + C' ≤ zcc E) (hsl : sl + S' ≤ zcs E) (hrs : (rest.map fun v => v.category).sum ≤ 8)
    (kk : Go E (cs + C') (sl + S') (pc + 3) lv (r.toList ++ rest) h1) : Go E cs sl pc lv st h := by
  intro p e R s m args below meth c H locs ls hC hR hL hl
  have hts := hC.2.2.2.2.2.2.2.1
  have hrc := hC.2.2.2.2.2.2.2.2.2.2.2.2.1
  have hrl := hC.2.2.2.2.2.2.2.2.2.2.2.2.2
  have hK := hC.2.2.2.2.2.2.2.2.1
  have hB := zcallB (C' := C') (S' := S') hC hm hw.1 hn
  unfold Con at hcon
  rw [hi.2] at hB hcon
  refine zafter (va_runI (Ts := zT) (own := zo E) (As := As) (rest := rest) (b := b) ⟨hC.1, hC.2.1, hC.2.2.2.2.1, hC.2.2.2.2.2.1, hts⟩ hcon ⟨hB, hi.1, hts _ hw.2⟩ ⟨zP_blind _ _ _, fun U hU hW => ⟨rfl, by rw [hU]; exact hR, hK.moved hW.alike⟩⟩ rfl hnp hl.1 hst (by show 2 * 0 + _ ≤ 8; omega) hd ⟨by omega, by omega⟩) hC hL hl kk
theorem go_mmax {idx : Nat} {x y : Int32} (hd : decode (zb E) pc = .ok (.invokestatic idx, 3)) (hw : Cond.methodLink (zo E) idx Lib.Math.max.name ∈ zT ∧ Cond.static Lib.Math.max.name ∈ zT ∧ Cond.initialized "java/lang/Math" ∈ zT ∧ Cond.code Lib.Math.max.name Lib.Math.max.code 2 (some .int) ∈ zT) (hn : 1 ≤ zn E) (hcs : cs ≤ zcc E) (hsl : sl ≤ zcs E)
    (kk : Go E cs sl (pc + 3) lv [.int (if x < y then y else x)] h) : Go E cs sl pc lv [.int y, .int x] h := by
  intro p e R s m args below meth c H locs ls hC hR hL hl
  have hts := hC.2.2.2.2.2.2.2.1
  have hfr := hC.2.2.2.2.2.2.2.2.2.2.1
  have hlo := hC.2.2.2.2.2.2.2.2.2.2.2.1
  have hrc := hC.2.2.2.2.2.2.2.2.2.2.2.2.1
  have hrl := hC.2.2.2.2.2.2.2.2.2.2.2.2.2
  exact va_mmax hC.1 hC.2.1 (by rw [hC.2.2.2.2.1]; exact hl.1.symm) hC.2.2.2.2.2.1 (hts _ hw.1) (hts _ hw.2.1) (hts _ hw.2.2.1) (hts _ hw.2.2.2) (by omega) (by show 0 + 13 ≤ _; omega) (by omega) (by omega) hd (kk p e R s m args below meth c H locs ls hC hR hL hl)
end ZC
section ZF
variable {γ : zG} {l : Launch} {n C S cs sl pc : Nat} {M : zM} {lv : zLv} {h h' : zH} {r : Option Value}
theorem go_zret {v : Int32} {ty : FieldType} (hd : decode M.2.1 pc = .ok (.ireturn, 1)) (hty : M.2.2.2 = some ty) (hn : narrow ty (.int v) = .int v) (hr : r = some (.int v)) (hh : h' = h) (hcs : cs ≤ C) (hsl : sl ≤ S) : Go (γ, l, n, (C, S), M, zF γ C S r h') cs sl pc lv [.int v] h := by
  intro p e R s m args below meth c H locs ls hC hR hL hl
  subst hr; subst hh
  have hlocks := hC.2.2.2.1
  refine W.widen (k := C) (n := S) hcs hsl ?_
  exact W.zret (Qc := zQ γ (some (.int v)) h') (free := zA γ) hC.1 hC.2.1 (hC.2.2.1.trans hty) hn (fun t ht hW => ⟨rfl, by rw [ht]; exact hR⟩) hL hd hlocks
theorem go_iret {v : Int32} (hd : decode M.2.1 pc = .ok (.ireturn, 1)) (hty : M.2.2.2 = some .int) (hr : r = some (.int v)) (hh : h' = h) (hcs : cs ≤ C) (hsl : sl ≤ S) : Go (γ, l, n, (C, S), M, zF γ C S r h') cs sl pc lv [.int v] h := go_zret hd hty rfl hr hh hcs hsl
theorem go_vret (hd : decode M.2.1 pc = .ok (.return_, 1)) (hty : M.2.2.2 = none) (hr : r = none) (hh : h' = h) (hcs : cs ≤ C) (hsl : sl ≤ S) : Go (γ, l, n, (C, S), M, zF γ C S r h') cs sl pc lv [] h := by
  intro p e R s m args below meth c H locs ls hC hR hL hl
  subst hr; subst hh
  have hlocks := hC.2.2.2.1
  refine W.widen (k := C) (n := S) hcs hsl ?_
  exact W.vret (Qc := zQ γ none h') (free := zA γ) hC.1 hC.2.1 (hC.2.2.1.trans hty) (fun t ht hW => ⟨rfl, by rw [ht]; exact hR⟩) hL hd hlocks
end ZF
section ZV
variable {E : zE} {cs sl pc : Nat} {lv lv' : zLv} {st : List Value} {h h1 : zH}
theorem go_lv (hs : zsub lv 0 lv') (k : Go E cs sl pc lv' st h) : Go E cs sl pc lv st h := fun p e R s m args below meth c H locs ls hC hR hL hl => k p e R s m args below meth c H locs ls hC hR hL (hl.sub hs)
theorem go_h (he : h = h1) (k : Go E cs sl pc lv st h1) : Go E cs sl pc lv st h := he ▸ k
theorem go_at {pc' : Nat} {st' : List Value} (h1 : lv = lv') (h2 : st = st') (h3 : pc = pc') (k : Go E cs sl pc' lv' st' h) : Go E cs sl pc lv st h := by subst h1; subst h2; subst h3; exact k
theorem go_top {x : Int32} (k : ∀ y : Int32, y = x → Go E cs sl pc lv (.int y :: st) h) : Go E cs sl pc lv (.int x :: st) h := k x rfl
theorem go_widen {cs' sl' : Nat} (h1 : cs ≤ cs') (h2 : sl ≤ sl') (k : Go E cs' sl' pc lv st h) : Go E cs sl pc lv st h := fun p e R s m args below meth c H locs ls hC hR hL hl => W.widen h1 h2 (k p e R s m args below meth c H locs ls hC hR hL hl)
theorem go_copyi {idx a0 a n0 n1 j : Nat} {f g : Nat → Int32} {n : Int32} (hd : decode (zb E) pc = .ok (.invokestatic idx, 3)) (hw : Cond.methodLink (zo E) idx arraycopyName ∈ zT ∧ Cond.native arraycopyName ∈ zT ∧ Cond.static arraycopyName ∈ zT ∧ Cond.initialized "java/lang/System" ∈ zT)
    (hs : h.1 a0 = some (zai (zg E) n0 f)) (ht : h.1 a = some (zai (zg E) n1 g)) (hn : ¬ n < 0) (hj : n.toNatClampNeg = j) (h4 : j ≤ n0) (h5 : j ≤ n1) (hlev : 1 ≤ zn E) (hnw : nativeFrameWords "java/lang/System" "arraycopy" 5 ≤ 25)
    (kk : Go E cs sl (pc + 3) lv [] (zu h a (zai (zg E) n1 (va_cpy f g 0 0 j)))) : Go E cs sl pc lv [.int n, .int 0, .ref a, .int 0, .ref a0] h := by
  intro p e R s m args below meth c H locs ls hC hR hL hl
  subst hj
  have hts := hC.2.2.2.2.2.2.2.1
  have hfr := hC.2.2.2.2.2.2.2.2.2.2.1
  have hlo := hC.2.2.2.2.2.2.2.2.2.2.2.1
  have hK := hC.2.2.2.2.2.2.2.2.1.1
  have nn : ∀ z : Int32, ¬ z < 0 → z.toInt = (z.toNatClampNeg : Int) := by
    intro z hz
    have hz0 : (0 : Int) ≤ z.toInt := by
      have := Int32.not_lt.mp hz
      simpa using Int32.le_iff_toInt_le.mp this
    show z.toInt = ((z.toInt.toNat : Nat) : Int)
    omega
  have hz : ¬ (0 : Int32) < 0 := by decide
  have hzc : (0 : Int32).toNatClampNeg = 0 := by decide
  intro T hT X
  have hc0 : H[a0]? = some (vp_cell ((zg E).2.1 0) (n0, .inl f)) := (hR.2.2.1 a0 _ hs).2
  have hc1 : H[a]? = some (vp_cell ((zg E).2.1 0) (n1, .inl g)) := (hR.2.2.1 a _ ht).2
  obtain ⟨-, k0, hk0, cm0, hkk0⟩ := zty_i hK n0 (fun j => .int (f j))
  obtain ⟨-, k1, hk1, cm1, hkk1⟩ := zty_i hK n1 (fun j => .int (g j))
  obtain ⟨vm', X', step⟩ := X.arraycopy hC.1 hC.2.2.2.2.2.1 (hts _ hw.1) (hts _ hw.2.1) (hts _ hw.2.2.1) (hts _ hw.2.2.2) (src := a0) (dst := a) (cs := vp_cell ((zg E).2.1 0) (n0, .inl f)) (cd := vp_cell ((zg E).2.1 0) (n1, .inl g)) (srcPos := 0) (destPos := 0) (n := n) (by rw [hT]; exact hc0) (by rw [hT]; exact hc1)
    (fun _ h => by cases h) (fun _ h => by cases h) (fun h => by cases h) (fun h => by cases h) hk0 hk1 hkk0 hkk1 (by simp [refKind]) hz hz hn
    (by rw [nn 0 hz, nn n hn, hzc]; show ¬ _ > ((arrV _ n0 (fun j => .int (f j))).slots.size : Int); rw [arrV_size]; omega)
    (by rw [nn 0 hz, nn n hn, hzc]; show ¬ _ > ((arrV _ n1 (fun j => .int (g j))).slots.size : Int); rw [arrV_size]; omega)
    (fun vm₁ _ i hi => by
      have e : (vp_cell ((zg E).2.1 0) (n0, .inl f)).slots.getD ((0 : Int32).toNatClampNeg + i) .null = .int (f ((0 : Int32).toNatClampNeg + i)) := by
        show (arrV _ n0 (fun j => .int (f j))).slots.getD _ _ = _
        rw [Array.getD_eq_getD_getElem?, arrV_read _ _ (by omega)]
        rfl
      refine ⟨?_, ?_⟩
      · rw [e]
        rfl
      · rw [e]
        exact trivial)
    (g := F0 m pc ls [.int n, .int 0, .ref a, .int 0, .ref a0]) rfl (by rw [hC.2.2.2.2.1]; exact hl.1) (rest := []) rfl (by rw [hC.2.1]; exact hd) (by omega) (by show 2 * 0 + 0 + (nativeFrameWords "java/lang/System" "arraycopy" 5 + 11) ≤ _; omega)
  have e1 : copied (vp_cell ((zg E).2.1 0) (n0, .inl f)) (vp_cell ((zg E).2.1 0) (n1, .inl g)) 0 0 n = vp_cell ((zg E).2.1 0) (n1, .inl (va_cpy f g 0 0 n.toNatClampNeg)) := va_copied (sp := 0) (dp := 0) (fun z => .int z) _ _ f g (by omega)
  rw [e1] at X' step
  have hlt : a < H.size := (Array.getElem?_eq_some_iff.mp hc1).1
  have hheap : ((T.setVm vm').setCell a (vp_cell ((zg E).2.1 0) (n1, .inl (va_cpy f g 0 0 n.toNatClampNeg)))).heap = H.setIfInBounds a (vp_cell ((zg E).2.1 0) (n1, .inl (va_cpy f g 0 0 n.toNatClampNeg))) := by rw [← hT]; rfl
  have oq : ∀ q : Nat, q ≠ a → (H.setIfInBounds a (vp_cell ((zg E).2.1 0) (n1, .inl (va_cpy f g 0 0 n.toNatClampNeg))))[q]? = H[q]? := fun q hq => by simp [Array.getElem?_setIfInBounds, Ne.symm hq]
  have hR1 : zR (zg E) (zu h a (zai (zg E) n1 (va_cpy f g 0 0 n.toNatClampNeg))) (H.setIfInBounds a (vp_cell ((zg E).2.1 0) (n1, .inl (va_cpy f g 0 0 n.toNatClampNeg)))) := hR.put ht (show (H.setIfInBounds a _)[a]? = some _ by simp [Array.getElem?_setIfInBounds, hlt]) (by simp) oq
  obtain ⟨t, a1, b1⟩ := kk p e R s m args below meth c _ _ ls hC hR1 (zlocs hL (fun q hq => by
      obtain ⟨z, -, hz⟩ := List.mem_map.mp hq
      rw [← hz]
      exact (hR.2.2.1 a _ ht).1)) hl _ hheap X'
  exact ⟨t, step t a1, b1⟩
end ZV
end
section
/-! decode rows, as the task prints them -/
theorem dX0_init_0 : decode cX0_init 0 = .ok (.aload_n 0, 1) := by decide +kernel
theorem dX0_init_1 : decode cX0_init 1 = .ok (.invokespecial 3, 3) := by decide +kernel
theorem dX0_init_4 : decode cX0_init 4 = .ok (.aload_n 0, 1) := by decide +kernel
theorem dX0_init_5 : decode cX0_init 5 = .ok (.bipush 16, 2) := by decide +kernel
theorem dX0_init_7 : decode cX0_init 7 = .ok (.newarray .int, 2) := by decide +kernel
theorem dX0_init_9 : decode cX0_init 9 = .ok (.putfield 9, 3) := by decide +kernel
theorem dX0_init_12 : decode cX0_init 12 = .ok (.aload_n 0, 1) := by decide +kernel
theorem dX0_init_13 : decode cX0_init 13 = .ok (.bipush 16, 2) := by decide +kernel
theorem dX0_init_15 : decode cX0_init 15 = .ok (.newarray .int, 2) := by decide +kernel
theorem dX0_init_17 : decode cX0_init 17 = .ok (.putfield 15, 3) := by decide +kernel
theorem dX0_init_20 : decode cX0_init 20 = .ok (.aload_n 0, 1) := by decide +kernel
theorem dX0_init_21 : decode cX0_init 21 = .ok (.bipush 16, 2) := by decide +kernel
theorem dX0_init_23 : decode cX0_init 23 = .ok (.newarray .int, 2) := by decide +kernel
theorem dX0_init_25 : decode cX0_init 25 = .ok (.putfield 18, 3) := by decide +kernel
theorem dX0_init_28 : decode cX0_init 28 = .ok (.return_, 1) := by decide +kernel
theorem dX0_holds_0 : decode cX0_holds 0 = .ok (.iload_n 1, 1) := by decide +kernel
theorem dX0_holds_1 : decode cX0_holds 1 = .ok (.ifCond .lt 15, 3) := by decide +kernel
theorem dX0_holds_4 : decode cX0_holds 4 = .ok (.iload_n 1, 1) := by decide +kernel
theorem dX0_holds_5 : decode cX0_holds 5 = .ok (.aload_n 0, 1) := by decide +kernel
theorem dX0_holds_6 : decode cX0_holds 6 = .ok (.getfield 21, 3) := by decide +kernel
theorem dX0_holds_9 : decode cX0_holds 9 = .ok (.if_icmp .ge 7, 3) := by decide +kernel
theorem dX0_holds_12 : decode cX0_holds 12 = .ok (.iconst 1, 1) := by decide +kernel
theorem dX0_holds_13 : decode cX0_holds 13 = .ok (.goto 4, 3) := by decide +kernel
theorem dX0_holds_16 : decode cX0_holds 16 = .ok (.iconst 0, 1) := by decide +kernel
theorem dX0_holds_17 : decode cX0_holds 17 = .ok (.ireturn, 1) := by decide +kernel
theorem dX0_placeOf_0 : decode cX0_placeOf 0 = .ok (.aload_n 0, 1) := by decide +kernel
theorem dX0_placeOf_1 : decode cX0_placeOf 1 = .ok (.getfield 25, 3) := by decide +kernel
theorem dX0_placeOf_4 : decode cX0_placeOf 4 = .ok (.iload_n 1, 1) := by decide +kernel
theorem dX0_placeOf_5 : decode cX0_placeOf 5 = .ok (.iadd, 1) := by decide +kernel
theorem dX0_placeOf_6 : decode cX0_placeOf 6 = .ok (.bipush 16, 2) := by decide +kernel
theorem dX0_placeOf_8 : decode cX0_placeOf 8 = .ok (.irem, 1) := by decide +kernel
theorem dX0_placeOf_9 : decode cX0_placeOf 9 = .ok (.ireturn, 1) := by decide +kernel
theorem dX0_add_0 : decode cX0_add 0 = .ok (.aload_n 0, 1) := by decide +kernel
theorem dX0_add_1 : decode cX0_add 1 = .ok (.aload_n 0, 1) := by decide +kernel
theorem dX0_add_2 : decode cX0_add 2 = .ok (.getfield 21, 3) := by decide +kernel
theorem dX0_add_5 : decode cX0_add 5 = .ok (.invokevirtual 28, 3) := by decide +kernel
theorem dX0_add_8 : decode cX0_add 8 = .ok (.istore 4, 2) := by decide +kernel
theorem dX0_add_10 : decode cX0_add 10 = .ok (.aload_n 0, 1) := by decide +kernel
theorem dX0_add_11 : decode cX0_add 11 = .ok (.getfield 9, 3) := by decide +kernel
theorem dX0_add_14 : decode cX0_add 14 = .ok (.iload 4, 2) := by decide +kernel
theorem dX0_add_16 : decode cX0_add 16 = .ok (.iload_n 1, 1) := by decide +kernel
theorem dX0_add_17 : decode cX0_add 17 = .ok (.iastore, 1) := by decide +kernel
theorem dX0_add_18 : decode cX0_add 18 = .ok (.aload_n 0, 1) := by decide +kernel
theorem dX0_add_19 : decode cX0_add 19 = .ok (.getfield 15, 3) := by decide +kernel
theorem dX0_add_22 : decode cX0_add 22 = .ok (.iload 4, 2) := by decide +kernel
theorem dX0_add_24 : decode cX0_add 24 = .ok (.iload_n 2, 1) := by decide +kernel
theorem dX0_add_25 : decode cX0_add 25 = .ok (.iastore, 1) := by decide +kernel
theorem dX0_add_26 : decode cX0_add 26 = .ok (.aload_n 0, 1) := by decide +kernel
theorem dX0_add_27 : decode cX0_add 27 = .ok (.getfield 18, 3) := by decide +kernel
theorem dX0_add_30 : decode cX0_add 30 = .ok (.iload 4, 2) := by decide +kernel
theorem dX0_add_32 : decode cX0_add 32 = .ok (.iload_n 3, 1) := by decide +kernel
theorem dX0_add_33 : decode cX0_add 33 = .ok (.iastore, 1) := by decide +kernel
theorem dX0_add_34 : decode cX0_add 34 = .ok (.aload_n 0, 1) := by decide +kernel
theorem dX0_add_35 : decode cX0_add 35 = .ok (.getfield 21, 3) := by decide +kernel
theorem dX0_add_38 : decode cX0_add 38 = .ok (.bipush 16, 2) := by decide +kernel
theorem dX0_add_40 : decode cX0_add 40 = .ok (.if_icmp .ge 16, 3) := by decide +kernel
theorem dX0_add_43 : decode cX0_add 43 = .ok (.aload_n 0, 1) := by decide +kernel
theorem dX0_add_44 : decode cX0_add 44 = .ok (.dup, 1) := by decide +kernel
theorem dX0_add_45 : decode cX0_add 45 = .ok (.getfield 21, 3) := by decide +kernel
theorem dX0_add_48 : decode cX0_add 48 = .ok (.iconst 1, 1) := by decide +kernel
theorem dX0_add_49 : decode cX0_add 49 = .ok (.iadd, 1) := by decide +kernel
theorem dX0_add_50 : decode cX0_add 50 = .ok (.putfield 21, 3) := by decide +kernel
theorem dX0_add_53 : decode cX0_add 53 = .ok (.goto 12, 3) := by decide +kernel
theorem dX0_add_56 : decode cX0_add 56 = .ok (.aload_n 0, 1) := by decide +kernel
theorem dX0_add_57 : decode cX0_add 57 = .ok (.aload_n 0, 1) := by decide +kernel
theorem dX0_add_58 : decode cX0_add 58 = .ok (.iconst 1, 1) := by decide +kernel
theorem dX0_add_59 : decode cX0_add 59 = .ok (.invokevirtual 28, 3) := by decide +kernel
theorem dX0_add_62 : decode cX0_add 62 = .ok (.putfield 25, 3) := by decide +kernel
theorem dX0_add_65 : decode cX0_add 65 = .ok (.return_, 1) := by decide +kernel
theorem dX0_copyFrom_0 : decode cX0_copyFrom 0 = .ok (.aload_n 1, 1) := by decide +kernel
theorem dX0_copyFrom_1 : decode cX0_copyFrom 1 = .ok (.getfield 9, 3) := by decide +kernel
theorem dX0_copyFrom_4 : decode cX0_copyFrom 4 = .ok (.iconst 0, 1) := by decide +kernel
theorem dX0_copyFrom_5 : decode cX0_copyFrom 5 = .ok (.aload_n 0, 1) := by decide +kernel
theorem dX0_copyFrom_6 : decode cX0_copyFrom 6 = .ok (.getfield 9, 3) := by decide +kernel
theorem dX0_copyFrom_9 : decode cX0_copyFrom 9 = .ok (.iconst 0, 1) := by decide +kernel
theorem dX0_copyFrom_10 : decode cX0_copyFrom 10 = .ok (.bipush 16, 2) := by decide +kernel
theorem dX0_copyFrom_12 : decode cX0_copyFrom 12 = .ok (.invokestatic 32, 3) := by decide +kernel
theorem dX0_copyFrom_15 : decode cX0_copyFrom 15 = .ok (.aload_n 1, 1) := by decide +kernel
theorem dX0_copyFrom_16 : decode cX0_copyFrom 16 = .ok (.getfield 15, 3) := by decide +kernel
theorem dX0_copyFrom_19 : decode cX0_copyFrom 19 = .ok (.iconst 0, 1) := by decide +kernel
theorem dX0_copyFrom_20 : decode cX0_copyFrom 20 = .ok (.aload_n 0, 1) := by decide +kernel
theorem dX0_copyFrom_21 : decode cX0_copyFrom 21 = .ok (.getfield 15, 3) := by decide +kernel
theorem dX0_copyFrom_24 : decode cX0_copyFrom 24 = .ok (.iconst 0, 1) := by decide +kernel
theorem dX0_copyFrom_25 : decode cX0_copyFrom 25 = .ok (.bipush 16, 2) := by decide +kernel
theorem dX0_copyFrom_27 : decode cX0_copyFrom 27 = .ok (.invokestatic 32, 3) := by decide +kernel
theorem dX0_copyFrom_30 : decode cX0_copyFrom 30 = .ok (.aload_n 1, 1) := by decide +kernel
theorem dX0_copyFrom_31 : decode cX0_copyFrom 31 = .ok (.getfield 18, 3) := by decide +kernel
theorem dX0_copyFrom_34 : decode cX0_copyFrom 34 = .ok (.iconst 0, 1) := by decide +kernel
theorem dX0_copyFrom_35 : decode cX0_copyFrom 35 = .ok (.aload_n 0, 1) := by decide +kernel
theorem dX0_copyFrom_36 : decode cX0_copyFrom 36 = .ok (.getfield 18, 3) := by decide +kernel
theorem dX0_copyFrom_39 : decode cX0_copyFrom 39 = .ok (.iconst 0, 1) := by decide +kernel
theorem dX0_copyFrom_40 : decode cX0_copyFrom 40 = .ok (.bipush 16, 2) := by decide +kernel
theorem dX0_copyFrom_42 : decode cX0_copyFrom 42 = .ok (.invokestatic 32, 3) := by decide +kernel
theorem dX0_copyFrom_45 : decode cX0_copyFrom 45 = .ok (.aload_n 0, 1) := by decide +kernel
theorem dX0_copyFrom_46 : decode cX0_copyFrom 46 = .ok (.aload_n 1, 1) := by decide +kernel
theorem dX0_copyFrom_47 : decode cX0_copyFrom 47 = .ok (.getfield 25, 3) := by decide +kernel
theorem dX0_copyFrom_50 : decode cX0_copyFrom 50 = .ok (.putfield 25, 3) := by decide +kernel
theorem dX0_copyFrom_53 : decode cX0_copyFrom 53 = .ok (.aload_n 0, 1) := by decide +kernel
theorem dX0_copyFrom_54 : decode cX0_copyFrom 54 = .ok (.aload_n 1, 1) := by decide +kernel
theorem dX0_copyFrom_55 : decode cX0_copyFrom 55 = .ok (.getfield 21, 3) := by decide +kernel
theorem dX0_copyFrom_58 : decode cX0_copyFrom 58 = .ok (.putfield 21, 3) := by decide +kernel
theorem dX0_copyFrom_61 : decode cX0_copyFrom 61 = .ok (.return_, 1) := by decide +kernel
theorem dX1_init_0 : decode cX1_init 0 = .ok (.aload_n 0, 1) := by decide +kernel
theorem dX1_init_1 : decode cX1_init 1 = .ok (.invokespecial 3, 3) := by decide +kernel
theorem dX1_init_4 : decode cX1_init 4 = .ok (.aload_n 0, 1) := by decide +kernel
theorem dX1_init_5 : decode cX1_init 5 = .ok (.iconst 1, 1) := by decide +kernel
theorem dX1_init_6 : decode cX1_init 6 = .ok (.putfield 9, 3) := by decide +kernel
theorem dX1_init_9 : decode cX1_init 9 = .ok (.aload_n 0, 1) := by decide +kernel
theorem dX1_init_10 : decode cX1_init 10 = .ok (.iconst 2, 1) := by decide +kernel
theorem dX1_init_11 : decode cX1_init 11 = .ok (.putfield 15, 3) := by decide +kernel
theorem dX1_init_14 : decode cX1_init 14 = .ok (.aload_n 0, 1) := by decide +kernel
theorem dX1_init_15 : decode cX1_init 15 = .ok (.bipush (-6), 2) := by decide +kernel
theorem dX1_init_17 : decode cX1_init 17 = .ok (.putfield 19, 3) := by decide +kernel
theorem dX1_init_20 : decode cX1_init 20 = .ok (.return_, 1) := by decide +kernel
theorem dX1_isPowered_0 : decode cX1_isPowered 0 = .ok (.aload_n 0, 1) := by decide +kernel
theorem dX1_isPowered_1 : decode cX1_isPowered 1 = .ok (.getfield 22, 3) := by decide +kernel
theorem dX1_isPowered_4 : decode cX1_isPowered 4 = .ok (.ifCond .le 7, 3) := by decide +kernel
theorem dX1_isPowered_7 : decode cX1_isPowered 7 = .ok (.iconst 1, 1) := by decide +kernel
theorem dX1_isPowered_8 : decode cX1_isPowered 8 = .ok (.goto 4, 3) := by decide +kernel
theorem dX1_isPowered_11 : decode cX1_isPowered 11 = .ok (.iconst 0, 1) := by decide +kernel
theorem dX1_isPowered_12 : decode cX1_isPowered 12 = .ok (.ireturn, 1) := by decide +kernel
theorem dX1_isOverloaded_0 : decode cX1_isOverloaded 0 = .ok (.aload_n 0, 1) := by decide +kernel
theorem dX1_isOverloaded_1 : decode cX1_isOverloaded 1 = .ok (.invokevirtual 25, 3) := by decide +kernel
theorem dX1_isOverloaded_4 : decode cX1_isOverloaded 4 = .ok (.ifCond .eq 18, 3) := by decide +kernel
theorem dX1_isOverloaded_7 : decode cX1_isOverloaded 7 = .ok (.aload_n 0, 1) := by decide +kernel
theorem dX1_isOverloaded_8 : decode cX1_isOverloaded 8 = .ok (.getfield 29, 3) := by decide +kernel
theorem dX1_isOverloaded_11 : decode cX1_isOverloaded 11 = .ok (.aload_n 0, 1) := by decide +kernel
theorem dX1_isOverloaded_12 : decode cX1_isOverloaded 12 = .ok (.getfield 22, 3) := by decide +kernel
theorem dX1_isOverloaded_15 : decode cX1_isOverloaded 15 = .ok (.if_icmp .le 7, 3) := by decide +kernel
theorem dX1_isOverloaded_18 : decode cX1_isOverloaded 18 = .ok (.iconst 1, 1) := by decide +kernel
theorem dX1_isOverloaded_19 : decode cX1_isOverloaded 19 = .ok (.goto 4, 3) := by decide +kernel
theorem dX1_isOverloaded_22 : decode cX1_isOverloaded 22 = .ok (.iconst 0, 1) := by decide +kernel
theorem dX1_isOverloaded_23 : decode cX1_isOverloaded 23 = .ok (.ireturn, 1) := by decide +kernel
theorem dX1_hasRequest_0 : decode cX1_hasRequest 0 = .ok (.aload_n 0, 1) := by decide +kernel
theorem dX1_hasRequest_1 : decode cX1_hasRequest 1 = .ok (.getfield 32, 3) := by decide +kernel
theorem dX1_hasRequest_4 : decode cX1_hasRequest 4 = .ok (.ifCond .eq 16, 3) := by decide +kernel
theorem dX1_hasRequest_7 : decode cX1_hasRequest 7 = .ok (.aload_n 0, 1) := by decide +kernel
theorem dX1_hasRequest_8 : decode cX1_hasRequest 8 = .ok (.getfield 19, 3) := by decide +kernel
theorem dX1_hasRequest_11 : decode cX1_hasRequest 11 = .ok (.bipush (-6), 2) := by decide +kernel
theorem dX1_hasRequest_13 : decode cX1_hasRequest 13 = .ok (.if_icmp .eq 7, 3) := by decide +kernel
theorem dX1_hasRequest_16 : decode cX1_hasRequest 16 = .ok (.iconst 1, 1) := by decide +kernel
theorem dX1_hasRequest_17 : decode cX1_hasRequest 17 = .ok (.goto 4, 3) := by decide +kernel
theorem dX1_hasRequest_20 : decode cX1_hasRequest 20 = .ok (.iconst 0, 1) := by decide +kernel
theorem dX1_hasRequest_21 : decode cX1_hasRequest 21 = .ok (.ireturn, 1) := by decide +kernel
theorem dX1_isEligible_0 : decode cX1_isEligible 0 = .ok (.aload_n 0, 1) := by decide +kernel
theorem dX1_isEligible_1 : decode cX1_isEligible 1 = .ok (.getfield 9, 3) := by decide +kernel
theorem dX1_isEligible_4 : decode cX1_isEligible 4 = .ok (.ifCond .eq 21, 3) := by decide +kernel
theorem dX1_isEligible_7 : decode cX1_isEligible 7 = .ok (.aload_n 0, 1) := by decide +kernel
theorem dX1_isEligible_8 : decode cX1_isEligible 8 = .ok (.getfield 35, 3) := by decide +kernel
theorem dX1_isEligible_11 : decode cX1_isEligible 11 = .ok (.ifCond .eq 14, 3) := by decide +kernel
theorem dX1_isEligible_14 : decode cX1_isEligible 14 = .ok (.aload_n 0, 1) := by decide +kernel
theorem dX1_isEligible_15 : decode cX1_isEligible 15 = .ok (.invokevirtual 38, 3) := by decide +kernel
theorem dX1_isEligible_18 : decode cX1_isEligible 18 = .ok (.ifCond .eq 7, 3) := by decide +kernel
theorem dX1_isEligible_21 : decode cX1_isEligible 21 = .ok (.iconst 1, 1) := by decide +kernel
theorem dX1_isEligible_22 : decode cX1_isEligible 22 = .ok (.goto 4, 3) := by decide +kernel
theorem dX1_isEligible_25 : decode cX1_isEligible 25 = .ok (.iconst 0, 1) := by decide +kernel
theorem dX1_isEligible_26 : decode cX1_isEligible 26 = .ok (.ireturn, 1) := by decide +kernel
theorem dX1_canPowerUp_0 : decode cX1_canPowerUp 0 = .ok (.aload_n 0, 1) := by decide +kernel
theorem dX1_canPowerUp_1 : decode cX1_canPowerUp 1 = .ok (.invokevirtual 41, 3) := by decide +kernel
theorem dX1_canPowerUp_4 : decode cX1_canPowerUp 4 = .ok (.ifCond .eq 29, 3) := by decide +kernel
theorem dX1_canPowerUp_7 : decode cX1_canPowerUp 7 = .ok (.aload_n 0, 1) := by decide +kernel
theorem dX1_canPowerUp_8 : decode cX1_canPowerUp 8 = .ok (.invokevirtual 25, 3) := by decide +kernel
theorem dX1_canPowerUp_11 : decode cX1_canPowerUp 11 = .ok (.ifCond .ne 22, 3) := by decide +kernel
theorem dX1_canPowerUp_14 : decode cX1_canPowerUp 14 = .ok (.aload_n 0, 1) := by decide +kernel
theorem dX1_canPowerUp_15 : decode cX1_canPowerUp 15 = .ok (.getfield 44, 3) := by decide +kernel
theorem dX1_canPowerUp_18 : decode cX1_canPowerUp 18 = .ok (.ifCond .ne 15, 3) := by decide +kernel
theorem dX1_canPowerUp_21 : decode cX1_canPowerUp 21 = .ok (.aload_n 0, 1) := by decide +kernel
theorem dX1_canPowerUp_22 : decode cX1_canPowerUp 22 = .ok (.getfield 47, 3) := by decide +kernel
theorem dX1_canPowerUp_25 : decode cX1_canPowerUp 25 = .ok (.iload_n 1, 1) := by decide +kernel
theorem dX1_canPowerUp_26 : decode cX1_canPowerUp 26 = .ok (.if_icmp .gt 7, 3) := by decide +kernel
theorem dX1_canPowerUp_29 : decode cX1_canPowerUp 29 = .ok (.iconst 1, 1) := by decide +kernel
theorem dX1_canPowerUp_30 : decode cX1_canPowerUp 30 = .ok (.goto 4, 3) := by decide +kernel
theorem dX1_canPowerUp_33 : decode cX1_canPowerUp 33 = .ok (.iconst 0, 1) := by decide +kernel
theorem dX1_canPowerUp_34 : decode cX1_canPowerUp 34 = .ok (.ireturn, 1) := by decide +kernel
theorem dX1_losePower_0 : decode cX1_losePower 0 = .ok (.aload_n 0, 1) := by decide +kernel
theorem dX1_losePower_1 : decode cX1_losePower 1 = .ok (.iconst 0, 1) := by decide +kernel
theorem dX1_losePower_2 : decode cX1_losePower 2 = .ok (.putfield 22, 3) := by decide +kernel
theorem dX1_losePower_5 : decode cX1_losePower 5 = .ok (.aload_n 0, 1) := by decide +kernel
theorem dX1_losePower_6 : decode cX1_losePower 6 = .ok (.iconst 0, 1) := by decide +kernel
theorem dX1_losePower_7 : decode cX1_losePower 7 = .ok (.putfield 50, 3) := by decide +kernel
theorem dX1_losePower_10 : decode cX1_losePower 10 = .ok (.return_, 1) := by decide +kernel
theorem dX1_reset_0 : decode cX1_reset 0 = .ok (.aload_n 0, 1) := by decide +kernel
theorem dX1_reset_1 : decode cX1_reset 1 = .ok (.invokevirtual 53, 3) := by decide +kernel
theorem dX1_reset_4 : decode cX1_reset 4 = .ok (.aload_n 0, 1) := by decide +kernel
theorem dX1_reset_5 : decode cX1_reset 5 = .ok (.iconst 0, 1) := by decide +kernel
theorem dX1_reset_6 : decode cX1_reset 6 = .ok (.putfield 44, 3) := by decide +kernel
theorem dX1_reset_9 : decode cX1_reset 9 = .ok (.return_, 1) := by decide +kernel
theorem dX1_copyFrom_0 : decode cX1_copyFrom 0 = .ok (.aload_n 0, 1) := by decide +kernel
theorem dX1_copyFrom_1 : decode cX1_copyFrom 1 = .ok (.aload_n 1, 1) := by decide +kernel
theorem dX1_copyFrom_2 : decode cX1_copyFrom 2 = .ok (.getfield 9, 3) := by decide +kernel
theorem dX1_copyFrom_5 : decode cX1_copyFrom 5 = .ok (.putfield 9, 3) := by decide +kernel
theorem dX1_copyFrom_8 : decode cX1_copyFrom 8 = .ok (.aload_n 0, 1) := by decide +kernel
theorem dX1_copyFrom_9 : decode cX1_copyFrom 9 = .ok (.aload_n 1, 1) := by decide +kernel
theorem dX1_copyFrom_10 : decode cX1_copyFrom 10 = .ok (.getfield 15, 3) := by decide +kernel
theorem dX1_copyFrom_13 : decode cX1_copyFrom 13 = .ok (.putfield 15, 3) := by decide +kernel
theorem dX1_copyFrom_16 : decode cX1_copyFrom 16 = .ok (.aload_n 0, 1) := by decide +kernel
theorem dX1_copyFrom_17 : decode cX1_copyFrom 17 = .ok (.aload_n 1, 1) := by decide +kernel
theorem dX1_copyFrom_18 : decode cX1_copyFrom 18 = .ok (.getfield 32, 3) := by decide +kernel
theorem dX1_copyFrom_21 : decode cX1_copyFrom 21 = .ok (.putfield 32, 3) := by decide +kernel
theorem dX1_copyFrom_24 : decode cX1_copyFrom 24 = .ok (.aload_n 0, 1) := by decide +kernel
theorem dX1_copyFrom_25 : decode cX1_copyFrom 25 = .ok (.aload_n 1, 1) := by decide +kernel
theorem dX1_copyFrom_26 : decode cX1_copyFrom 26 = .ok (.getfield 35, 3) := by decide +kernel
theorem dX1_copyFrom_29 : decode cX1_copyFrom 29 = .ok (.putfield 35, 3) := by decide +kernel
theorem dX1_copyFrom_32 : decode cX1_copyFrom 32 = .ok (.aload_n 0, 1) := by decide +kernel
theorem dX1_copyFrom_33 : decode cX1_copyFrom 33 = .ok (.aload_n 1, 1) := by decide +kernel
theorem dX1_copyFrom_34 : decode cX1_copyFrom 34 = .ok (.getfield 19, 3) := by decide +kernel
theorem dX1_copyFrom_37 : decode cX1_copyFrom 37 = .ok (.putfield 19, 3) := by decide +kernel
theorem dX1_copyFrom_40 : decode cX1_copyFrom 40 = .ok (.aload_n 0, 1) := by decide +kernel
theorem dX1_copyFrom_41 : decode cX1_copyFrom 41 = .ok (.aload_n 1, 1) := by decide +kernel
theorem dX1_copyFrom_42 : decode cX1_copyFrom 42 = .ok (.getfield 29, 3) := by decide +kernel
theorem dX1_copyFrom_45 : decode cX1_copyFrom 45 = .ok (.putfield 29, 3) := by decide +kernel
theorem dX1_copyFrom_48 : decode cX1_copyFrom 48 = .ok (.aload_n 0, 1) := by decide +kernel
theorem dX1_copyFrom_49 : decode cX1_copyFrom 49 = .ok (.aload_n 1, 1) := by decide +kernel
theorem dX1_copyFrom_50 : decode cX1_copyFrom 50 = .ok (.getfield 47, 3) := by decide +kernel
theorem dX1_copyFrom_53 : decode cX1_copyFrom 53 = .ok (.putfield 47, 3) := by decide +kernel
theorem dX1_copyFrom_56 : decode cX1_copyFrom 56 = .ok (.aload_n 0, 1) := by decide +kernel
theorem dX1_copyFrom_57 : decode cX1_copyFrom 57 = .ok (.aload_n 1, 1) := by decide +kernel
theorem dX1_copyFrom_58 : decode cX1_copyFrom 58 = .ok (.getfield 22, 3) := by decide +kernel
theorem dX1_copyFrom_61 : decode cX1_copyFrom 61 = .ok (.putfield 22, 3) := by decide +kernel
theorem dX1_copyFrom_64 : decode cX1_copyFrom 64 = .ok (.aload_n 0, 1) := by decide +kernel
theorem dX1_copyFrom_65 : decode cX1_copyFrom 65 = .ok (.aload_n 1, 1) := by decide +kernel
theorem dX1_copyFrom_66 : decode cX1_copyFrom 66 = .ok (.getfield 50, 3) := by decide +kernel
theorem dX1_copyFrom_69 : decode cX1_copyFrom 69 = .ok (.putfield 50, 3) := by decide +kernel
theorem dX1_copyFrom_72 : decode cX1_copyFrom 72 = .ok (.aload_n 0, 1) := by decide +kernel
theorem dX1_copyFrom_73 : decode cX1_copyFrom 73 = .ok (.aload_n 1, 1) := by decide +kernel
theorem dX1_copyFrom_74 : decode cX1_copyFrom 74 = .ok (.getfield 44, 3) := by decide +kernel
theorem dX1_copyFrom_77 : decode cX1_copyFrom 77 = .ok (.putfield 44, 3) := by decide +kernel
theorem dX1_copyFrom_80 : decode cX1_copyFrom 80 = .ok (.return_, 1) := by decide +kernel
end
section
/-! decode rows, as the task prints them -/
theorem dX2_init_0 : decode cX2_init 0 = .ok (.aload_n 0, 1) := by decide +kernel
theorem dX2_init_1 : decode cX2_init 1 = .ok (.invokespecial 3, 3) := by decide +kernel
theorem dX2_init_4 : decode cX2_init 4 = .ok (.aload_n 0, 1) := by decide +kernel
theorem dX2_init_5 : decode cX2_init 5 = .ok (.iconst 3, 1) := by decide +kernel
theorem dX2_init_6 : decode cX2_init 6 = .ok (.newarray .int, 2) := by decide +kernel
theorem dX2_init_8 : decode cX2_init 8 = .ok (.dup, 1) := by decide +kernel
theorem dX2_init_9 : decode cX2_init 9 = .ok (.iconst 0, 1) := by decide +kernel
theorem dX2_init_10 : decode cX2_init 10 = .ok (.sipush 1500, 3) := by decide +kernel
theorem dX2_init_13 : decode cX2_init 13 = .ok (.iastore, 1) := by decide +kernel
theorem dX2_init_14 : decode cX2_init 14 = .ok (.dup, 1) := by decide +kernel
theorem dX2_init_15 : decode cX2_init 15 = .ok (.iconst 1, 1) := by decide +kernel
theorem dX2_init_16 : decode cX2_init 16 = .ok (.iconst 0, 1) := by decide +kernel
theorem dX2_init_17 : decode cX2_init 17 = .ok (.iastore, 1) := by decide +kernel
theorem dX2_init_18 : decode cX2_init 18 = .ok (.dup, 1) := by decide +kernel
theorem dX2_init_19 : decode cX2_init 19 = .ok (.iconst 2, 1) := by decide +kernel
theorem dX2_init_20 : decode cX2_init 20 = .ok (.iconst 0, 1) := by decide +kernel
theorem dX2_init_21 : decode cX2_init 21 = .ok (.iastore, 1) := by decide +kernel
theorem dX2_init_22 : decode cX2_init 22 = .ok (.putfield 9, 3) := by decide +kernel
theorem dX2_init_25 : decode cX2_init 25 = .ok (.aload_n 0, 1) := by decide +kernel
theorem dX2_init_26 : decode cX2_init 26 = .ok (.iconst 3, 1) := by decide +kernel
theorem dX2_init_27 : decode cX2_init 27 = .ok (.newarray .boolean, 2) := by decide +kernel
theorem dX2_init_29 : decode cX2_init 29 = .ok (.dup, 1) := by decide +kernel
theorem dX2_init_30 : decode cX2_init 30 = .ok (.iconst 0, 1) := by decide +kernel
theorem dX2_init_31 : decode cX2_init 31 = .ok (.iconst 1, 1) := by decide +kernel
theorem dX2_init_32 : decode cX2_init 32 = .ok (.bastore, 1) := by decide +kernel
theorem dX2_init_33 : decode cX2_init 33 = .ok (.dup, 1) := by decide +kernel
theorem dX2_init_34 : decode cX2_init 34 = .ok (.iconst 1, 1) := by decide +kernel
theorem dX2_init_35 : decode cX2_init 35 = .ok (.iconst 1, 1) := by decide +kernel
theorem dX2_init_36 : decode cX2_init 36 = .ok (.bastore, 1) := by decide +kernel
theorem dX2_init_37 : decode cX2_init 37 = .ok (.dup, 1) := by decide +kernel
theorem dX2_init_38 : decode cX2_init 38 = .ok (.iconst 2, 1) := by decide +kernel
theorem dX2_init_39 : decode cX2_init 39 = .ok (.iconst 1, 1) := by decide +kernel
theorem dX2_init_40 : decode cX2_init 40 = .ok (.bastore, 1) := by decide +kernel
theorem dX2_init_41 : decode cX2_init 41 = .ok (.putfield 15, 3) := by decide +kernel
theorem dX2_init_44 : decode cX2_init 44 = .ok (.aload_n 0, 1) := by decide +kernel
theorem dX2_init_45 : decode cX2_init 45 = .ok (.bipush 8, 2) := by decide +kernel
theorem dX2_init_47 : decode cX2_init 47 = .ok (.anewarray 19, 3) := by decide +kernel
theorem dX2_init_50 : decode cX2_init 50 = .ok (.putfield 21, 3) := by decide +kernel
theorem dX2_init_53 : decode cX2_init 53 = .ok (.aload_n 0, 1) := by decide +kernel
theorem dX2_init_54 : decode cX2_init 54 = .ok (.new 25, 3) := by decide +kernel
theorem dX2_init_57 : decode cX2_init 57 = .ok (.dup, 1) := by decide +kernel
theorem dX2_init_58 : decode cX2_init 58 = .ok (.invokespecial 27, 3) := by decide +kernel
theorem dX2_init_61 : decode cX2_init 61 = .ok (.putfield 28, 3) := by decide +kernel
theorem dX2_init_64 : decode cX2_init 64 = .ok (.aload_n 0, 1) := by decide +kernel
theorem dX2_init_65 : decode cX2_init 65 = .ok (.iconst 2, 1) := by decide +kernel
theorem dX2_init_66 : decode cX2_init 66 = .ok (.putfield 32, 3) := by decide +kernel
theorem dX2_init_69 : decode cX2_init 69 = .ok (.aload_n 0, 1) := by decide +kernel
theorem dX2_init_70 : decode cX2_init 70 = .ok (.iconst 3, 1) := by decide +kernel
theorem dX2_init_71 : decode cX2_init 71 = .ok (.putfield 36, 3) := by decide +kernel
theorem dX2_init_74 : decode cX2_init 74 = .ok (.aload_n 0, 1) := by decide +kernel
theorem dX2_init_75 : decode cX2_init 75 = .ok (.iconst 5, 1) := by decide +kernel
theorem dX2_init_76 : decode cX2_init 76 = .ok (.putfield 39, 3) := by decide +kernel
theorem dX2_init_79 : decode cX2_init 79 = .ok (.iconst 0, 1) := by decide +kernel
theorem dX2_init_80 : decode cX2_init 80 = .ok (.istore_n 1, 1) := by decide +kernel
theorem dX2_init_81 : decode cX2_init 81 = .ok (.iload_n 1, 1) := by decide +kernel
theorem dX2_init_82 : decode cX2_init 82 = .ok (.bipush 8, 2) := by decide +kernel
theorem dX2_init_84 : decode cX2_init 84 = .ok (.if_icmp .ge 22, 3) := by decide +kernel
theorem dX2_init_87 : decode cX2_init 87 = .ok (.aload_n 0, 1) := by decide +kernel
theorem dX2_init_88 : decode cX2_init 88 = .ok (.getfield 21, 3) := by decide +kernel
theorem dX2_init_91 : decode cX2_init 91 = .ok (.iload_n 1, 1) := by decide +kernel
theorem dX2_init_92 : decode cX2_init 92 = .ok (.new 19, 3) := by decide +kernel
theorem dX2_init_95 : decode cX2_init 95 = .ok (.dup, 1) := by decide +kernel
theorem dX2_init_96 : decode cX2_init 96 = .ok (.invokespecial 42, 3) := by decide +kernel
theorem dX2_init_99 : decode cX2_init 99 = .ok (.aastore, 1) := by decide +kernel
theorem dX2_init_100 : decode cX2_init 100 = .ok (.iinc 1 1, 3) := by decide +kernel
theorem dX2_init_103 : decode cX2_init 103 = .ok (.goto (-22), 3) := by decide +kernel
theorem dX2_init_106 : decode cX2_init 106 = .ok (.return_, 1) := by decide +kernel
theorem dX2_copyFrom_0 : decode cX2_copyFrom 0 = .ok (.iconst 0, 1) := by decide +kernel
theorem dX2_copyFrom_1 : decode cX2_copyFrom 1 = .ok (.istore_n 2, 1) := by decide +kernel
theorem dX2_copyFrom_2 : decode cX2_copyFrom 2 = .ok (.iload_n 2, 1) := by decide +kernel
theorem dX2_copyFrom_3 : decode cX2_copyFrom 3 = .ok (.iconst 3, 1) := by decide +kernel
theorem dX2_copyFrom_4 : decode cX2_copyFrom 4 = .ok (.if_icmp .ge 33, 3) := by decide +kernel
theorem dX2_copyFrom_7 : decode cX2_copyFrom 7 = .ok (.aload_n 0, 1) := by decide +kernel
theorem dX2_copyFrom_8 : decode cX2_copyFrom 8 = .ok (.getfield 9, 3) := by decide +kernel
theorem dX2_copyFrom_11 : decode cX2_copyFrom 11 = .ok (.iload_n 2, 1) := by decide +kernel
theorem dX2_copyFrom_12 : decode cX2_copyFrom 12 = .ok (.aload_n 1, 1) := by decide +kernel
theorem dX2_copyFrom_13 : decode cX2_copyFrom 13 = .ok (.getfield 9, 3) := by decide +kernel
theorem dX2_copyFrom_16 : decode cX2_copyFrom 16 = .ok (.iload_n 2, 1) := by decide +kernel
theorem dX2_copyFrom_17 : decode cX2_copyFrom 17 = .ok (.iaload, 1) := by decide +kernel
theorem dX2_copyFrom_18 : decode cX2_copyFrom 18 = .ok (.iastore, 1) := by decide +kernel
theorem dX2_copyFrom_19 : decode cX2_copyFrom 19 = .ok (.aload_n 0, 1) := by decide +kernel
theorem dX2_copyFrom_20 : decode cX2_copyFrom 20 = .ok (.getfield 15, 3) := by decide +kernel
theorem dX2_copyFrom_23 : decode cX2_copyFrom 23 = .ok (.iload_n 2, 1) := by decide +kernel
theorem dX2_copyFrom_24 : decode cX2_copyFrom 24 = .ok (.aload_n 1, 1) := by decide +kernel
theorem dX2_copyFrom_25 : decode cX2_copyFrom 25 = .ok (.getfield 15, 3) := by decide +kernel
theorem dX2_copyFrom_28 : decode cX2_copyFrom 28 = .ok (.iload_n 2, 1) := by decide +kernel
theorem dX2_copyFrom_29 : decode cX2_copyFrom 29 = .ok (.baload, 1) := by decide +kernel
theorem dX2_copyFrom_30 : decode cX2_copyFrom 30 = .ok (.bastore, 1) := by decide +kernel
theorem dX2_copyFrom_31 : decode cX2_copyFrom 31 = .ok (.iinc 2 1, 3) := by decide +kernel
theorem dX2_copyFrom_34 : decode cX2_copyFrom 34 = .ok (.goto (-32), 3) := by decide +kernel
theorem dX2_copyFrom_37 : decode cX2_copyFrom 37 = .ok (.iconst 0, 1) := by decide +kernel
theorem dX2_copyFrom_38 : decode cX2_copyFrom 38 = .ok (.istore_n 2, 1) := by decide +kernel
theorem dX2_copyFrom_39 : decode cX2_copyFrom 39 = .ok (.iload_n 2, 1) := by decide +kernel
theorem dX2_copyFrom_40 : decode cX2_copyFrom 40 = .ok (.bipush 8, 2) := by decide +kernel
theorem dX2_copyFrom_42 : decode cX2_copyFrom 42 = .ok (.if_icmp .ge 24, 3) := by decide +kernel
theorem dX2_copyFrom_45 : decode cX2_copyFrom 45 = .ok (.aload_n 0, 1) := by decide +kernel
theorem dX2_copyFrom_46 : decode cX2_copyFrom 46 = .ok (.getfield 21, 3) := by decide +kernel
theorem dX2_copyFrom_49 : decode cX2_copyFrom 49 = .ok (.iload_n 2, 1) := by decide +kernel
theorem dX2_copyFrom_50 : decode cX2_copyFrom 50 = .ok (.aaload, 1) := by decide +kernel
theorem dX2_copyFrom_51 : decode cX2_copyFrom 51 = .ok (.aload_n 1, 1) := by decide +kernel
theorem dX2_copyFrom_52 : decode cX2_copyFrom 52 = .ok (.getfield 21, 3) := by decide +kernel
theorem dX2_copyFrom_55 : decode cX2_copyFrom 55 = .ok (.iload_n 2, 1) := by decide +kernel
theorem dX2_copyFrom_56 : decode cX2_copyFrom 56 = .ok (.aaload, 1) := by decide +kernel
theorem dX2_copyFrom_57 : decode cX2_copyFrom 57 = .ok (.invokevirtual 43, 3) := by decide +kernel
theorem dX2_copyFrom_60 : decode cX2_copyFrom 60 = .ok (.iinc 2 1, 3) := by decide +kernel
theorem dX2_copyFrom_63 : decode cX2_copyFrom 63 = .ok (.goto (-24), 3) := by decide +kernel
theorem dX2_copyFrom_66 : decode cX2_copyFrom 66 = .ok (.aload_n 0, 1) := by decide +kernel
theorem dX2_copyFrom_67 : decode cX2_copyFrom 67 = .ok (.getfield 28, 3) := by decide +kernel
theorem dX2_copyFrom_70 : decode cX2_copyFrom 70 = .ok (.aload_n 1, 1) := by decide +kernel
theorem dX2_copyFrom_71 : decode cX2_copyFrom 71 = .ok (.getfield 28, 3) := by decide +kernel
theorem dX2_copyFrom_74 : decode cX2_copyFrom 74 = .ok (.invokevirtual 47, 3) := by decide +kernel
theorem dX2_copyFrom_77 : decode cX2_copyFrom 77 = .ok (.aload_n 0, 1) := by decide +kernel
theorem dX2_copyFrom_78 : decode cX2_copyFrom 78 = .ok (.aload_n 1, 1) := by decide +kernel
theorem dX2_copyFrom_79 : decode cX2_copyFrom 79 = .ok (.getfield 50, 3) := by decide +kernel
theorem dX2_copyFrom_82 : decode cX2_copyFrom 82 = .ok (.putfield 50, 3) := by decide +kernel
theorem dX2_copyFrom_85 : decode cX2_copyFrom 85 = .ok (.aload_n 0, 1) := by decide +kernel
theorem dX2_copyFrom_86 : decode cX2_copyFrom 86 = .ok (.aload_n 1, 1) := by decide +kernel
theorem dX2_copyFrom_87 : decode cX2_copyFrom 87 = .ok (.getfield 32, 3) := by decide +kernel
theorem dX2_copyFrom_90 : decode cX2_copyFrom 90 = .ok (.putfield 32, 3) := by decide +kernel
theorem dX2_copyFrom_93 : decode cX2_copyFrom 93 = .ok (.aload_n 0, 1) := by decide +kernel
theorem dX2_copyFrom_94 : decode cX2_copyFrom 94 = .ok (.aload_n 1, 1) := by decide +kernel
theorem dX2_copyFrom_95 : decode cX2_copyFrom 95 = .ok (.getfield 36, 3) := by decide +kernel
theorem dX2_copyFrom_98 : decode cX2_copyFrom 98 = .ok (.putfield 36, 3) := by decide +kernel
theorem dX2_copyFrom_101 : decode cX2_copyFrom 101 = .ok (.aload_n 0, 1) := by decide +kernel
theorem dX2_copyFrom_102 : decode cX2_copyFrom 102 = .ok (.aload_n 1, 1) := by decide +kernel
theorem dX2_copyFrom_103 : decode cX2_copyFrom 103 = .ok (.getfield 39, 3) := by decide +kernel
theorem dX2_copyFrom_106 : decode cX2_copyFrom 106 = .ok (.putfield 39, 3) := by decide +kernel
theorem dX2_copyFrom_109 : decode cX2_copyFrom 109 = .ok (.aload_n 0, 1) := by decide +kernel
theorem dX2_copyFrom_110 : decode cX2_copyFrom 110 = .ok (.aload_n 1, 1) := by decide +kernel
theorem dX2_copyFrom_111 : decode cX2_copyFrom 111 = .ok (.getfield 53, 3) := by decide +kernel
theorem dX2_copyFrom_114 : decode cX2_copyFrom 114 = .ok (.putfield 53, 3) := by decide +kernel
theorem dX2_copyFrom_117 : decode cX2_copyFrom 117 = .ok (.aload_n 0, 1) := by decide +kernel
theorem dX2_copyFrom_118 : decode cX2_copyFrom 118 = .ok (.aload_n 1, 1) := by decide +kernel
theorem dX2_copyFrom_119 : decode cX2_copyFrom 119 = .ok (.getfield 56, 3) := by decide +kernel
theorem dX2_copyFrom_122 : decode cX2_copyFrom 122 = .ok (.putfield 56, 3) := by decide +kernel
theorem dX2_copyFrom_125 : decode cX2_copyFrom 125 = .ok (.return_, 1) := by decide +kernel
theorem dX2_wholeBudget_0 : decode cX2_wholeBudget 0 = .ok (.iconst 0, 1) := by decide +kernel
theorem dX2_wholeBudget_1 : decode cX2_wholeBudget 1 = .ok (.istore_n 1, 1) := by decide +kernel
theorem dX2_wholeBudget_2 : decode cX2_wholeBudget 2 = .ok (.iconst 0, 1) := by decide +kernel
theorem dX2_wholeBudget_3 : decode cX2_wholeBudget 3 = .ok (.istore_n 2, 1) := by decide +kernel
theorem dX2_wholeBudget_4 : decode cX2_wholeBudget 4 = .ok (.iload_n 2, 1) := by decide +kernel
theorem dX2_wholeBudget_5 : decode cX2_wholeBudget 5 = .ok (.iconst 3, 1) := by decide +kernel
theorem dX2_wholeBudget_6 : decode cX2_wholeBudget 6 = .ok (.if_icmp .ge 27, 3) := by decide +kernel
theorem dX2_wholeBudget_9 : decode cX2_wholeBudget 9 = .ok (.aload_n 0, 1) := by decide +kernel
theorem dX2_wholeBudget_10 : decode cX2_wholeBudget 10 = .ok (.getfield 15, 3) := by decide +kernel
theorem dX2_wholeBudget_13 : decode cX2_wholeBudget 13 = .ok (.iload_n 2, 1) := by decide +kernel
theorem dX2_wholeBudget_14 : decode cX2_wholeBudget 14 = .ok (.baload, 1) := by decide +kernel
theorem dX2_wholeBudget_15 : decode cX2_wholeBudget 15 = .ok (.ifCond .eq 12, 3) := by decide +kernel
theorem dX2_wholeBudget_18 : decode cX2_wholeBudget 18 = .ok (.iload_n 1, 1) := by decide +kernel
theorem dX2_wholeBudget_19 : decode cX2_wholeBudget 19 = .ok (.aload_n 0, 1) := by decide +kernel
theorem dX2_wholeBudget_20 : decode cX2_wholeBudget 20 = .ok (.getfield 9, 3) := by decide +kernel
theorem dX2_wholeBudget_23 : decode cX2_wholeBudget 23 = .ok (.iload_n 2, 1) := by decide +kernel
theorem dX2_wholeBudget_24 : decode cX2_wholeBudget 24 = .ok (.iaload, 1) := by decide +kernel
theorem dX2_wholeBudget_25 : decode cX2_wholeBudget 25 = .ok (.iadd, 1) := by decide +kernel
theorem dX2_wholeBudget_26 : decode cX2_wholeBudget 26 = .ok (.istore_n 1, 1) := by decide +kernel
theorem dX2_wholeBudget_27 : decode cX2_wholeBudget 27 = .ok (.iinc 2 1, 3) := by decide +kernel
theorem dX2_wholeBudget_30 : decode cX2_wholeBudget 30 = .ok (.goto (-26), 3) := by decide +kernel
theorem dX2_wholeBudget_33 : decode cX2_wholeBudget 33 = .ok (.iconst 0, 1) := by decide +kernel
theorem dX2_wholeBudget_34 : decode cX2_wholeBudget 34 = .ok (.iload_n 1, 1) := by decide +kernel
theorem dX2_wholeBudget_35 : decode cX2_wholeBudget 35 = .ok (.aload_n 0, 1) := by decide +kernel
theorem dX2_wholeBudget_36 : decode cX2_wholeBudget 36 = .ok (.getfield 50, 3) := by decide +kernel
theorem dX2_wholeBudget_39 : decode cX2_wholeBudget 39 = .ok (.isub, 1) := by decide +kernel
theorem dX2_wholeBudget_40 : decode cX2_wholeBudget 40 = .ok (.invokestatic 59, 3) := by decide +kernel
theorem dX2_wholeBudget_43 : decode cX2_wholeBudget 43 = .ok (.ireturn, 1) := by decide +kernel
theorem dX2_sparePower_0 : decode cX2_sparePower 0 = .ok (.aload_n 0, 1) := by decide +kernel
theorem dX2_sparePower_1 : decode cX2_sparePower 1 = .ok (.invokevirtual 65, 3) := by decide +kernel
theorem dX2_sparePower_4 : decode cX2_sparePower 4 = .ok (.istore_n 1, 1) := by decide +kernel
theorem dX2_sparePower_5 : decode cX2_sparePower 5 = .ok (.iconst 0, 1) := by decide +kernel
theorem dX2_sparePower_6 : decode cX2_sparePower 6 = .ok (.istore_n 2, 1) := by decide +kernel
theorem dX2_sparePower_7 : decode cX2_sparePower 7 = .ok (.iload_n 2, 1) := by decide +kernel
theorem dX2_sparePower_8 : decode cX2_sparePower 8 = .ok (.bipush 8, 2) := by decide +kernel
theorem dX2_sparePower_10 : decode cX2_sparePower 10 = .ok (.if_icmp .ge 21, 3) := by decide +kernel
theorem dX2_sparePower_13 : decode cX2_sparePower 13 = .ok (.iload_n 1, 1) := by decide +kernel
theorem dX2_sparePower_14 : decode cX2_sparePower 14 = .ok (.aload_n 0, 1) := by decide +kernel
theorem dX2_sparePower_15 : decode cX2_sparePower 15 = .ok (.getfield 21, 3) := by decide +kernel
theorem dX2_sparePower_18 : decode cX2_sparePower 18 = .ok (.iload_n 2, 1) := by decide +kernel
theorem dX2_sparePower_19 : decode cX2_sparePower 19 = .ok (.aaload, 1) := by decide +kernel
theorem dX2_sparePower_20 : decode cX2_sparePower 20 = .ok (.getfield 69, 3) := by decide +kernel
theorem dX2_sparePower_23 : decode cX2_sparePower 23 = .ok (.isub, 1) := by decide +kernel
theorem dX2_sparePower_24 : decode cX2_sparePower 24 = .ok (.istore_n 1, 1) := by decide +kernel
theorem dX2_sparePower_25 : decode cX2_sparePower 25 = .ok (.iinc 2 1, 3) := by decide +kernel
theorem dX2_sparePower_28 : decode cX2_sparePower 28 = .ok (.goto (-21), 3) := by decide +kernel
theorem dX2_sparePower_31 : decode cX2_sparePower 31 = .ok (.iload_n 1, 1) := by decide +kernel
theorem dX2_sparePower_32 : decode cX2_sparePower 32 = .ok (.ireturn, 1) := by decide +kernel
theorem dX2_eligibleSet_0 : decode cX2_eligibleSet 0 = .ok (.iconst 0, 1) := by decide +kernel
theorem dX2_eligibleSet_1 : decode cX2_eligibleSet 1 = .ok (.istore_n 1, 1) := by decide +kernel
theorem dX2_eligibleSet_2 : decode cX2_eligibleSet 2 = .ok (.iconst 0, 1) := by decide +kernel
theorem dX2_eligibleSet_3 : decode cX2_eligibleSet 3 = .ok (.istore_n 2, 1) := by decide +kernel
theorem dX2_eligibleSet_4 : decode cX2_eligibleSet 4 = .ok (.iload_n 2, 1) := by decide +kernel
theorem dX2_eligibleSet_5 : decode cX2_eligibleSet 5 = .ok (.bipush 8, 2) := by decide +kernel
theorem dX2_eligibleSet_7 : decode cX2_eligibleSet 7 = .ok (.if_icmp .ge 27, 3) := by decide +kernel
theorem dX2_eligibleSet_10 : decode cX2_eligibleSet 10 = .ok (.aload_n 0, 1) := by decide +kernel
theorem dX2_eligibleSet_11 : decode cX2_eligibleSet 11 = .ok (.getfield 21, 3) := by decide +kernel
theorem dX2_eligibleSet_14 : decode cX2_eligibleSet 14 = .ok (.iload_n 2, 1) := by decide +kernel
theorem dX2_eligibleSet_15 : decode cX2_eligibleSet 15 = .ok (.aaload, 1) := by decide +kernel
theorem dX2_eligibleSet_16 : decode cX2_eligibleSet 16 = .ok (.invokevirtual 72, 3) := by decide +kernel
theorem dX2_eligibleSet_19 : decode cX2_eligibleSet 19 = .ok (.ifCond .eq 9, 3) := by decide +kernel
theorem dX2_eligibleSet_22 : decode cX2_eligibleSet 22 = .ok (.iload_n 1, 1) := by decide +kernel
theorem dX2_eligibleSet_23 : decode cX2_eligibleSet 23 = .ok (.iconst 1, 1) := by decide +kernel
theorem dX2_eligibleSet_24 : decode cX2_eligibleSet 24 = .ok (.iload_n 2, 1) := by decide +kernel
theorem dX2_eligibleSet_25 : decode cX2_eligibleSet 25 = .ok (.ishl, 1) := by decide +kernel
theorem dX2_eligibleSet_26 : decode cX2_eligibleSet 26 = .ok (.ior, 1) := by decide +kernel
theorem dX2_eligibleSet_27 : decode cX2_eligibleSet 27 = .ok (.istore_n 1, 1) := by decide +kernel
theorem dX2_eligibleSet_28 : decode cX2_eligibleSet 28 = .ok (.iinc 2 1, 3) := by decide +kernel
theorem dX2_eligibleSet_31 : decode cX2_eligibleSet 31 = .ok (.goto (-27), 3) := by decide +kernel
theorem dX2_eligibleSet_34 : decode cX2_eligibleSet 34 = .ok (.iload_n 1, 1) := by decide +kernel
theorem dX2_eligibleSet_35 : decode cX2_eligibleSet 35 = .ok (.ireturn, 1) := by decide +kernel
theorem dX2_poweredSet_0 : decode cX2_poweredSet 0 = .ok (.iconst 0, 1) := by decide +kernel
theorem dX2_poweredSet_1 : decode cX2_poweredSet 1 = .ok (.istore_n 1, 1) := by decide +kernel
theorem dX2_poweredSet_2 : decode cX2_poweredSet 2 = .ok (.iconst 0, 1) := by decide +kernel
theorem dX2_poweredSet_3 : decode cX2_poweredSet 3 = .ok (.istore_n 2, 1) := by decide +kernel
theorem dX2_poweredSet_4 : decode cX2_poweredSet 4 = .ok (.iload_n 2, 1) := by decide +kernel
theorem dX2_poweredSet_5 : decode cX2_poweredSet 5 = .ok (.bipush 8, 2) := by decide +kernel
theorem dX2_poweredSet_7 : decode cX2_poweredSet 7 = .ok (.if_icmp .ge 27, 3) := by decide +kernel
theorem dX2_poweredSet_10 : decode cX2_poweredSet 10 = .ok (.aload_n 0, 1) := by decide +kernel
theorem dX2_poweredSet_11 : decode cX2_poweredSet 11 = .ok (.getfield 21, 3) := by decide +kernel
theorem dX2_poweredSet_14 : decode cX2_poweredSet 14 = .ok (.iload_n 2, 1) := by decide +kernel
theorem dX2_poweredSet_15 : decode cX2_poweredSet 15 = .ok (.aaload, 1) := by decide +kernel
theorem dX2_poweredSet_16 : decode cX2_poweredSet 16 = .ok (.invokevirtual 76, 3) := by decide +kernel
theorem dX2_poweredSet_19 : decode cX2_poweredSet 19 = .ok (.ifCond .eq 9, 3) := by decide +kernel
theorem dX2_poweredSet_22 : decode cX2_poweredSet 22 = .ok (.iload_n 1, 1) := by decide +kernel
theorem dX2_poweredSet_23 : decode cX2_poweredSet 23 = .ok (.iconst 1, 1) := by decide +kernel
theorem dX2_poweredSet_24 : decode cX2_poweredSet 24 = .ok (.iload_n 2, 1) := by decide +kernel
theorem dX2_poweredSet_25 : decode cX2_poweredSet 25 = .ok (.ishl, 1) := by decide +kernel
theorem dX2_poweredSet_26 : decode cX2_poweredSet 26 = .ok (.ior, 1) := by decide +kernel
theorem dX2_poweredSet_27 : decode cX2_poweredSet 27 = .ok (.istore_n 1, 1) := by decide +kernel
theorem dX2_poweredSet_28 : decode cX2_poweredSet 28 = .ok (.iinc 2 1, 3) := by decide +kernel
theorem dX2_poweredSet_31 : decode cX2_poweredSet 31 = .ok (.goto (-27), 3) := by decide +kernel
theorem dX2_poweredSet_34 : decode cX2_poweredSet 34 = .ok (.iload_n 1, 1) := by decide +kernel
theorem dX2_poweredSet_35 : decode cX2_poweredSet 35 = .ok (.ireturn, 1) := by decide +kernel
theorem dX2_fittingSet_0 : decode cX2_fittingSet 0 = .ok (.iconst 0, 1) := by decide +kernel
theorem dX2_fittingSet_1 : decode cX2_fittingSet 1 = .ok (.istore_n 1, 1) := by decide +kernel
theorem dX2_fittingSet_2 : decode cX2_fittingSet 2 = .ok (.aload_n 0, 1) := by decide +kernel
theorem dX2_fittingSet_3 : decode cX2_fittingSet 3 = .ok (.invokevirtual 65, 3) := by decide +kernel
theorem dX2_fittingSet_6 : decode cX2_fittingSet 6 = .ok (.istore_n 2, 1) := by decide +kernel
theorem dX2_fittingSet_7 : decode cX2_fittingSet 7 = .ok (.iconst 0, 1) := by decide +kernel
theorem dX2_fittingSet_8 : decode cX2_fittingSet 8 = .ok (.istore_n 3, 1) := by decide +kernel
theorem dX2_fittingSet_9 : decode cX2_fittingSet 9 = .ok (.iload_n 3, 1) := by decide +kernel
theorem dX2_fittingSet_10 : decode cX2_fittingSet 10 = .ok (.iconst 2, 1) := by decide +kernel
theorem dX2_fittingSet_11 : decode cX2_fittingSet 11 = .ok (.if_icmp .gt 75, 3) := by decide +kernel
theorem dX2_fittingSet_14 : decode cX2_fittingSet 14 = .ok (.iconst 0, 1) := by decide +kernel
theorem dX2_fittingSet_15 : decode cX2_fittingSet 15 = .ok (.istore 4, 2) := by decide +kernel
theorem dX2_fittingSet_17 : decode cX2_fittingSet 17 = .ok (.iload 4, 2) := by decide +kernel
theorem dX2_fittingSet_19 : decode cX2_fittingSet 19 = .ok (.bipush 8, 2) := by decide +kernel
theorem dX2_fittingSet_21 : decode cX2_fittingSet 21 = .ok (.if_icmp .ge 59, 3) := by decide +kernel
theorem dX2_fittingSet_24 : decode cX2_fittingSet 24 = .ok (.aload_n 0, 1) := by decide +kernel
theorem dX2_fittingSet_25 : decode cX2_fittingSet 25 = .ok (.getfield 21, 3) := by decide +kernel
theorem dX2_fittingSet_28 : decode cX2_fittingSet 28 = .ok (.iload 4, 2) := by decide +kernel
theorem dX2_fittingSet_30 : decode cX2_fittingSet 30 = .ok (.aaload, 1) := by decide +kernel
theorem dX2_fittingSet_31 : decode cX2_fittingSet 31 = .ok (.astore 5, 2) := by decide +kernel
theorem dX2_fittingSet_33 : decode cX2_fittingSet 33 = .ok (.aload 5, 2) := by decide +kernel
theorem dX2_fittingSet_35 : decode cX2_fittingSet 35 = .ok (.getfield 79, 3) := by decide +kernel
theorem dX2_fittingSet_38 : decode cX2_fittingSet 38 = .ok (.iload_n 3, 1) := by decide +kernel
theorem dX2_fittingSet_39 : decode cX2_fittingSet 39 = .ok (.if_icmp .ne 35, 3) := by decide +kernel
theorem dX2_fittingSet_42 : decode cX2_fittingSet 42 = .ok (.aload 5, 2) := by decide +kernel
theorem dX2_fittingSet_44 : decode cX2_fittingSet 44 = .ok (.invokevirtual 72, 3) := by decide +kernel
theorem dX2_fittingSet_47 : decode cX2_fittingSet 47 = .ok (.ifCond .eq 27, 3) := by decide +kernel
theorem dX2_fittingSet_50 : decode cX2_fittingSet 50 = .ok (.aload 5, 2) := by decide +kernel
theorem dX2_fittingSet_52 : decode cX2_fittingSet 52 = .ok (.getfield 82, 3) := by decide +kernel
theorem dX2_fittingSet_55 : decode cX2_fittingSet 55 = .ok (.iload_n 2, 1) := by decide +kernel
theorem dX2_fittingSet_56 : decode cX2_fittingSet 56 = .ok (.if_icmp .gt 18, 3) := by decide +kernel
theorem dX2_fittingSet_59 : decode cX2_fittingSet 59 = .ok (.iload_n 1, 1) := by decide +kernel
theorem dX2_fittingSet_60 : decode cX2_fittingSet 60 = .ok (.iconst 1, 1) := by decide +kernel
theorem dX2_fittingSet_61 : decode cX2_fittingSet 61 = .ok (.iload 4, 2) := by decide +kernel
theorem dX2_fittingSet_63 : decode cX2_fittingSet 63 = .ok (.ishl, 1) := by decide +kernel
theorem dX2_fittingSet_64 : decode cX2_fittingSet 64 = .ok (.ior, 1) := by decide +kernel
theorem dX2_fittingSet_65 : decode cX2_fittingSet 65 = .ok (.istore_n 1, 1) := by decide +kernel
theorem dX2_fittingSet_66 : decode cX2_fittingSet 66 = .ok (.iload_n 2, 1) := by decide +kernel
theorem dX2_fittingSet_67 : decode cX2_fittingSet 67 = .ok (.aload 5, 2) := by decide +kernel
theorem dX2_fittingSet_69 : decode cX2_fittingSet 69 = .ok (.getfield 82, 3) := by decide +kernel
theorem dX2_fittingSet_72 : decode cX2_fittingSet 72 = .ok (.isub, 1) := by decide +kernel
theorem dX2_fittingSet_73 : decode cX2_fittingSet 73 = .ok (.istore_n 2, 1) := by decide +kernel
theorem dX2_fittingSet_74 : decode cX2_fittingSet 74 = .ok (.iinc 4 1, 3) := by decide +kernel
theorem dX2_fittingSet_77 : decode cX2_fittingSet 77 = .ok (.goto (-60), 3) := by decide +kernel
theorem dX2_fittingSet_80 : decode cX2_fittingSet 80 = .ok (.iinc 3 1, 3) := by decide +kernel
theorem dX2_fittingSet_83 : decode cX2_fittingSet 83 = .ok (.goto (-74), 3) := by decide +kernel
theorem dX2_fittingSet_86 : decode cX2_fittingSet 86 = .ok (.iload_n 1, 1) := by decide +kernel
theorem dX2_fittingSet_87 : decode cX2_fittingSet 87 = .ok (.ireturn, 1) := by decide +kernel
theorem dX2_runSecond_0 : decode cX2_runSecond 0 = .ok (.aload_n 0, 1) := by decide +kernel
theorem dX2_runSecond_1 : decode cX2_runSecond 1 = .ok (.invokevirtual 85, 3) := by decide +kernel
theorem dX2_runSecond_4 : decode cX2_runSecond 4 = .ok (.istore_n 1, 1) := by decide +kernel
theorem dX2_runSecond_5 : decode cX2_runSecond 5 = .ok (.aload_n 0, 1) := by decide +kernel
theorem dX2_runSecond_6 : decode cX2_runSecond 6 = .ok (.invokevirtual 88, 3) := by decide +kernel
theorem dX2_runSecond_9 : decode cX2_runSecond 9 = .ok (.istore_n 2, 1) := by decide +kernel
theorem dX2_runSecond_10 : decode cX2_runSecond 10 = .ok (.aload_n 0, 1) := by decide +kernel
theorem dX2_runSecond_11 : decode cX2_runSecond 11 = .ok (.iload_n 2, 1) := by decide +kernel
theorem dX2_runSecond_12 : decode cX2_runSecond 12 = .ok (.invokevirtual 91, 3) := by decide +kernel
theorem dX2_runSecond_15 : decode cX2_runSecond 15 = .ok (.aload_n 0, 1) := by decide +kernel
theorem dX2_runSecond_16 : decode cX2_runSecond 16 = .ok (.invokevirtual 95, 3) := by decide +kernel
theorem dX2_runSecond_19 : decode cX2_runSecond 19 = .ok (.istore_n 3, 1) := by decide +kernel
theorem dX2_runSecond_20 : decode cX2_runSecond 20 = .ok (.aload_n 0, 1) := by decide +kernel
theorem dX2_runSecond_21 : decode cX2_runSecond 21 = .ok (.dup, 1) := by decide +kernel
theorem dX2_runSecond_22 : decode cX2_runSecond 22 = .ok (.getfield 56, 3) := by decide +kernel
theorem dX2_runSecond_25 : decode cX2_runSecond 25 = .ok (.iconst 1, 1) := by decide +kernel
theorem dX2_runSecond_26 : decode cX2_runSecond 26 = .ok (.iadd, 1) := by decide +kernel
theorem dX2_runSecond_27 : decode cX2_runSecond 27 = .ok (.putfield 56, 3) := by decide +kernel
theorem dX2_runSecond_30 : decode cX2_runSecond 30 = .ok (.iload_n 1, 1) := by decide +kernel
theorem dX2_runSecond_31 : decode cX2_runSecond 31 = .ok (.invokestatic 98, 3) := by decide +kernel
theorem dX2_runSecond_34 : decode cX2_runSecond 34 = .ok (.iload_n 2, 1) := by decide +kernel
theorem dX2_runSecond_35 : decode cX2_runSecond 35 = .ok (.invokestatic 98, 3) := by decide +kernel
theorem dX2_runSecond_38 : decode cX2_runSecond 38 = .ok (.iadd, 1) := by decide +kernel
theorem dX2_runSecond_39 : decode cX2_runSecond 39 = .ok (.iload_n 3, 1) := by decide +kernel
theorem dX2_runSecond_40 : decode cX2_runSecond 40 = .ok (.iadd, 1) := by decide +kernel
theorem dX2_runSecond_41 : decode cX2_runSecond 41 = .ok (.ireturn, 1) := by decide +kernel
theorem dX2_shedPorts_0 : decode cX2_shedPorts 0 = .ok (.iconst 0, 1) := by decide +kernel
theorem dX2_shedPorts_1 : decode cX2_shedPorts 1 = .ok (.istore_n 1, 1) := by decide +kernel
theorem dX2_shedPorts_2 : decode cX2_shedPorts 2 = .ok (.iconst 0, 1) := by decide +kernel
theorem dX2_shedPorts_3 : decode cX2_shedPorts 3 = .ok (.istore_n 2, 1) := by decide +kernel
theorem dX2_shedPorts_4 : decode cX2_shedPorts 4 = .ok (.iload_n 2, 1) := by decide +kernel
theorem dX2_shedPorts_5 : decode cX2_shedPorts 5 = .ok (.bipush 8, 2) := by decide +kernel
theorem dX2_shedPorts_7 : decode cX2_shedPorts 7 = .ok (.if_icmp .ge 55, 3) := by decide +kernel
theorem dX2_shedPorts_10 : decode cX2_shedPorts 10 = .ok (.aload_n 0, 1) := by decide +kernel
theorem dX2_shedPorts_11 : decode cX2_shedPorts 11 = .ok (.invokevirtual 104, 3) := by decide +kernel
theorem dX2_shedPorts_14 : decode cX2_shedPorts 14 = .ok (.ifCond .ge 48, 3) := by decide +kernel
theorem dX2_shedPorts_17 : decode cX2_shedPorts 17 = .ok (.aload_n 0, 1) := by decide +kernel
theorem dX2_shedPorts_18 : decode cX2_shedPorts 18 = .ok (.invokevirtual 107, 3) := by decide +kernel
theorem dX2_shedPorts_21 : decode cX2_shedPorts 21 = .ok (.istore_n 3, 1) := by decide +kernel
theorem dX2_shedPorts_22 : decode cX2_shedPorts 22 = .ok (.iload_n 3, 1) := by decide +kernel
theorem dX2_shedPorts_23 : decode cX2_shedPorts 23 = .ok (.bipush (-6), 2) := by decide +kernel
theorem dX2_shedPorts_25 : decode cX2_shedPorts 25 = .ok (.if_icmp .eq 31, 3) := by decide +kernel
theorem dX2_shedPorts_28 : decode cX2_shedPorts 28 = .ok (.aload_n 0, 1) := by decide +kernel
theorem dX2_shedPorts_29 : decode cX2_shedPorts 29 = .ok (.getfield 21, 3) := by decide +kernel
theorem dX2_shedPorts_32 : decode cX2_shedPorts 32 = .ok (.iload_n 3, 1) := by decide +kernel
theorem dX2_shedPorts_33 : decode cX2_shedPorts 33 = .ok (.aaload, 1) := by decide +kernel
theorem dX2_shedPorts_34 : decode cX2_shedPorts 34 = .ok (.invokevirtual 110, 3) := by decide +kernel
theorem dX2_shedPorts_37 : decode cX2_shedPorts 37 = .ok (.aload_n 0, 1) := by decide +kernel
theorem dX2_shedPorts_38 : decode cX2_shedPorts 38 = .ok (.getfield 28, 3) := by decide +kernel
theorem dX2_shedPorts_41 : decode cX2_shedPorts 41 = .ok (.aload_n 0, 1) := by decide +kernel
theorem dX2_shedPorts_42 : decode cX2_shedPorts 42 = .ok (.getfield 56, 3) := by decide +kernel
theorem dX2_shedPorts_45 : decode cX2_shedPorts 45 = .ok (.iload_n 3, 1) := by decide +kernel
theorem dX2_shedPorts_46 : decode cX2_shedPorts 46 = .ok (.iconst 1, 1) := by decide +kernel
theorem dX2_shedPorts_47 : decode cX2_shedPorts 47 = .ok (.invokevirtual 113, 3) := by decide +kernel
theorem dX2_shedPorts_50 : decode cX2_shedPorts 50 = .ok (.iload_n 1, 1) := by decide +kernel
theorem dX2_shedPorts_51 : decode cX2_shedPorts 51 = .ok (.iconst 1, 1) := by decide +kernel
theorem dX2_shedPorts_52 : decode cX2_shedPorts 52 = .ok (.iload_n 3, 1) := by decide +kernel
theorem dX2_shedPorts_53 : decode cX2_shedPorts 53 = .ok (.ishl, 1) := by decide +kernel
theorem dX2_shedPorts_54 : decode cX2_shedPorts 54 = .ok (.ior, 1) := by decide +kernel
theorem dX2_shedPorts_55 : decode cX2_shedPorts 55 = .ok (.istore_n 1, 1) := by decide +kernel
theorem dX2_shedPorts_56 : decode cX2_shedPorts 56 = .ok (.iinc 2 1, 3) := by decide +kernel
theorem dX2_shedPorts_59 : decode cX2_shedPorts 59 = .ok (.goto (-55), 3) := by decide +kernel
theorem dX2_shedPorts_62 : decode cX2_shedPorts 62 = .ok (.iload_n 1, 1) := by decide +kernel
theorem dX2_shedPorts_63 : decode cX2_shedPorts 63 = .ok (.ireturn, 1) := by decide +kernel
theorem dX2_lastPoweredPort_0 : decode cX2_lastPoweredPort 0 = .ok (.bipush (-6), 2) := by decide +kernel
theorem dX2_lastPoweredPort_2 : decode cX2_lastPoweredPort 2 = .ok (.istore_n 1, 1) := by decide +kernel
theorem dX2_lastPoweredPort_3 : decode cX2_lastPoweredPort 3 = .ok (.iconst 0, 1) := by decide +kernel
theorem dX2_lastPoweredPort_4 : decode cX2_lastPoweredPort 4 = .ok (.istore_n 2, 1) := by decide +kernel
theorem dX2_lastPoweredPort_5 : decode cX2_lastPoweredPort 5 = .ok (.iconst 0, 1) := by decide +kernel
theorem dX2_lastPoweredPort_6 : decode cX2_lastPoweredPort 6 = .ok (.istore_n 3, 1) := by decide +kernel
theorem dX2_lastPoweredPort_7 : decode cX2_lastPoweredPort 7 = .ok (.iload_n 3, 1) := by decide +kernel
theorem dX2_lastPoweredPort_8 : decode cX2_lastPoweredPort 8 = .ok (.bipush 8, 2) := by decide +kernel
theorem dX2_lastPoweredPort_10 : decode cX2_lastPoweredPort 10 = .ok (.if_icmp .ge 42, 3) := by decide +kernel
theorem dX2_lastPoweredPort_13 : decode cX2_lastPoweredPort 13 = .ok (.aload_n 0, 1) := by decide +kernel
theorem dX2_lastPoweredPort_14 : decode cX2_lastPoweredPort 14 = .ok (.getfield 21, 3) := by decide +kernel
theorem dX2_lastPoweredPort_17 : decode cX2_lastPoweredPort 17 = .ok (.iload_n 3, 1) := by decide +kernel
theorem dX2_lastPoweredPort_18 : decode cX2_lastPoweredPort 18 = .ok (.aaload, 1) := by decide +kernel
theorem dX2_lastPoweredPort_19 : decode cX2_lastPoweredPort 19 = .ok (.astore 4, 2) := by decide +kernel
theorem dX2_lastPoweredPort_21 : decode cX2_lastPoweredPort 21 = .ok (.aload 4, 2) := by decide +kernel
theorem dX2_lastPoweredPort_23 : decode cX2_lastPoweredPort 23 = .ok (.invokevirtual 76, 3) := by decide +kernel
theorem dX2_lastPoweredPort_26 : decode cX2_lastPoweredPort 26 = .ok (.ifCond .eq 20, 3) := by decide +kernel
theorem dX2_lastPoweredPort_29 : decode cX2_lastPoweredPort 29 = .ok (.aload 4, 2) := by decide +kernel
theorem dX2_lastPoweredPort_31 : decode cX2_lastPoweredPort 31 = .ok (.getfield 79, 3) := by decide +kernel
theorem dX2_lastPoweredPort_34 : decode cX2_lastPoweredPort 34 = .ok (.iload_n 2, 1) := by decide +kernel
theorem dX2_lastPoweredPort_35 : decode cX2_lastPoweredPort 35 = .ok (.if_icmp .lt 11, 3) := by decide +kernel
theorem dX2_lastPoweredPort_38 : decode cX2_lastPoweredPort 38 = .ok (.iload_n 3, 1) := by decide +kernel
theorem dX2_lastPoweredPort_39 : decode cX2_lastPoweredPort 39 = .ok (.istore_n 1, 1) := by decide +kernel
theorem dX2_lastPoweredPort_40 : decode cX2_lastPoweredPort 40 = .ok (.aload 4, 2) := by decide +kernel
theorem dX2_lastPoweredPort_42 : decode cX2_lastPoweredPort 42 = .ok (.getfield 79, 3) := by decide +kernel
theorem dX2_lastPoweredPort_45 : decode cX2_lastPoweredPort 45 = .ok (.istore_n 2, 1) := by decide +kernel
theorem dX2_lastPoweredPort_46 : decode cX2_lastPoweredPort 46 = .ok (.iinc 3 1, 3) := by decide +kernel
theorem dX2_lastPoweredPort_49 : decode cX2_lastPoweredPort 49 = .ok (.goto (-42), 3) := by decide +kernel
theorem dX2_lastPoweredPort_52 : decode cX2_lastPoweredPort 52 = .ok (.iload_n 1, 1) := by decide +kernel
theorem dX2_lastPoweredPort_53 : decode cX2_lastPoweredPort 53 = .ok (.ireturn, 1) := by decide +kernel
theorem dX2_cutPorts_0 : decode cX2_cutPorts 0 = .ok (.iconst 0, 1) := by decide +kernel
theorem dX2_cutPorts_1 : decode cX2_cutPorts 1 = .ok (.istore_n 1, 1) := by decide +kernel
theorem dX2_cutPorts_2 : decode cX2_cutPorts 2 = .ok (.iconst 0, 1) := by decide +kernel
theorem dX2_cutPorts_3 : decode cX2_cutPorts 3 = .ok (.istore_n 2, 1) := by decide +kernel
theorem dX2_cutPorts_4 : decode cX2_cutPorts 4 = .ok (.iload_n 2, 1) := by decide +kernel
theorem dX2_cutPorts_5 : decode cX2_cutPorts 5 = .ok (.bipush 8, 2) := by decide +kernel
theorem dX2_cutPorts_7 : decode cX2_cutPorts 7 = .ok (.if_icmp .ge 79, 3) := by decide +kernel
theorem dX2_cutPorts_10 : decode cX2_cutPorts 10 = .ok (.aload_n 0, 1) := by decide +kernel
theorem dX2_cutPorts_11 : decode cX2_cutPorts 11 = .ok (.getfield 21, 3) := by decide +kernel
theorem dX2_cutPorts_14 : decode cX2_cutPorts 14 = .ok (.iload_n 2, 1) := by decide +kernel
theorem dX2_cutPorts_15 : decode cX2_cutPorts 15 = .ok (.aaload, 1) := by decide +kernel
theorem dX2_cutPorts_16 : decode cX2_cutPorts 16 = .ok (.astore_n 3, 1) := by decide +kernel
theorem dX2_cutPorts_17 : decode cX2_cutPorts 17 = .ok (.aload_n 3, 1) := by decide +kernel
theorem dX2_cutPorts_18 : decode cX2_cutPorts 18 = .ok (.aload_n 3, 1) := by decide +kernel
theorem dX2_cutPorts_19 : decode cX2_cutPorts 19 = .ok (.invokevirtual 117, 3) := by decide +kernel
theorem dX2_cutPorts_22 : decode cX2_cutPorts 22 = .ok (.ifCond .eq 12, 3) := by decide +kernel
theorem dX2_cutPorts_25 : decode cX2_cutPorts 25 = .ok (.aload_n 3, 1) := by decide +kernel
theorem dX2_cutPorts_26 : decode cX2_cutPorts 26 = .ok (.getfield 120, 3) := by decide +kernel
theorem dX2_cutPorts_29 : decode cX2_cutPorts 29 = .ok (.iconst 1, 1) := by decide +kernel
theorem dX2_cutPorts_30 : decode cX2_cutPorts 30 = .ok (.iadd, 1) := by decide +kernel
theorem dX2_cutPorts_31 : decode cX2_cutPorts 31 = .ok (.goto 4, 3) := by decide +kernel
theorem dX2_cutPorts_34 : decode cX2_cutPorts 34 = .ok (.iconst 0, 1) := by decide +kernel
theorem dX2_cutPorts_35 : decode cX2_cutPorts 35 = .ok (.putfield 120, 3) := by decide +kernel
theorem dX2_cutPorts_38 : decode cX2_cutPorts 38 = .ok (.aload_n 3, 1) := by decide +kernel
theorem dX2_cutPorts_39 : decode cX2_cutPorts 39 = .ok (.getfield 120, 3) := by decide +kernel
theorem dX2_cutPorts_42 : decode cX2_cutPorts 42 = .ok (.aload_n 0, 1) := by decide +kernel
theorem dX2_cutPorts_43 : decode cX2_cutPorts 43 = .ok (.getfield 36, 3) := by decide +kernel
theorem dX2_cutPorts_46 : decode cX2_cutPorts 46 = .ok (.if_icmp .lt 34, 3) := by decide +kernel
theorem dX2_cutPorts_49 : decode cX2_cutPorts 49 = .ok (.aload_n 3, 1) := by decide +kernel
theorem dX2_cutPorts_50 : decode cX2_cutPorts 50 = .ok (.invokevirtual 110, 3) := by decide +kernel
theorem dX2_cutPorts_53 : decode cX2_cutPorts 53 = .ok (.aload_n 3, 1) := by decide +kernel
theorem dX2_cutPorts_54 : decode cX2_cutPorts 54 = .ok (.aload_n 0, 1) := by decide +kernel
theorem dX2_cutPorts_55 : decode cX2_cutPorts 55 = .ok (.getfield 39, 3) := by decide +kernel
theorem dX2_cutPorts_58 : decode cX2_cutPorts 58 = .ok (.putfield 123, 3) := by decide +kernel
theorem dX2_cutPorts_61 : decode cX2_cutPorts 61 = .ok (.aload_n 0, 1) := by decide +kernel
theorem dX2_cutPorts_62 : decode cX2_cutPorts 62 = .ok (.getfield 28, 3) := by decide +kernel
theorem dX2_cutPorts_65 : decode cX2_cutPorts 65 = .ok (.aload_n 0, 1) := by decide +kernel
theorem dX2_cutPorts_66 : decode cX2_cutPorts 66 = .ok (.getfield 56, 3) := by decide +kernel
theorem dX2_cutPorts_69 : decode cX2_cutPorts 69 = .ok (.iload_n 2, 1) := by decide +kernel
theorem dX2_cutPorts_70 : decode cX2_cutPorts 70 = .ok (.iconst 2, 1) := by decide +kernel
theorem dX2_cutPorts_71 : decode cX2_cutPorts 71 = .ok (.invokevirtual 113, 3) := by decide +kernel
theorem dX2_cutPorts_74 : decode cX2_cutPorts 74 = .ok (.iload_n 1, 1) := by decide +kernel
theorem dX2_cutPorts_75 : decode cX2_cutPorts 75 = .ok (.iconst 1, 1) := by decide +kernel
theorem dX2_cutPorts_76 : decode cX2_cutPorts 76 = .ok (.iload_n 2, 1) := by decide +kernel
theorem dX2_cutPorts_77 : decode cX2_cutPorts 77 = .ok (.ishl, 1) := by decide +kernel
theorem dX2_cutPorts_78 : decode cX2_cutPorts 78 = .ok (.ior, 1) := by decide +kernel
theorem dX2_cutPorts_79 : decode cX2_cutPorts 79 = .ok (.istore_n 1, 1) := by decide +kernel
theorem dX2_cutPorts_80 : decode cX2_cutPorts 80 = .ok (.iinc 2 1, 3) := by decide +kernel
theorem dX2_cutPorts_83 : decode cX2_cutPorts 83 = .ok (.goto (-79), 3) := by decide +kernel
theorem dX2_cutPorts_86 : decode cX2_cutPorts 86 = .ok (.iload_n 1, 1) := by decide +kernel
theorem dX2_cutPorts_87 : decode cX2_cutPorts 87 = .ok (.ireturn, 1) := by decide +kernel
theorem dX2_coolDownExcept_0 : decode cX2_coolDownExcept 0 = .ok (.iconst 0, 1) := by decide +kernel
theorem dX2_coolDownExcept_1 : decode cX2_coolDownExcept 1 = .ok (.istore_n 2, 1) := by decide +kernel
theorem dX2_coolDownExcept_2 : decode cX2_coolDownExcept 2 = .ok (.iload_n 2, 1) := by decide +kernel
theorem dX2_coolDownExcept_3 : decode cX2_coolDownExcept 3 = .ok (.bipush 8, 2) := by decide +kernel
theorem dX2_coolDownExcept_5 : decode cX2_coolDownExcept 5 = .ok (.if_icmp .ge 54, 3) := by decide +kernel
theorem dX2_coolDownExcept_8 : decode cX2_coolDownExcept 8 = .ok (.iload_n 1, 1) := by decide +kernel
theorem dX2_coolDownExcept_9 : decode cX2_coolDownExcept 9 = .ok (.iconst 1, 1) := by decide +kernel
theorem dX2_coolDownExcept_10 : decode cX2_coolDownExcept 10 = .ok (.iload_n 2, 1) := by decide +kernel
theorem dX2_coolDownExcept_11 : decode cX2_coolDownExcept 11 = .ok (.ishl, 1) := by decide +kernel
theorem dX2_coolDownExcept_12 : decode cX2_coolDownExcept 12 = .ok (.iand, 1) := by decide +kernel
theorem dX2_coolDownExcept_13 : decode cX2_coolDownExcept 13 = .ok (.ifCond .eq 7, 3) := by decide +kernel
theorem dX2_coolDownExcept_16 : decode cX2_coolDownExcept 16 = .ok (.iconst 1, 1) := by decide +kernel
theorem dX2_coolDownExcept_17 : decode cX2_coolDownExcept 17 = .ok (.goto 4, 3) := by decide +kernel
theorem dX2_coolDownExcept_20 : decode cX2_coolDownExcept 20 = .ok (.iconst 0, 1) := by decide +kernel
theorem dX2_coolDownExcept_21 : decode cX2_coolDownExcept 21 = .ok (.istore_n 3, 1) := by decide +kernel
theorem dX2_coolDownExcept_22 : decode cX2_coolDownExcept 22 = .ok (.iload_n 3, 1) := by decide +kernel
theorem dX2_coolDownExcept_23 : decode cX2_coolDownExcept 23 = .ok (.ifCond .ne 30, 3) := by decide +kernel
theorem dX2_coolDownExcept_26 : decode cX2_coolDownExcept 26 = .ok (.aload_n 0, 1) := by decide +kernel
theorem dX2_coolDownExcept_27 : decode cX2_coolDownExcept 27 = .ok (.getfield 21, 3) := by decide +kernel
theorem dX2_coolDownExcept_30 : decode cX2_coolDownExcept 30 = .ok (.iload_n 2, 1) := by decide +kernel
theorem dX2_coolDownExcept_31 : decode cX2_coolDownExcept 31 = .ok (.aaload, 1) := by decide +kernel
theorem dX2_coolDownExcept_32 : decode cX2_coolDownExcept 32 = .ok (.getfield 123, 3) := by decide +kernel
theorem dX2_coolDownExcept_35 : decode cX2_coolDownExcept 35 = .ok (.ifCond .le 18, 3) := by decide +kernel
theorem dX2_coolDownExcept_38 : decode cX2_coolDownExcept 38 = .ok (.aload_n 0, 1) := by decide +kernel
theorem dX2_coolDownExcept_39 : decode cX2_coolDownExcept 39 = .ok (.getfield 21, 3) := by decide +kernel
theorem dX2_coolDownExcept_42 : decode cX2_coolDownExcept 42 = .ok (.iload_n 2, 1) := by decide +kernel
theorem dX2_coolDownExcept_43 : decode cX2_coolDownExcept 43 = .ok (.aaload, 1) := by decide +kernel
theorem dX2_coolDownExcept_44 : decode cX2_coolDownExcept 44 = .ok (.dup, 1) := by decide +kernel
theorem dX2_coolDownExcept_45 : decode cX2_coolDownExcept 45 = .ok (.getfield 123, 3) := by decide +kernel
theorem dX2_coolDownExcept_48 : decode cX2_coolDownExcept 48 = .ok (.iconst 1, 1) := by decide +kernel
theorem dX2_coolDownExcept_49 : decode cX2_coolDownExcept 49 = .ok (.isub, 1) := by decide +kernel
theorem dX2_coolDownExcept_50 : decode cX2_coolDownExcept 50 = .ok (.putfield 123, 3) := by decide +kernel
theorem dX2_coolDownExcept_53 : decode cX2_coolDownExcept 53 = .ok (.iinc 2 1, 3) := by decide +kernel
theorem dX2_coolDownExcept_56 : decode cX2_coolDownExcept 56 = .ok (.goto (-54), 3) := by decide +kernel
theorem dX2_coolDownExcept_59 : decode cX2_coolDownExcept 59 = .ok (.return_, 1) := by decide +kernel
theorem dX2_powerUp_0 : decode cX2_powerUp 0 = .ok (.aload_n 0, 1) := by decide +kernel
theorem dX2_powerUp_1 : decode cX2_powerUp 1 = .ok (.getfield 53, 3) := by decide +kernel
theorem dX2_powerUp_4 : decode cX2_powerUp 4 = .ok (.ifCond .le 13, 3) := by decide +kernel
theorem dX2_powerUp_7 : decode cX2_powerUp 7 = .ok (.aload_n 0, 1) := by decide +kernel
theorem dX2_powerUp_8 : decode cX2_powerUp 8 = .ok (.dup, 1) := by decide +kernel
theorem dX2_powerUp_9 : decode cX2_powerUp 9 = .ok (.getfield 53, 3) := by decide +kernel
theorem dX2_powerUp_12 : decode cX2_powerUp 12 = .ok (.iconst 1, 1) := by decide +kernel
theorem dX2_powerUp_13 : decode cX2_powerUp 13 = .ok (.isub, 1) := by decide +kernel
theorem dX2_powerUp_14 : decode cX2_powerUp 14 = .ok (.putfield 53, 3) := by decide +kernel
theorem dX2_powerUp_17 : decode cX2_powerUp 17 = .ok (.aload_n 0, 1) := by decide +kernel
theorem dX2_powerUp_18 : decode cX2_powerUp 18 = .ok (.getfield 53, 3) := by decide +kernel
theorem dX2_powerUp_21 : decode cX2_powerUp 21 = .ok (.ifCond .le 5, 3) := by decide +kernel
theorem dX2_powerUp_24 : decode cX2_powerUp 24 = .ok (.iconst 0, 1) := by decide +kernel
theorem dX2_powerUp_25 : decode cX2_powerUp 25 = .ok (.ireturn, 1) := by decide +kernel
theorem dX2_powerUp_26 : decode cX2_powerUp 26 = .ok (.aload_n 0, 1) := by decide +kernel
theorem dX2_powerUp_27 : decode cX2_powerUp 27 = .ok (.invokevirtual 126, 3) := by decide +kernel
theorem dX2_powerUp_30 : decode cX2_powerUp 30 = .ok (.istore_n 1, 1) := by decide +kernel
theorem dX2_powerUp_31 : decode cX2_powerUp 31 = .ok (.iload_n 1, 1) := by decide +kernel
theorem dX2_powerUp_32 : decode cX2_powerUp 32 = .ok (.bipush (-6), 2) := by decide +kernel
theorem dX2_powerUp_34 : decode cX2_powerUp 34 = .ok (.if_icmp .ne 5, 3) := by decide +kernel
theorem dX2_powerUp_37 : decode cX2_powerUp 37 = .ok (.iconst 0, 1) := by decide +kernel
theorem dX2_powerUp_38 : decode cX2_powerUp 38 = .ok (.ireturn, 1) := by decide +kernel
theorem dX2_powerUp_39 : decode cX2_powerUp 39 = .ok (.aload_n 0, 1) := by decide +kernel
theorem dX2_powerUp_40 : decode cX2_powerUp 40 = .ok (.getfield 21, 3) := by decide +kernel
theorem dX2_powerUp_43 : decode cX2_powerUp 43 = .ok (.iload_n 1, 1) := by decide +kernel
theorem dX2_powerUp_44 : decode cX2_powerUp 44 = .ok (.aaload, 1) := by decide +kernel
theorem dX2_powerUp_45 : decode cX2_powerUp 45 = .ok (.aload_n 0, 1) := by decide +kernel
theorem dX2_powerUp_46 : decode cX2_powerUp 46 = .ok (.getfield 21, 3) := by decide +kernel
theorem dX2_powerUp_49 : decode cX2_powerUp 49 = .ok (.iload_n 1, 1) := by decide +kernel
theorem dX2_powerUp_50 : decode cX2_powerUp 50 = .ok (.aaload, 1) := by decide +kernel
theorem dX2_powerUp_51 : decode cX2_powerUp 51 = .ok (.getfield 82, 3) := by decide +kernel
theorem dX2_powerUp_54 : decode cX2_powerUp 54 = .ok (.putfield 69, 3) := by decide +kernel
theorem dX2_powerUp_57 : decode cX2_powerUp 57 = .ok (.aload_n 0, 1) := by decide +kernel
theorem dX2_powerUp_58 : decode cX2_powerUp 58 = .ok (.aload_n 0, 1) := by decide +kernel
theorem dX2_powerUp_59 : decode cX2_powerUp 59 = .ok (.getfield 32, 3) := by decide +kernel
theorem dX2_powerUp_62 : decode cX2_powerUp 62 = .ok (.putfield 53, 3) := by decide +kernel
theorem dX2_powerUp_65 : decode cX2_powerUp 65 = .ok (.aload_n 0, 1) := by decide +kernel
theorem dX2_powerUp_66 : decode cX2_powerUp 66 = .ok (.getfield 28, 3) := by decide +kernel
theorem dX2_powerUp_69 : decode cX2_powerUp 69 = .ok (.aload_n 0, 1) := by decide +kernel
theorem dX2_powerUp_70 : decode cX2_powerUp 70 = .ok (.getfield 56, 3) := by decide +kernel
theorem dX2_powerUp_73 : decode cX2_powerUp 73 = .ok (.iload_n 1, 1) := by decide +kernel
theorem dX2_powerUp_74 : decode cX2_powerUp 74 = .ok (.iconst 0, 1) := by decide +kernel
theorem dX2_powerUp_75 : decode cX2_powerUp 75 = .ok (.invokevirtual 113, 3) := by decide +kernel
theorem dX2_powerUp_78 : decode cX2_powerUp 78 = .ok (.iconst 1, 1) := by decide +kernel
theorem dX2_powerUp_79 : decode cX2_powerUp 79 = .ok (.ireturn, 1) := by decide +kernel
theorem dX2_firstPortToPowerUp_0 : decode cX2_firstPortToPowerUp 0 = .ok (.bipush (-6), 2) := by decide +kernel
theorem dX2_firstPortToPowerUp_2 : decode cX2_firstPortToPowerUp 2 = .ok (.istore_n 1, 1) := by decide +kernel
theorem dX2_firstPortToPowerUp_3 : decode cX2_firstPortToPowerUp 3 = .ok (.iconst 3, 1) := by decide +kernel
theorem dX2_firstPortToPowerUp_4 : decode cX2_firstPortToPowerUp 4 = .ok (.istore_n 2, 1) := by decide +kernel
theorem dX2_firstPortToPowerUp_5 : decode cX2_firstPortToPowerUp 5 = .ok (.aload_n 0, 1) := by decide +kernel
theorem dX2_firstPortToPowerUp_6 : decode cX2_firstPortToPowerUp 6 = .ok (.invokevirtual 104, 3) := by decide +kernel
theorem dX2_firstPortToPowerUp_9 : decode cX2_firstPortToPowerUp 9 = .ok (.istore_n 3, 1) := by decide +kernel
theorem dX2_firstPortToPowerUp_10 : decode cX2_firstPortToPowerUp 10 = .ok (.iconst 0, 1) := by decide +kernel
theorem dX2_firstPortToPowerUp_11 : decode cX2_firstPortToPowerUp 11 = .ok (.istore 4, 2) := by decide +kernel
theorem dX2_firstPortToPowerUp_13 : decode cX2_firstPortToPowerUp 13 = .ok (.iload 4, 2) := by decide +kernel
theorem dX2_firstPortToPowerUp_15 : decode cX2_firstPortToPowerUp 15 = .ok (.bipush 8, 2) := by decide +kernel
theorem dX2_firstPortToPowerUp_17 : decode cX2_firstPortToPowerUp 17 = .ok (.if_icmp .ge 45, 3) := by decide +kernel
theorem dX2_firstPortToPowerUp_20 : decode cX2_firstPortToPowerUp 20 = .ok (.aload_n 0, 1) := by decide +kernel
theorem dX2_firstPortToPowerUp_21 : decode cX2_firstPortToPowerUp 21 = .ok (.getfield 21, 3) := by decide +kernel
theorem dX2_firstPortToPowerUp_24 : decode cX2_firstPortToPowerUp 24 = .ok (.iload 4, 2) := by decide +kernel
theorem dX2_firstPortToPowerUp_26 : decode cX2_firstPortToPowerUp 26 = .ok (.aaload, 1) := by decide +kernel
theorem dX2_firstPortToPowerUp_27 : decode cX2_firstPortToPowerUp 27 = .ok (.astore 5, 2) := by decide +kernel
theorem dX2_firstPortToPowerUp_29 : decode cX2_firstPortToPowerUp 29 = .ok (.aload 5, 2) := by decide +kernel
theorem dX2_firstPortToPowerUp_31 : decode cX2_firstPortToPowerUp 31 = .ok (.getfield 79, 3) := by decide +kernel
theorem dX2_firstPortToPowerUp_34 : decode cX2_firstPortToPowerUp 34 = .ok (.iload_n 2, 1) := by decide +kernel
theorem dX2_firstPortToPowerUp_35 : decode cX2_firstPortToPowerUp 35 = .ok (.if_icmp .ge 21, 3) := by decide +kernel
theorem dX2_firstPortToPowerUp_38 : decode cX2_firstPortToPowerUp 38 = .ok (.aload 5, 2) := by decide +kernel
theorem dX2_firstPortToPowerUp_40 : decode cX2_firstPortToPowerUp 40 = .ok (.iload_n 3, 1) := by decide +kernel
theorem dX2_firstPortToPowerUp_41 : decode cX2_firstPortToPowerUp 41 = .ok (.invokevirtual 129, 3) := by decide +kernel
theorem dX2_firstPortToPowerUp_44 : decode cX2_firstPortToPowerUp 44 = .ok (.ifCond .eq 12, 3) := by decide +kernel
theorem dX2_firstPortToPowerUp_47 : decode cX2_firstPortToPowerUp 47 = .ok (.iload 4, 2) := by decide +kernel
theorem dX2_firstPortToPowerUp_49 : decode cX2_firstPortToPowerUp 49 = .ok (.istore_n 1, 1) := by decide +kernel
theorem dX2_firstPortToPowerUp_50 : decode cX2_firstPortToPowerUp 50 = .ok (.aload 5, 2) := by decide +kernel
theorem dX2_firstPortToPowerUp_52 : decode cX2_firstPortToPowerUp 52 = .ok (.getfield 79, 3) := by decide +kernel
theorem dX2_firstPortToPowerUp_55 : decode cX2_firstPortToPowerUp 55 = .ok (.istore_n 2, 1) := by decide +kernel
theorem dX2_firstPortToPowerUp_56 : decode cX2_firstPortToPowerUp 56 = .ok (.iinc 4 1, 3) := by decide +kernel
theorem dX2_firstPortToPowerUp_59 : decode cX2_firstPortToPowerUp 59 = .ok (.goto (-46), 3) := by decide +kernel
theorem dX2_firstPortToPowerUp_62 : decode cX2_firstPortToPowerUp 62 = .ok (.iload_n 1, 1) := by decide +kernel
theorem dX2_firstPortToPowerUp_63 : decode cX2_firstPortToPowerUp 63 = .ok (.ireturn, 1) := by decide +kernel
theorem dX2_isStable_0 : decode cX2_isStable 0 = .ok (.aload_n 0, 1) := by decide +kernel
theorem dX2_isStable_1 : decode cX2_isStable 1 = .ok (.getfield 53, 3) := by decide +kernel
theorem dX2_isStable_4 : decode cX2_isStable 4 = .ok (.ifCond .ne 30, 3) := by decide +kernel
theorem dX2_isStable_7 : decode cX2_isStable 7 = .ok (.aload_n 0, 1) := by decide +kernel
theorem dX2_isStable_8 : decode cX2_isStable 8 = .ok (.invokevirtual 104, 3) := by decide +kernel
theorem dX2_isStable_11 : decode cX2_isStable 11 = .ok (.ifCond .lt 23, 3) := by decide +kernel
theorem dX2_isStable_14 : decode cX2_isStable 14 = .ok (.aload_n 0, 1) := by decide +kernel
theorem dX2_isStable_15 : decode cX2_isStable 15 = .ok (.invokevirtual 133, 3) := by decide +kernel
theorem dX2_isStable_18 : decode cX2_isStable 18 = .ok (.ifCond .eq 16, 3) := by decide +kernel
theorem dX2_isStable_21 : decode cX2_isStable 21 = .ok (.aload_n 0, 1) := by decide +kernel
theorem dX2_isStable_22 : decode cX2_isStable 22 = .ok (.invokevirtual 126, 3) := by decide +kernel
theorem dX2_isStable_25 : decode cX2_isStable 25 = .ok (.bipush (-6), 2) := by decide +kernel
theorem dX2_isStable_27 : decode cX2_isStable 27 = .ok (.if_icmp .ne 7, 3) := by decide +kernel
theorem dX2_isStable_30 : decode cX2_isStable 30 = .ok (.iconst 1, 1) := by decide +kernel
theorem dX2_isStable_31 : decode cX2_isStable 31 = .ok (.goto 4, 3) := by decide +kernel
theorem dX2_isStable_34 : decode cX2_isStable 34 = .ok (.iconst 0, 1) := by decide +kernel
theorem dX2_isStable_35 : decode cX2_isStable 35 = .ok (.ireturn, 1) := by decide +kernel
theorem dX2_portsAreCalm_0 : decode cX2_portsAreCalm 0 = .ok (.iconst 0, 1) := by decide +kernel
theorem dX2_portsAreCalm_1 : decode cX2_portsAreCalm 1 = .ok (.istore_n 1, 1) := by decide +kernel
theorem dX2_portsAreCalm_2 : decode cX2_portsAreCalm 2 = .ok (.iload_n 1, 1) := by decide +kernel
theorem dX2_portsAreCalm_3 : decode cX2_portsAreCalm 3 = .ok (.bipush 8, 2) := by decide +kernel
theorem dX2_portsAreCalm_5 : decode cX2_portsAreCalm 5 = .ok (.if_icmp .ge 39, 3) := by decide +kernel
theorem dX2_portsAreCalm_8 : decode cX2_portsAreCalm 8 = .ok (.aload_n 0, 1) := by decide +kernel
theorem dX2_portsAreCalm_9 : decode cX2_portsAreCalm 9 = .ok (.getfield 21, 3) := by decide +kernel
theorem dX2_portsAreCalm_12 : decode cX2_portsAreCalm 12 = .ok (.iload_n 1, 1) := by decide +kernel
theorem dX2_portsAreCalm_13 : decode cX2_portsAreCalm 13 = .ok (.aaload, 1) := by decide +kernel
theorem dX2_portsAreCalm_14 : decode cX2_portsAreCalm 14 = .ok (.astore_n 2, 1) := by decide +kernel
theorem dX2_portsAreCalm_15 : decode cX2_portsAreCalm 15 = .ok (.aload_n 2, 1) := by decide +kernel
theorem dX2_portsAreCalm_16 : decode cX2_portsAreCalm 16 = .ok (.getfield 123, 3) := by decide +kernel
theorem dX2_portsAreCalm_19 : decode cX2_portsAreCalm 19 = .ok (.ifCond .gt 17, 3) := by decide +kernel
theorem dX2_portsAreCalm_22 : decode cX2_portsAreCalm 22 = .ok (.aload_n 2, 1) := by decide +kernel
theorem dX2_portsAreCalm_23 : decode cX2_portsAreCalm 23 = .ok (.getfield 120, 3) := by decide +kernel
theorem dX2_portsAreCalm_26 : decode cX2_portsAreCalm 26 = .ok (.ifCond .gt 10, 3) := by decide +kernel
theorem dX2_portsAreCalm_29 : decode cX2_portsAreCalm 29 = .ok (.aload_n 2, 1) := by decide +kernel
theorem dX2_portsAreCalm_30 : decode cX2_portsAreCalm 30 = .ok (.invokevirtual 117, 3) := by decide +kernel
theorem dX2_portsAreCalm_33 : decode cX2_portsAreCalm 33 = .ok (.ifCond .eq 5, 3) := by decide +kernel
theorem dX2_portsAreCalm_36 : decode cX2_portsAreCalm 36 = .ok (.iconst 0, 1) := by decide +kernel
theorem dX2_portsAreCalm_37 : decode cX2_portsAreCalm 37 = .ok (.ireturn, 1) := by decide +kernel
theorem dX2_portsAreCalm_38 : decode cX2_portsAreCalm 38 = .ok (.iinc 1 1, 3) := by decide +kernel
theorem dX2_portsAreCalm_41 : decode cX2_portsAreCalm 41 = .ok (.goto (-39), 3) := by decide +kernel
theorem dX2_portsAreCalm_44 : decode cX2_portsAreCalm 44 = .ok (.iconst 1, 1) := by decide +kernel
theorem dX2_portsAreCalm_45 : decode cX2_portsAreCalm 45 = .ok (.ireturn, 1) := by decide +kernel
end
section
/-! decode rows, as the task prints them -/
theorem dX3_init_0 : decode cX3_init 0 = .ok (.aload_n 0, 1) := by decide +kernel
theorem dX3_init_1 : decode cX3_init 1 = .ok (.invokespecial 1, 3) := by decide +kernel
theorem dX3_init_4 : decode cX3_init 4 = .ok (.aload_n 0, 1) := by decide +kernel
theorem dX3_init_5 : decode cX3_init 5 = .ok (.new 7, 3) := by decide +kernel
theorem dX3_init_8 : decode cX3_init 8 = .ok (.dup, 1) := by decide +kernel
theorem dX3_init_9 : decode cX3_init 9 = .ok (.invokespecial 9, 3) := by decide +kernel
theorem dX3_init_12 : decode cX3_init 12 = .ok (.putfield 10, 3) := by decide +kernel
theorem dX3_init_15 : decode cX3_init 15 = .ok (.aload_n 0, 1) := by decide +kernel
theorem dX3_init_16 : decode cX3_init 16 = .ok (.new 7, 3) := by decide +kernel
theorem dX3_init_19 : decode cX3_init 19 = .ok (.dup, 1) := by decide +kernel
theorem dX3_init_20 : decode cX3_init 20 = .ok (.invokespecial 9, 3) := by decide +kernel
theorem dX3_init_23 : decode cX3_init 23 = .ok (.putfield 16, 3) := by decide +kernel
theorem dX3_init_26 : decode cX3_init 26 = .ok (.aload_n 0, 1) := by decide +kernel
theorem dX3_init_27 : decode cX3_init 27 = .ok (.iconst 2, 1) := by decide +kernel
theorem dX3_init_28 : decode cX3_init 28 = .ok (.anewarray 7, 3) := by decide +kernel
theorem dX3_init_31 : decode cX3_init 31 = .ok (.putfield 19, 3) := by decide +kernel
theorem dX3_init_34 : decode cX3_init 34 = .ok (.return_, 1) := by decide +kernel
theorem dX3_setCapacity_0 : decode cX3_setCapacity 0 = .ok (.iload_n 1, 1) := by decide +kernel
theorem dX3_setCapacity_1 : decode cX3_setCapacity 1 = .ok (.invokestatic 23, 3) := by decide +kernel
theorem dX3_setCapacity_4 : decode cX3_setCapacity 4 = .ok (.ifCond .ne 5, 3) := by decide +kernel
theorem dX3_setCapacity_7 : decode cX3_setCapacity 7 = .ok (.iconst (-1), 1) := by decide +kernel
theorem dX3_setCapacity_8 : decode cX3_setCapacity 8 = .ok (.ireturn, 1) := by decide +kernel
theorem dX3_setCapacity_9 : decode cX3_setCapacity 9 = .ok (.iload_n 2, 1) := by decide +kernel
theorem dX3_setCapacity_10 : decode cX3_setCapacity 10 = .ok (.iconst 0, 1) := by decide +kernel
theorem dX3_setCapacity_11 : decode cX3_setCapacity 11 = .ok (.sipush 3000, 3) := by decide +kernel
theorem dX3_setCapacity_14 : decode cX3_setCapacity 14 = .ok (.invokestatic 27, 3) := by decide +kernel
theorem dX3_setCapacity_17 : decode cX3_setCapacity 17 = .ok (.ifCond .ne 6, 3) := by decide +kernel
theorem dX3_setCapacity_20 : decode cX3_setCapacity 20 = .ok (.bipush (-2), 2) := by decide +kernel
theorem dX3_setCapacity_22 : decode cX3_setCapacity 22 = .ok (.ireturn, 1) := by decide +kernel
theorem dX3_setCapacity_23 : decode cX3_setCapacity 23 = .ok (.aload_n 0, 1) := by decide +kernel
theorem dX3_setCapacity_24 : decode cX3_setCapacity 24 = .ok (.getfield 10, 3) := by decide +kernel
theorem dX3_setCapacity_27 : decode cX3_setCapacity 27 = .ok (.getfield 31, 3) := by decide +kernel
theorem dX3_setCapacity_30 : decode cX3_setCapacity 30 = .ok (.iload_n 1, 1) := by decide +kernel
theorem dX3_setCapacity_31 : decode cX3_setCapacity 31 = .ok (.iaload, 1) := by decide +kernel
theorem dX3_setCapacity_32 : decode cX3_setCapacity 32 = .ok (.istore_n 3, 1) := by decide +kernel
theorem dX3_setCapacity_33 : decode cX3_setCapacity 33 = .ok (.aload_n 0, 1) := by decide +kernel
theorem dX3_setCapacity_34 : decode cX3_setCapacity 34 = .ok (.getfield 10, 3) := by decide +kernel
theorem dX3_setCapacity_37 : decode cX3_setCapacity 37 = .ok (.getfield 31, 3) := by decide +kernel
theorem dX3_setCapacity_40 : decode cX3_setCapacity 40 = .ok (.iload_n 1, 1) := by decide +kernel
theorem dX3_setCapacity_41 : decode cX3_setCapacity 41 = .ok (.iload_n 2, 1) := by decide +kernel
theorem dX3_setCapacity_42 : decode cX3_setCapacity 42 = .ok (.iastore, 1) := by decide +kernel
theorem dX3_setCapacity_43 : decode cX3_setCapacity 43 = .ok (.iload_n 3, 1) := by decide +kernel
theorem dX3_setCapacity_44 : decode cX3_setCapacity 44 = .ok (.ireturn, 1) := by decide +kernel
theorem dX3_setWorking_0 : decode cX3_setWorking 0 = .ok (.iload_n 1, 1) := by decide +kernel
theorem dX3_setWorking_1 : decode cX3_setWorking 1 = .ok (.invokestatic 23, 3) := by decide +kernel
theorem dX3_setWorking_4 : decode cX3_setWorking 4 = .ok (.ifCond .ne 5, 3) := by decide +kernel
theorem dX3_setWorking_7 : decode cX3_setWorking 7 = .ok (.iconst (-1), 1) := by decide +kernel
theorem dX3_setWorking_8 : decode cX3_setWorking 8 = .ok (.ireturn, 1) := by decide +kernel
theorem dX3_setWorking_9 : decode cX3_setWorking 9 = .ok (.aload_n 0, 1) := by decide +kernel
theorem dX3_setWorking_10 : decode cX3_setWorking 10 = .ok (.getfield 10, 3) := by decide +kernel
theorem dX3_setWorking_13 : decode cX3_setWorking 13 = .ok (.getfield 35, 3) := by decide +kernel
theorem dX3_setWorking_16 : decode cX3_setWorking 16 = .ok (.iload_n 1, 1) := by decide +kernel
theorem dX3_setWorking_17 : decode cX3_setWorking 17 = .ok (.baload, 1) := by decide +kernel
theorem dX3_setWorking_18 : decode cX3_setWorking 18 = .ok (.istore_n 3, 1) := by decide +kernel
theorem dX3_setWorking_19 : decode cX3_setWorking 19 = .ok (.aload_n 0, 1) := by decide +kernel
theorem dX3_setWorking_20 : decode cX3_setWorking 20 = .ok (.getfield 10, 3) := by decide +kernel
theorem dX3_setWorking_23 : decode cX3_setWorking 23 = .ok (.getfield 35, 3) := by decide +kernel
theorem dX3_setWorking_26 : decode cX3_setWorking 26 = .ok (.iload_n 1, 1) := by decide +kernel
theorem dX3_setWorking_27 : decode cX3_setWorking 27 = .ok (.iload_n 2, 1) := by decide +kernel
theorem dX3_setWorking_28 : decode cX3_setWorking 28 = .ok (.bastore, 1) := by decide +kernel
theorem dX3_setWorking_29 : decode cX3_setWorking 29 = .ok (.iload_n 3, 1) := by decide +kernel
theorem dX3_setWorking_30 : decode cX3_setWorking 30 = .ok (.ifCond .eq 7, 3) := by decide +kernel
theorem dX3_setWorking_33 : decode cX3_setWorking 33 = .ok (.iconst 1, 1) := by decide +kernel
theorem dX3_setWorking_34 : decode cX3_setWorking 34 = .ok (.goto 4, 3) := by decide +kernel
theorem dX3_setWorking_37 : decode cX3_setWorking 37 = .ok (.iconst 0, 1) := by decide +kernel
theorem dX3_setWorking_38 : decode cX3_setWorking 38 = .ok (.ireturn, 1) := by decide +kernel
theorem dX3_setReserve_0 : decode cX3_setReserve 0 = .ok (.iload_n 1, 1) := by decide +kernel
theorem dX3_setReserve_1 : decode cX3_setReserve 1 = .ok (.iconst 0, 1) := by decide +kernel
theorem dX3_setReserve_2 : decode cX3_setReserve 2 = .ok (.sipush 3000, 3) := by decide +kernel
theorem dX3_setReserve_5 : decode cX3_setReserve 5 = .ok (.invokestatic 27, 3) := by decide +kernel
theorem dX3_setReserve_8 : decode cX3_setReserve 8 = .ok (.ifCond .ne 6, 3) := by decide +kernel
theorem dX3_setReserve_11 : decode cX3_setReserve 11 = .ok (.bipush (-2), 2) := by decide +kernel
theorem dX3_setReserve_13 : decode cX3_setReserve 13 = .ok (.ireturn, 1) := by decide +kernel
theorem dX3_setReserve_14 : decode cX3_setReserve 14 = .ok (.aload_n 0, 1) := by decide +kernel
theorem dX3_setReserve_15 : decode cX3_setReserve 15 = .ok (.getfield 10, 3) := by decide +kernel
theorem dX3_setReserve_18 : decode cX3_setReserve 18 = .ok (.getfield 39, 3) := by decide +kernel
theorem dX3_setReserve_21 : decode cX3_setReserve 21 = .ok (.istore_n 2, 1) := by decide +kernel
theorem dX3_setReserve_22 : decode cX3_setReserve 22 = .ok (.aload_n 0, 1) := by decide +kernel
theorem dX3_setReserve_23 : decode cX3_setReserve 23 = .ok (.getfield 10, 3) := by decide +kernel
theorem dX3_setReserve_26 : decode cX3_setReserve 26 = .ok (.iload_n 1, 1) := by decide +kernel
theorem dX3_setReserve_27 : decode cX3_setReserve 27 = .ok (.putfield 39, 3) := by decide +kernel
theorem dX3_setReserve_30 : decode cX3_setReserve 30 = .ok (.iload_n 2, 1) := by decide +kernel
theorem dX3_setReserve_31 : decode cX3_setReserve 31 = .ok (.ireturn, 1) := by decide +kernel
theorem dX3_setRestartGap_0 : decode cX3_setRestartGap 0 = .ok (.iload_n 1, 1) := by decide +kernel
theorem dX3_setRestartGap_1 : decode cX3_setRestartGap 1 = .ok (.iconst 1, 1) := by decide +kernel
theorem dX3_setRestartGap_2 : decode cX3_setRestartGap 2 = .ok (.bipush 30, 2) := by decide +kernel
theorem dX3_setRestartGap_4 : decode cX3_setRestartGap 4 = .ok (.invokestatic 27, 3) := by decide +kernel
theorem dX3_setRestartGap_7 : decode cX3_setRestartGap 7 = .ok (.ifCond .ne 6, 3) := by decide +kernel
theorem dX3_setRestartGap_10 : decode cX3_setRestartGap 10 = .ok (.bipush (-2), 2) := by decide +kernel
theorem dX3_setRestartGap_12 : decode cX3_setRestartGap 12 = .ok (.ireturn, 1) := by decide +kernel
theorem dX3_setRestartGap_13 : decode cX3_setRestartGap 13 = .ok (.aload_n 0, 1) := by decide +kernel
theorem dX3_setRestartGap_14 : decode cX3_setRestartGap 14 = .ok (.getfield 10, 3) := by decide +kernel
theorem dX3_setRestartGap_17 : decode cX3_setRestartGap 17 = .ok (.getfield 43, 3) := by decide +kernel
theorem dX3_setRestartGap_20 : decode cX3_setRestartGap 20 = .ok (.istore_n 2, 1) := by decide +kernel
theorem dX3_setRestartGap_21 : decode cX3_setRestartGap 21 = .ok (.aload_n 0, 1) := by decide +kernel
theorem dX3_setRestartGap_22 : decode cX3_setRestartGap 22 = .ok (.getfield 10, 3) := by decide +kernel
theorem dX3_setRestartGap_25 : decode cX3_setRestartGap 25 = .ok (.iload_n 1, 1) := by decide +kernel
theorem dX3_setRestartGap_26 : decode cX3_setRestartGap 26 = .ok (.putfield 43, 3) := by decide +kernel
theorem dX3_setRestartGap_29 : decode cX3_setRestartGap 29 = .ok (.iload_n 2, 1) := by decide +kernel
theorem dX3_setRestartGap_30 : decode cX3_setRestartGap 30 = .ok (.ireturn, 1) := by decide +kernel
theorem dX3_setOverloadLimit_0 : decode cX3_setOverloadLimit 0 = .ok (.iload_n 1, 1) := by decide +kernel
theorem dX3_setOverloadLimit_1 : decode cX3_setOverloadLimit 1 = .ok (.iconst 1, 1) := by decide +kernel
theorem dX3_setOverloadLimit_2 : decode cX3_setOverloadLimit 2 = .ok (.bipush 30, 2) := by decide +kernel
theorem dX3_setOverloadLimit_4 : decode cX3_setOverloadLimit 4 = .ok (.invokestatic 27, 3) := by decide +kernel
theorem dX3_setOverloadLimit_7 : decode cX3_setOverloadLimit 7 = .ok (.ifCond .ne 6, 3) := by decide +kernel
theorem dX3_setOverloadLimit_10 : decode cX3_setOverloadLimit 10 = .ok (.bipush (-2), 2) := by decide +kernel
theorem dX3_setOverloadLimit_12 : decode cX3_setOverloadLimit 12 = .ok (.ireturn, 1) := by decide +kernel
theorem dX3_setOverloadLimit_13 : decode cX3_setOverloadLimit 13 = .ok (.aload_n 0, 1) := by decide +kernel
theorem dX3_setOverloadLimit_14 : decode cX3_setOverloadLimit 14 = .ok (.getfield 10, 3) := by decide +kernel
theorem dX3_setOverloadLimit_17 : decode cX3_setOverloadLimit 17 = .ok (.getfield 46, 3) := by decide +kernel
theorem dX3_setOverloadLimit_20 : decode cX3_setOverloadLimit 20 = .ok (.istore_n 2, 1) := by decide +kernel
theorem dX3_setOverloadLimit_21 : decode cX3_setOverloadLimit 21 = .ok (.aload_n 0, 1) := by decide +kernel
theorem dX3_setOverloadLimit_22 : decode cX3_setOverloadLimit 22 = .ok (.getfield 10, 3) := by decide +kernel
theorem dX3_setOverloadLimit_25 : decode cX3_setOverloadLimit 25 = .ok (.iload_n 1, 1) := by decide +kernel
theorem dX3_setOverloadLimit_26 : decode cX3_setOverloadLimit 26 = .ok (.putfield 46, 3) := by decide +kernel
theorem dX3_setOverloadLimit_29 : decode cX3_setOverloadLimit 29 = .ok (.iload_n 2, 1) := by decide +kernel
theorem dX3_setOverloadLimit_30 : decode cX3_setOverloadLimit 30 = .ok (.ireturn, 1) := by decide +kernel
theorem dX3_setCooldownTime_0 : decode cX3_setCooldownTime 0 = .ok (.iload_n 1, 1) := by decide +kernel
theorem dX3_setCooldownTime_1 : decode cX3_setCooldownTime 1 = .ok (.iconst 1, 1) := by decide +kernel
theorem dX3_setCooldownTime_2 : decode cX3_setCooldownTime 2 = .ok (.bipush 60, 2) := by decide +kernel
theorem dX3_setCooldownTime_4 : decode cX3_setCooldownTime 4 = .ok (.invokestatic 27, 3) := by decide +kernel
theorem dX3_setCooldownTime_7 : decode cX3_setCooldownTime 7 = .ok (.ifCond .ne 6, 3) := by decide +kernel
theorem dX3_setCooldownTime_10 : decode cX3_setCooldownTime 10 = .ok (.bipush (-2), 2) := by decide +kernel
theorem dX3_setCooldownTime_12 : decode cX3_setCooldownTime 12 = .ok (.ireturn, 1) := by decide +kernel
theorem dX3_setCooldownTime_13 : decode cX3_setCooldownTime 13 = .ok (.aload_n 0, 1) := by decide +kernel
theorem dX3_setCooldownTime_14 : decode cX3_setCooldownTime 14 = .ok (.getfield 10, 3) := by decide +kernel
theorem dX3_setCooldownTime_17 : decode cX3_setCooldownTime 17 = .ok (.getfield 49, 3) := by decide +kernel
theorem dX3_setCooldownTime_20 : decode cX3_setCooldownTime 20 = .ok (.istore_n 2, 1) := by decide +kernel
theorem dX3_setCooldownTime_21 : decode cX3_setCooldownTime 21 = .ok (.aload_n 0, 1) := by decide +kernel
theorem dX3_setCooldownTime_22 : decode cX3_setCooldownTime 22 = .ok (.getfield 10, 3) := by decide +kernel
theorem dX3_setCooldownTime_25 : decode cX3_setCooldownTime 25 = .ok (.iload_n 1, 1) := by decide +kernel
theorem dX3_setCooldownTime_26 : decode cX3_setCooldownTime 26 = .ok (.putfield 49, 3) := by decide +kernel
theorem dX3_setCooldownTime_29 : decode cX3_setCooldownTime 29 = .ok (.iload_n 2, 1) := by decide +kernel
theorem dX3_setCooldownTime_30 : decode cX3_setCooldownTime 30 = .ok (.ireturn, 1) := by decide +kernel
theorem dX3_budget_0 : decode cX3_budget 0 = .ok (.aload_n 0, 1) := by decide +kernel
theorem dX3_budget_1 : decode cX3_budget 1 = .ok (.getfield 10, 3) := by decide +kernel
theorem dX3_budget_4 : decode cX3_budget 4 = .ok (.invokevirtual 52, 3) := by decide +kernel
theorem dX3_budget_7 : decode cX3_budget 7 = .ok (.ireturn, 1) := by decide +kernel
theorem dX3_available_0 : decode cX3_available 0 = .ok (.aload_n 0, 1) := by decide +kernel
theorem dX3_available_1 : decode cX3_available 1 = .ok (.getfield 10, 3) := by decide +kernel
theorem dX3_available_4 : decode cX3_available 4 = .ok (.invokevirtual 56, 3) := by decide +kernel
theorem dX3_available_7 : decode cX3_available 7 = .ok (.ireturn, 1) := by decide +kernel
theorem dX3_setEnabled_0 : decode cX3_setEnabled 0 = .ok (.iload_n 1, 1) := by decide +kernel
theorem dX3_setEnabled_1 : decode cX3_setEnabled 1 = .ok (.invokestatic 59, 3) := by decide +kernel
theorem dX3_setEnabled_4 : decode cX3_setEnabled 4 = .ok (.ifCond .ne 5, 3) := by decide +kernel
theorem dX3_setEnabled_7 : decode cX3_setEnabled 7 = .ok (.iconst (-1), 1) := by decide +kernel
theorem dX3_setEnabled_8 : decode cX3_setEnabled 8 = .ok (.ireturn, 1) := by decide +kernel
theorem dX3_setEnabled_9 : decode cX3_setEnabled 9 = .ok (.aload_n 0, 1) := by decide +kernel
theorem dX3_setEnabled_10 : decode cX3_setEnabled 10 = .ok (.getfield 10, 3) := by decide +kernel
theorem dX3_setEnabled_13 : decode cX3_setEnabled 13 = .ok (.getfield 62, 3) := by decide +kernel
theorem dX3_setEnabled_16 : decode cX3_setEnabled 16 = .ok (.iload_n 1, 1) := by decide +kernel
theorem dX3_setEnabled_17 : decode cX3_setEnabled 17 = .ok (.aaload, 1) := by decide +kernel
theorem dX3_setEnabled_18 : decode cX3_setEnabled 18 = .ok (.astore_n 3, 1) := by decide +kernel
theorem dX3_setEnabled_19 : decode cX3_setEnabled 19 = .ok (.aload_n 3, 1) := by decide +kernel
theorem dX3_setEnabled_20 : decode cX3_setEnabled 20 = .ok (.getfield 66, 3) := by decide +kernel
theorem dX3_setEnabled_23 : decode cX3_setEnabled 23 = .ok (.istore 4, 2) := by decide +kernel
theorem dX3_setEnabled_25 : decode cX3_setEnabled 25 = .ok (.aload_n 3, 1) := by decide +kernel
theorem dX3_setEnabled_26 : decode cX3_setEnabled 26 = .ok (.iload_n 2, 1) := by decide +kernel
theorem dX3_setEnabled_27 : decode cX3_setEnabled 27 = .ok (.putfield 66, 3) := by decide +kernel
theorem dX3_setEnabled_30 : decode cX3_setEnabled 30 = .ok (.iload_n 2, 1) := by decide +kernel
theorem dX3_setEnabled_31 : decode cX3_setEnabled 31 = .ok (.ifCond .ne 7, 3) := by decide +kernel
theorem dX3_setEnabled_34 : decode cX3_setEnabled 34 = .ok (.aload_n 3, 1) := by decide +kernel
theorem dX3_setEnabled_35 : decode cX3_setEnabled 35 = .ok (.invokevirtual 72, 3) := by decide +kernel
theorem dX3_setEnabled_38 : decode cX3_setEnabled 38 = .ok (.iload 4, 2) := by decide +kernel
theorem dX3_setEnabled_40 : decode cX3_setEnabled 40 = .ok (.ifCond .eq 7, 3) := by decide +kernel
theorem dX3_setEnabled_43 : decode cX3_setEnabled 43 = .ok (.iconst 1, 1) := by decide +kernel
theorem dX3_setEnabled_44 : decode cX3_setEnabled 44 = .ok (.goto 4, 3) := by decide +kernel
theorem dX3_setEnabled_47 : decode cX3_setEnabled 47 = .ok (.iconst 0, 1) := by decide +kernel
theorem dX3_setEnabled_48 : decode cX3_setEnabled 48 = .ok (.ireturn, 1) := by decide +kernel
theorem dX3_setPriority_0 : decode cX3_setPriority 0 = .ok (.iload_n 1, 1) := by decide +kernel
theorem dX3_setPriority_1 : decode cX3_setPriority 1 = .ok (.invokestatic 59, 3) := by decide +kernel
theorem dX3_setPriority_4 : decode cX3_setPriority 4 = .ok (.ifCond .ne 5, 3) := by decide +kernel
theorem dX3_setPriority_7 : decode cX3_setPriority 7 = .ok (.iconst (-1), 1) := by decide +kernel
theorem dX3_setPriority_8 : decode cX3_setPriority 8 = .ok (.ireturn, 1) := by decide +kernel
theorem dX3_setPriority_9 : decode cX3_setPriority 9 = .ok (.iload_n 2, 1) := by decide +kernel
theorem dX3_setPriority_10 : decode cX3_setPriority 10 = .ok (.iconst 0, 1) := by decide +kernel
theorem dX3_setPriority_11 : decode cX3_setPriority 11 = .ok (.iconst 2, 1) := by decide +kernel
theorem dX3_setPriority_12 : decode cX3_setPriority 12 = .ok (.invokestatic 27, 3) := by decide +kernel
theorem dX3_setPriority_15 : decode cX3_setPriority 15 = .ok (.ifCond .ne 6, 3) := by decide +kernel
theorem dX3_setPriority_18 : decode cX3_setPriority 18 = .ok (.bipush (-2), 2) := by decide +kernel
theorem dX3_setPriority_20 : decode cX3_setPriority 20 = .ok (.ireturn, 1) := by decide +kernel
theorem dX3_setPriority_21 : decode cX3_setPriority 21 = .ok (.aload_n 0, 1) := by decide +kernel
theorem dX3_setPriority_22 : decode cX3_setPriority 22 = .ok (.getfield 10, 3) := by decide +kernel
theorem dX3_setPriority_25 : decode cX3_setPriority 25 = .ok (.getfield 62, 3) := by decide +kernel
theorem dX3_setPriority_28 : decode cX3_setPriority 28 = .ok (.iload_n 1, 1) := by decide +kernel
theorem dX3_setPriority_29 : decode cX3_setPriority 29 = .ok (.aaload, 1) := by decide +kernel
theorem dX3_setPriority_30 : decode cX3_setPriority 30 = .ok (.astore_n 3, 1) := by decide +kernel
theorem dX3_setPriority_31 : decode cX3_setPriority 31 = .ok (.aload_n 3, 1) := by decide +kernel
theorem dX3_setPriority_32 : decode cX3_setPriority 32 = .ok (.getfield 75, 3) := by decide +kernel
theorem dX3_setPriority_35 : decode cX3_setPriority 35 = .ok (.istore 4, 2) := by decide +kernel
theorem dX3_setPriority_37 : decode cX3_setPriority 37 = .ok (.aload_n 3, 1) := by decide +kernel
theorem dX3_setPriority_38 : decode cX3_setPriority 38 = .ok (.iload_n 2, 1) := by decide +kernel
theorem dX3_setPriority_39 : decode cX3_setPriority 39 = .ok (.putfield 75, 3) := by decide +kernel
theorem dX3_setPriority_42 : decode cX3_setPriority 42 = .ok (.iload 4, 2) := by decide +kernel
theorem dX3_setPriority_44 : decode cX3_setPriority 44 = .ok (.ireturn, 1) := by decide +kernel
theorem dX3_connect_0 : decode cX3_connect 0 = .ok (.iload_n 1, 1) := by decide +kernel
theorem dX3_connect_1 : decode cX3_connect 1 = .ok (.invokestatic 59, 3) := by decide +kernel
theorem dX3_connect_4 : decode cX3_connect 4 = .ok (.ifCond .ne 5, 3) := by decide +kernel
theorem dX3_connect_7 : decode cX3_connect 7 = .ok (.iconst (-1), 1) := by decide +kernel
theorem dX3_connect_8 : decode cX3_connect 8 = .ok (.ireturn, 1) := by decide +kernel
theorem dX3_connect_9 : decode cX3_connect 9 = .ok (.iload_n 2, 1) := by decide +kernel
theorem dX3_connect_10 : decode cX3_connect 10 = .ok (.iconst 1, 1) := by decide +kernel
theorem dX3_connect_11 : decode cX3_connect 11 = .ok (.sipush 999, 3) := by decide +kernel
theorem dX3_connect_14 : decode cX3_connect 14 = .ok (.invokestatic 27, 3) := by decide +kernel
theorem dX3_connect_17 : decode cX3_connect 17 = .ok (.ifCond .eq 36, 3) := by decide +kernel
theorem dX3_connect_20 : decode cX3_connect 20 = .ok (.iload_n 3, 1) := by decide +kernel
theorem dX3_connect_21 : decode cX3_connect 21 = .ok (.iconst 0, 1) := by decide +kernel
theorem dX3_connect_22 : decode cX3_connect 22 = .ok (.bipush 99, 2) := by decide +kernel
theorem dX3_connect_24 : decode cX3_connect 24 = .ok (.invokestatic 27, 3) := by decide +kernel
theorem dX3_connect_27 : decode cX3_connect 27 = .ok (.ifCond .eq 26, 3) := by decide +kernel
theorem dX3_connect_30 : decode cX3_connect 30 = .ok (.iload 4, 2) := by decide +kernel
theorem dX3_connect_32 : decode cX3_connect 32 = .ok (.iconst 0, 1) := by decide +kernel
theorem dX3_connect_33 : decode cX3_connect 33 = .ok (.bipush 60, 2) := by decide +kernel
theorem dX3_connect_35 : decode cX3_connect 35 = .ok (.invokestatic 27, 3) := by decide +kernel
theorem dX3_connect_38 : decode cX3_connect 38 = .ok (.ifCond .eq 15, 3) := by decide +kernel
theorem dX3_connect_41 : decode cX3_connect 41 = .ok (.iload 5, 2) := by decide +kernel
theorem dX3_connect_43 : decode cX3_connect 43 = .ok (.iconst 0, 1) := by decide +kernel
theorem dX3_connect_44 : decode cX3_connect 44 = .ok (.sipush 999, 3) := by decide +kernel
theorem dX3_connect_47 : decode cX3_connect 47 = .ok (.invokestatic 27, 3) := by decide +kernel
theorem dX3_connect_50 : decode cX3_connect 50 = .ok (.ifCond .ne 6, 3) := by decide +kernel
theorem dX3_connect_53 : decode cX3_connect 53 = .ok (.bipush (-2), 2) := by decide +kernel
theorem dX3_connect_55 : decode cX3_connect 55 = .ok (.ireturn, 1) := by decide +kernel
theorem dX3_connect_56 : decode cX3_connect 56 = .ok (.aload_n 0, 1) := by decide +kernel
theorem dX3_connect_57 : decode cX3_connect 57 = .ok (.getfield 10, 3) := by decide +kernel
theorem dX3_connect_60 : decode cX3_connect 60 = .ok (.getfield 62, 3) := by decide +kernel
theorem dX3_connect_63 : decode cX3_connect 63 = .ok (.iload_n 1, 1) := by decide +kernel
theorem dX3_connect_64 : decode cX3_connect 64 = .ok (.aaload, 1) := by decide +kernel
theorem dX3_connect_65 : decode cX3_connect 65 = .ok (.astore 6, 2) := by decide +kernel
theorem dX3_connect_67 : decode cX3_connect 67 = .ok (.aload 6, 2) := by decide +kernel
theorem dX3_connect_69 : decode cX3_connect 69 = .ok (.getfield 78, 3) := by decide +kernel
theorem dX3_connect_72 : decode cX3_connect 72 = .ok (.ifCond .eq 6, 3) := by decide +kernel
theorem dX3_connect_75 : decode cX3_connect 75 = .ok (.bipush (-3), 2) := by decide +kernel
theorem dX3_connect_77 : decode cX3_connect 77 = .ok (.ireturn, 1) := by decide +kernel
theorem dX3_connect_78 : decode cX3_connect 78 = .ok (.iload 4, 2) := by decide +kernel
theorem dX3_connect_80 : decode cX3_connect 80 = .ok (.invokestatic 81, 3) := by decide +kernel
theorem dX3_connect_83 : decode cX3_connect 83 = .ok (.istore 7, 2) := by decide +kernel
theorem dX3_connect_85 : decode cX3_connect 85 = .ok (.aload 6, 2) := by decide +kernel
theorem dX3_connect_87 : decode cX3_connect 87 = .ok (.iconst 1, 1) := by decide +kernel
theorem dX3_connect_88 : decode cX3_connect 88 = .ok (.putfield 78, 3) := by decide +kernel
theorem dX3_connect_91 : decode cX3_connect 91 = .ok (.aload 6, 2) := by decide +kernel
theorem dX3_connect_93 : decode cX3_connect 93 = .ok (.iload_n 2, 1) := by decide +kernel
theorem dX3_connect_94 : decode cX3_connect 94 = .ok (.iload_n 3, 1) := by decide +kernel
theorem dX3_connect_95 : decode cX3_connect 95 = .ok (.invokestatic 85, 3) := by decide +kernel
theorem dX3_connect_98 : decode cX3_connect 98 = .ok (.putfield 89, 3) := by decide +kernel
theorem dX3_connect_101 : decode cX3_connect 101 = .ok (.aload 6, 2) := by decide +kernel
theorem dX3_connect_103 : decode cX3_connect 103 = .ok (.iload 7, 2) := by decide +kernel
theorem dX3_connect_105 : decode cX3_connect 105 = .ok (.putfield 92, 3) := by decide +kernel
theorem dX3_connect_108 : decode cX3_connect 108 = .ok (.aload 6, 2) := by decide +kernel
theorem dX3_connect_110 : decode cX3_connect 110 = .ok (.iload 5, 2) := by decide +kernel
theorem dX3_connect_112 : decode cX3_connect 112 = .ok (.putfield 95, 3) := by decide +kernel
theorem dX3_connect_115 : decode cX3_connect 115 = .ok (.aload 6, 2) := by decide +kernel
theorem dX3_connect_117 : decode cX3_connect 117 = .ok (.iload 7, 2) := by decide +kernel
theorem dX3_connect_119 : decode cX3_connect 119 = .ok (.invokestatic 98, 3) := by decide +kernel
theorem dX3_connect_122 : decode cX3_connect 122 = .ok (.putfield 101, 3) := by decide +kernel
theorem dX3_connect_125 : decode cX3_connect 125 = .ok (.iload 7, 2) := by decide +kernel
theorem dX3_connect_127 : decode cX3_connect 127 = .ok (.ireturn, 1) := by decide +kernel
theorem dX3_disconnect_0 : decode cX3_disconnect 0 = .ok (.iload_n 1, 1) := by decide +kernel
theorem dX3_disconnect_1 : decode cX3_disconnect 1 = .ok (.invokestatic 59, 3) := by decide +kernel
theorem dX3_disconnect_4 : decode cX3_disconnect 4 = .ok (.ifCond .ne 5, 3) := by decide +kernel
theorem dX3_disconnect_7 : decode cX3_disconnect 7 = .ok (.iconst (-1), 1) := by decide +kernel
theorem dX3_disconnect_8 : decode cX3_disconnect 8 = .ok (.ireturn, 1) := by decide +kernel
theorem dX3_disconnect_9 : decode cX3_disconnect 9 = .ok (.aload_n 0, 1) := by decide +kernel
theorem dX3_disconnect_10 : decode cX3_disconnect 10 = .ok (.getfield 10, 3) := by decide +kernel
theorem dX3_disconnect_13 : decode cX3_disconnect 13 = .ok (.getfield 62, 3) := by decide +kernel
theorem dX3_disconnect_16 : decode cX3_disconnect 16 = .ok (.iload_n 1, 1) := by decide +kernel
theorem dX3_disconnect_17 : decode cX3_disconnect 17 = .ok (.aaload, 1) := by decide +kernel
theorem dX3_disconnect_18 : decode cX3_disconnect 18 = .ok (.astore_n 2, 1) := by decide +kernel
theorem dX3_disconnect_19 : decode cX3_disconnect 19 = .ok (.aload_n 2, 1) := by decide +kernel
theorem dX3_disconnect_20 : decode cX3_disconnect 20 = .ok (.getfield 78, 3) := by decide +kernel
theorem dX3_disconnect_23 : decode cX3_disconnect 23 = .ok (.ifCond .ne 6, 3) := by decide +kernel
theorem dX3_disconnect_26 : decode cX3_disconnect 26 = .ok (.bipush (-3), 2) := by decide +kernel
theorem dX3_disconnect_28 : decode cX3_disconnect 28 = .ok (.ireturn, 1) := by decide +kernel
theorem dX3_disconnect_29 : decode cX3_disconnect 29 = .ok (.aload_n 2, 1) := by decide +kernel
theorem dX3_disconnect_30 : decode cX3_disconnect 30 = .ok (.invokevirtual 104, 3) := by decide +kernel
theorem dX3_disconnect_33 : decode cX3_disconnect 33 = .ok (.istore_n 3, 1) := by decide +kernel
theorem dX3_disconnect_34 : decode cX3_disconnect 34 = .ok (.aload_n 2, 1) := by decide +kernel
theorem dX3_disconnect_35 : decode cX3_disconnect 35 = .ok (.iconst 0, 1) := by decide +kernel
theorem dX3_disconnect_36 : decode cX3_disconnect 36 = .ok (.putfield 78, 3) := by decide +kernel
theorem dX3_disconnect_39 : decode cX3_disconnect 39 = .ok (.aload_n 2, 1) := by decide +kernel
theorem dX3_disconnect_40 : decode cX3_disconnect 40 = .ok (.invokevirtual 72, 3) := by decide +kernel
theorem dX3_disconnect_43 : decode cX3_disconnect 43 = .ok (.iload_n 3, 1) := by decide +kernel
theorem dX3_disconnect_44 : decode cX3_disconnect 44 = .ok (.ifCond .eq 7, 3) := by decide +kernel
theorem dX3_disconnect_47 : decode cX3_disconnect 47 = .ok (.iconst 1, 1) := by decide +kernel
theorem dX3_disconnect_48 : decode cX3_disconnect 48 = .ok (.goto 4, 3) := by decide +kernel
theorem dX3_disconnect_51 : decode cX3_disconnect 51 = .ok (.iconst 0, 1) := by decide +kernel
theorem dX3_disconnect_52 : decode cX3_disconnect 52 = .ok (.ireturn, 1) := by decide +kernel
theorem dX3_setLoad_0 : decode cX3_setLoad 0 = .ok (.iload_n 1, 1) := by decide +kernel
theorem dX3_setLoad_1 : decode cX3_setLoad 1 = .ok (.invokestatic 59, 3) := by decide +kernel
theorem dX3_setLoad_4 : decode cX3_setLoad 4 = .ok (.ifCond .ne 5, 3) := by decide +kernel
theorem dX3_setLoad_7 : decode cX3_setLoad 7 = .ok (.iconst (-1), 1) := by decide +kernel
theorem dX3_setLoad_8 : decode cX3_setLoad 8 = .ok (.ireturn, 1) := by decide +kernel
theorem dX3_setLoad_9 : decode cX3_setLoad 9 = .ok (.iload_n 2, 1) := by decide +kernel
theorem dX3_setLoad_10 : decode cX3_setLoad 10 = .ok (.iconst 0, 1) := by decide +kernel
theorem dX3_setLoad_11 : decode cX3_setLoad 11 = .ok (.sipush 999, 3) := by decide +kernel
theorem dX3_setLoad_14 : decode cX3_setLoad 14 = .ok (.invokestatic 27, 3) := by decide +kernel
theorem dX3_setLoad_17 : decode cX3_setLoad 17 = .ok (.ifCond .ne 6, 3) := by decide +kernel
theorem dX3_setLoad_20 : decode cX3_setLoad 20 = .ok (.bipush (-2), 2) := by decide +kernel
theorem dX3_setLoad_22 : decode cX3_setLoad 22 = .ok (.ireturn, 1) := by decide +kernel
theorem dX3_setLoad_23 : decode cX3_setLoad 23 = .ok (.aload_n 0, 1) := by decide +kernel
theorem dX3_setLoad_24 : decode cX3_setLoad 24 = .ok (.getfield 10, 3) := by decide +kernel
theorem dX3_setLoad_27 : decode cX3_setLoad 27 = .ok (.getfield 62, 3) := by decide +kernel
theorem dX3_setLoad_30 : decode cX3_setLoad 30 = .ok (.iload_n 1, 1) := by decide +kernel
theorem dX3_setLoad_31 : decode cX3_setLoad 31 = .ok (.aaload, 1) := by decide +kernel
theorem dX3_setLoad_32 : decode cX3_setLoad 32 = .ok (.astore_n 3, 1) := by decide +kernel
theorem dX3_setLoad_33 : decode cX3_setLoad 33 = .ok (.aload_n 3, 1) := by decide +kernel
theorem dX3_setLoad_34 : decode cX3_setLoad 34 = .ok (.getfield 78, 3) := by decide +kernel
theorem dX3_setLoad_37 : decode cX3_setLoad 37 = .ok (.ifCond .ne 6, 3) := by decide +kernel
theorem dX3_setLoad_40 : decode cX3_setLoad 40 = .ok (.bipush (-3), 2) := by decide +kernel
theorem dX3_setLoad_42 : decode cX3_setLoad 42 = .ok (.ireturn, 1) := by decide +kernel
theorem dX3_setLoad_43 : decode cX3_setLoad 43 = .ok (.aload_n 3, 1) := by decide +kernel
theorem dX3_setLoad_44 : decode cX3_setLoad 44 = .ok (.getfield 95, 3) := by decide +kernel
theorem dX3_setLoad_47 : decode cX3_setLoad 47 = .ok (.istore 4, 2) := by decide +kernel
theorem dX3_setLoad_49 : decode cX3_setLoad 49 = .ok (.aload_n 3, 1) := by decide +kernel
theorem dX3_setLoad_50 : decode cX3_setLoad 50 = .ok (.iload_n 2, 1) := by decide +kernel
theorem dX3_setLoad_51 : decode cX3_setLoad 51 = .ok (.putfield 95, 3) := by decide +kernel
theorem dX3_setLoad_54 : decode cX3_setLoad 54 = .ok (.iload 4, 2) := by decide +kernel
theorem dX3_setLoad_56 : decode cX3_setLoad 56 = .ok (.ireturn, 1) := by decide +kernel
theorem dX3_setRequest_0 : decode cX3_setRequest 0 = .ok (.iload_n 1, 1) := by decide +kernel
theorem dX3_setRequest_1 : decode cX3_setRequest 1 = .ok (.invokestatic 59, 3) := by decide +kernel
theorem dX3_setRequest_4 : decode cX3_setRequest 4 = .ok (.ifCond .ne 5, 3) := by decide +kernel
theorem dX3_setRequest_7 : decode cX3_setRequest 7 = .ok (.iconst (-1), 1) := by decide +kernel
theorem dX3_setRequest_8 : decode cX3_setRequest 8 = .ok (.ireturn, 1) := by decide +kernel
theorem dX3_setRequest_9 : decode cX3_setRequest 9 = .ok (.aload_n 0, 1) := by decide +kernel
theorem dX3_setRequest_10 : decode cX3_setRequest 10 = .ok (.getfield 10, 3) := by decide +kernel
theorem dX3_setRequest_13 : decode cX3_setRequest 13 = .ok (.getfield 62, 3) := by decide +kernel
theorem dX3_setRequest_16 : decode cX3_setRequest 16 = .ok (.iload_n 1, 1) := by decide +kernel
theorem dX3_setRequest_17 : decode cX3_setRequest 17 = .ok (.aaload, 1) := by decide +kernel
theorem dX3_setRequest_18 : decode cX3_setRequest 18 = .ok (.astore_n 3, 1) := by decide +kernel
theorem dX3_setRequest_19 : decode cX3_setRequest 19 = .ok (.aload_n 3, 1) := by decide +kernel
theorem dX3_setRequest_20 : decode cX3_setRequest 20 = .ok (.invokevirtual 108, 3) := by decide +kernel
theorem dX3_setRequest_23 : decode cX3_setRequest 23 = .ok (.ifCond .ne 6, 3) := by decide +kernel
theorem dX3_setRequest_26 : decode cX3_setRequest 26 = .ok (.bipush (-3), 2) := by decide +kernel
theorem dX3_setRequest_28 : decode cX3_setRequest 28 = .ok (.ireturn, 1) := by decide +kernel
theorem dX3_setRequest_29 : decode cX3_setRequest 29 = .ok (.iload_n 2, 1) := by decide +kernel
theorem dX3_setRequest_30 : decode cX3_setRequest 30 = .ok (.iconst 1, 1) := by decide +kernel
theorem dX3_setRequest_31 : decode cX3_setRequest 31 = .ok (.aload_n 3, 1) := by decide +kernel
theorem dX3_setRequest_32 : decode cX3_setRequest 32 = .ok (.getfield 92, 3) := by decide +kernel
theorem dX3_setRequest_35 : decode cX3_setRequest 35 = .ok (.invokestatic 98, 3) := by decide +kernel
theorem dX3_setRequest_38 : decode cX3_setRequest 38 = .ok (.invokestatic 27, 3) := by decide +kernel
theorem dX3_setRequest_41 : decode cX3_setRequest 41 = .ok (.ifCond .ne 6, 3) := by decide +kernel
theorem dX3_setRequest_44 : decode cX3_setRequest 44 = .ok (.bipush (-2), 2) := by decide +kernel
theorem dX3_setRequest_46 : decode cX3_setRequest 46 = .ok (.ireturn, 1) := by decide +kernel
theorem dX3_setRequest_47 : decode cX3_setRequest 47 = .ok (.aload_n 3, 1) := by decide +kernel
theorem dX3_setRequest_48 : decode cX3_setRequest 48 = .ok (.invokevirtual 104, 3) := by decide +kernel
theorem dX3_setRequest_51 : decode cX3_setRequest 51 = .ok (.ifCond .eq 36, 3) := by decide +kernel
theorem dX3_setRequest_54 : decode cX3_setRequest 54 = .ok (.iload_n 2, 1) := by decide +kernel
theorem dX3_setRequest_55 : decode cX3_setRequest 55 = .ok (.aload_n 3, 1) := by decide +kernel
theorem dX3_setRequest_56 : decode cX3_setRequest 56 = .ok (.getfield 111, 3) := by decide +kernel
theorem dX3_setRequest_59 : decode cX3_setRequest 59 = .ok (.isub, 1) := by decide +kernel
theorem dX3_setRequest_60 : decode cX3_setRequest 60 = .ok (.istore 4, 2) := by decide +kernel
theorem dX3_setRequest_62 : decode cX3_setRequest 62 = .ok (.iload 4, 2) := by decide +kernel
theorem dX3_setRequest_64 : decode cX3_setRequest 64 = .ok (.ifCond .le 18, 3) := by decide +kernel
theorem dX3_setRequest_67 : decode cX3_setRequest 67 = .ok (.iload 4, 2) := by decide +kernel
theorem dX3_setRequest_69 : decode cX3_setRequest 69 = .ok (.aload_n 0, 1) := by decide +kernel
theorem dX3_setRequest_70 : decode cX3_setRequest 70 = .ok (.getfield 10, 3) := by decide +kernel
theorem dX3_setRequest_73 : decode cX3_setRequest 73 = .ok (.invokevirtual 56, 3) := by decide +kernel
theorem dX3_setRequest_76 : decode cX3_setRequest 76 = .ok (.if_icmp .le 6, 3) := by decide +kernel
theorem dX3_setRequest_79 : decode cX3_setRequest 79 = .ok (.bipush (-5), 2) := by decide +kernel
theorem dX3_setRequest_81 : decode cX3_setRequest 81 = .ok (.ireturn, 1) := by decide +kernel
theorem dX3_setRequest_82 : decode cX3_setRequest 82 = .ok (.aload_n 3, 1) := by decide +kernel
theorem dX3_setRequest_83 : decode cX3_setRequest 83 = .ok (.iload_n 2, 1) := by decide +kernel
theorem dX3_setRequest_84 : decode cX3_setRequest 84 = .ok (.putfield 111, 3) := by decide +kernel
theorem dX3_setRequest_87 : decode cX3_setRequest 87 = .ok (.aload_n 3, 1) := by decide +kernel
theorem dX3_setRequest_88 : decode cX3_setRequest 88 = .ok (.getfield 101, 3) := by decide +kernel
theorem dX3_setRequest_91 : decode cX3_setRequest 91 = .ok (.istore 4, 2) := by decide +kernel
theorem dX3_setRequest_93 : decode cX3_setRequest 93 = .ok (.aload_n 3, 1) := by decide +kernel
theorem dX3_setRequest_94 : decode cX3_setRequest 94 = .ok (.iload_n 2, 1) := by decide +kernel
theorem dX3_setRequest_95 : decode cX3_setRequest 95 = .ok (.putfield 101, 3) := by decide +kernel
theorem dX3_setRequest_98 : decode cX3_setRequest 98 = .ok (.iload 4, 2) := by decide +kernel
theorem dX3_setRequest_100 : decode cX3_setRequest 100 = .ok (.ireturn, 1) := by decide +kernel
theorem dX3_request_0 : decode cX3_request 0 = .ok (.iload_n 1, 1) := by decide +kernel
theorem dX3_request_1 : decode cX3_request 1 = .ok (.invokestatic 59, 3) := by decide +kernel
theorem dX3_request_4 : decode cX3_request 4 = .ok (.ifCond .ne 5, 3) := by decide +kernel
theorem dX3_request_7 : decode cX3_request 7 = .ok (.iconst (-1), 1) := by decide +kernel
theorem dX3_request_8 : decode cX3_request 8 = .ok (.ireturn, 1) := by decide +kernel
theorem dX3_request_9 : decode cX3_request 9 = .ok (.aload_n 0, 1) := by decide +kernel
theorem dX3_request_10 : decode cX3_request 10 = .ok (.getfield 10, 3) := by decide +kernel
theorem dX3_request_13 : decode cX3_request 13 = .ok (.getfield 62, 3) := by decide +kernel
theorem dX3_request_16 : decode cX3_request 16 = .ok (.iload_n 1, 1) := by decide +kernel
theorem dX3_request_17 : decode cX3_request 17 = .ok (.aaload, 1) := by decide +kernel
theorem dX3_request_18 : decode cX3_request 18 = .ok (.astore_n 2, 1) := by decide +kernel
theorem dX3_request_19 : decode cX3_request 19 = .ok (.aload_n 2, 1) := by decide +kernel
theorem dX3_request_20 : decode cX3_request 20 = .ok (.invokevirtual 108, 3) := by decide +kernel
theorem dX3_request_23 : decode cX3_request 23 = .ok (.ifCond .eq 10, 3) := by decide +kernel
theorem dX3_request_26 : decode cX3_request 26 = .ok (.aload_n 2, 1) := by decide +kernel
theorem dX3_request_27 : decode cX3_request 27 = .ok (.getfield 101, 3) := by decide +kernel
theorem dX3_request_30 : decode cX3_request 30 = .ok (.goto 5, 3) := by decide +kernel
theorem dX3_request_33 : decode cX3_request 33 = .ok (.bipush (-6), 2) := by decide +kernel
theorem dX3_request_35 : decode cX3_request 35 = .ok (.ireturn, 1) := by decide +kernel
theorem dX3_eligiblePorts_0 : decode cX3_eligiblePorts 0 = .ok (.aload_n 0, 1) := by decide +kernel
theorem dX3_eligiblePorts_1 : decode cX3_eligiblePorts 1 = .ok (.getfield 10, 3) := by decide +kernel
theorem dX3_eligiblePorts_4 : decode cX3_eligiblePorts 4 = .ok (.invokevirtual 114, 3) := by decide +kernel
theorem dX3_eligiblePorts_7 : decode cX3_eligiblePorts 7 = .ok (.ireturn, 1) := by decide +kernel
theorem dX3_poweredPorts_0 : decode cX3_poweredPorts 0 = .ok (.aload_n 0, 1) := by decide +kernel
theorem dX3_poweredPorts_1 : decode cX3_poweredPorts 1 = .ok (.getfield 10, 3) := by decide +kernel
theorem dX3_poweredPorts_4 : decode cX3_poweredPorts 4 = .ok (.invokevirtual 117, 3) := by decide +kernel
theorem dX3_poweredPorts_7 : decode cX3_poweredPorts 7 = .ok (.ireturn, 1) := by decide +kernel
theorem dX3_grant_0 : decode cX3_grant 0 = .ok (.iload_n 1, 1) := by decide +kernel
theorem dX3_grant_1 : decode cX3_grant 1 = .ok (.invokestatic 59, 3) := by decide +kernel
theorem dX3_grant_4 : decode cX3_grant 4 = .ok (.ifCond .eq 18, 3) := by decide +kernel
theorem dX3_grant_7 : decode cX3_grant 7 = .ok (.aload_n 0, 1) := by decide +kernel
theorem dX3_grant_8 : decode cX3_grant 8 = .ok (.getfield 10, 3) := by decide +kernel
theorem dX3_grant_11 : decode cX3_grant 11 = .ok (.getfield 62, 3) := by decide +kernel
theorem dX3_grant_14 : decode cX3_grant 14 = .ok (.iload_n 1, 1) := by decide +kernel
theorem dX3_grant_15 : decode cX3_grant 15 = .ok (.aaload, 1) := by decide +kernel
theorem dX3_grant_16 : decode cX3_grant 16 = .ok (.getfield 111, 3) := by decide +kernel
theorem dX3_grant_19 : decode cX3_grant 19 = .ok (.goto 4, 3) := by decide +kernel
theorem dX3_grant_22 : decode cX3_grant 22 = .ok (.iconst (-1), 1) := by decide +kernel
theorem dX3_grant_23 : decode cX3_grant 23 = .ok (.ireturn, 1) := by decide +kernel
theorem dX3_overload_0 : decode cX3_overload 0 = .ok (.iload_n 1, 1) := by decide +kernel
theorem dX3_overload_1 : decode cX3_overload 1 = .ok (.invokestatic 59, 3) := by decide +kernel
theorem dX3_overload_4 : decode cX3_overload 4 = .ok (.ifCond .eq 18, 3) := by decide +kernel
theorem dX3_overload_7 : decode cX3_overload 7 = .ok (.aload_n 0, 1) := by decide +kernel
theorem dX3_overload_8 : decode cX3_overload 8 = .ok (.getfield 10, 3) := by decide +kernel
theorem dX3_overload_11 : decode cX3_overload 11 = .ok (.getfield 62, 3) := by decide +kernel
theorem dX3_overload_14 : decode cX3_overload 14 = .ok (.iload_n 1, 1) := by decide +kernel
theorem dX3_overload_15 : decode cX3_overload 15 = .ok (.aaload, 1) := by decide +kernel
theorem dX3_overload_16 : decode cX3_overload 16 = .ok (.getfield 120, 3) := by decide +kernel
theorem dX3_overload_19 : decode cX3_overload 19 = .ok (.goto 4, 3) := by decide +kernel
theorem dX3_overload_22 : decode cX3_overload 22 = .ok (.iconst (-1), 1) := by decide +kernel
theorem dX3_overload_23 : decode cX3_overload 23 = .ok (.ireturn, 1) := by decide +kernel
theorem dX3_cooldown_0 : decode cX3_cooldown 0 = .ok (.iload_n 1, 1) := by decide +kernel
theorem dX3_cooldown_1 : decode cX3_cooldown 1 = .ok (.invokestatic 59, 3) := by decide +kernel
theorem dX3_cooldown_4 : decode cX3_cooldown 4 = .ok (.ifCond .eq 18, 3) := by decide +kernel
theorem dX3_cooldown_7 : decode cX3_cooldown 7 = .ok (.aload_n 0, 1) := by decide +kernel
theorem dX3_cooldown_8 : decode cX3_cooldown 8 = .ok (.getfield 10, 3) := by decide +kernel
theorem dX3_cooldown_11 : decode cX3_cooldown 11 = .ok (.getfield 62, 3) := by decide +kernel
theorem dX3_cooldown_14 : decode cX3_cooldown 14 = .ok (.iload_n 1, 1) := by decide +kernel
theorem dX3_cooldown_15 : decode cX3_cooldown 15 = .ok (.aaload, 1) := by decide +kernel
theorem dX3_cooldown_16 : decode cX3_cooldown 16 = .ok (.getfield 123, 3) := by decide +kernel
theorem dX3_cooldown_19 : decode cX3_cooldown 19 = .ok (.goto 4, 3) := by decide +kernel
theorem dX3_cooldown_22 : decode cX3_cooldown 22 = .ok (.iconst (-1), 1) := by decide +kernel
theorem dX3_cooldown_23 : decode cX3_cooldown 23 = .ok (.ireturn, 1) := by decide +kernel
theorem dX3_advance_0 : decode cX3_advance 0 = .ok (.iload_n 1, 1) := by decide +kernel
theorem dX3_advance_1 : decode cX3_advance 1 = .ok (.iconst 1, 1) := by decide +kernel
theorem dX3_advance_2 : decode cX3_advance 2 = .ok (.bipush 60, 2) := by decide +kernel
theorem dX3_advance_4 : decode cX3_advance 4 = .ok (.invokestatic 27, 3) := by decide +kernel
theorem dX3_advance_7 : decode cX3_advance 7 = .ok (.ifCond .ne 6, 3) := by decide +kernel
theorem dX3_advance_10 : decode cX3_advance 10 = .ok (.bipush (-2), 2) := by decide +kernel
theorem dX3_advance_12 : decode cX3_advance 12 = .ok (.ireturn, 1) := by decide +kernel
theorem dX3_advance_13 : decode cX3_advance 13 = .ok (.iconst 0, 1) := by decide +kernel
theorem dX3_advance_14 : decode cX3_advance 14 = .ok (.istore_n 2, 1) := by decide +kernel
theorem dX3_advance_15 : decode cX3_advance 15 = .ok (.iconst 0, 1) := by decide +kernel
theorem dX3_advance_16 : decode cX3_advance 16 = .ok (.istore_n 3, 1) := by decide +kernel
theorem dX3_advance_17 : decode cX3_advance 17 = .ok (.iload_n 3, 1) := by decide +kernel
theorem dX3_advance_18 : decode cX3_advance 18 = .ok (.iload_n 1, 1) := by decide +kernel
theorem dX3_advance_19 : decode cX3_advance 19 = .ok (.if_icmp .ge 19, 3) := by decide +kernel
theorem dX3_advance_22 : decode cX3_advance 22 = .ok (.iload_n 2, 1) := by decide +kernel
theorem dX3_advance_23 : decode cX3_advance 23 = .ok (.aload_n 0, 1) := by decide +kernel
theorem dX3_advance_24 : decode cX3_advance 24 = .ok (.getfield 10, 3) := by decide +kernel
theorem dX3_advance_27 : decode cX3_advance 27 = .ok (.invokevirtual 126, 3) := by decide +kernel
theorem dX3_advance_30 : decode cX3_advance 30 = .ok (.iadd, 1) := by decide +kernel
theorem dX3_advance_31 : decode cX3_advance 31 = .ok (.istore_n 2, 1) := by decide +kernel
theorem dX3_advance_32 : decode cX3_advance 32 = .ok (.iinc 3 1, 3) := by decide +kernel
theorem dX3_advance_35 : decode cX3_advance 35 = .ok (.goto (-18), 3) := by decide +kernel
theorem dX3_advance_38 : decode cX3_advance 38 = .ok (.iload_n 2, 1) := by decide +kernel
theorem dX3_advance_39 : decode cX3_advance 39 = .ok (.ireturn, 1) := by decide +kernel
theorem dX3_clock_0 : decode cX3_clock 0 = .ok (.aload_n 0, 1) := by decide +kernel
theorem dX3_clock_1 : decode cX3_clock 1 = .ok (.getfield 10, 3) := by decide +kernel
theorem dX3_clock_4 : decode cX3_clock 4 = .ok (.getfield 129, 3) := by decide +kernel
theorem dX3_clock_7 : decode cX3_clock 7 = .ok (.ireturn, 1) := by decide +kernel
theorem dX3_eventCount_0 : decode cX3_eventCount 0 = .ok (.aload_n 0, 1) := by decide +kernel
theorem dX3_eventCount_1 : decode cX3_eventCount 1 = .ok (.getfield 10, 3) := by decide +kernel
theorem dX3_eventCount_4 : decode cX3_eventCount 4 = .ok (.getfield 132, 3) := by decide +kernel
theorem dX3_eventCount_7 : decode cX3_eventCount 7 = .ok (.getfield 136, 3) := by decide +kernel
theorem dX3_eventCount_10 : decode cX3_eventCount 10 = .ok (.ireturn, 1) := by decide +kernel
theorem dX3_eventTime_0 : decode cX3_eventTime 0 = .ok (.aload_n 0, 1) := by decide +kernel
theorem dX3_eventTime_1 : decode cX3_eventTime 1 = .ok (.getfield 10, 3) := by decide +kernel
theorem dX3_eventTime_4 : decode cX3_eventTime 4 = .ok (.getfield 132, 3) := by decide +kernel
theorem dX3_eventTime_7 : decode cX3_eventTime 7 = .ok (.astore_n 2, 1) := by decide +kernel
theorem dX3_eventTime_8 : decode cX3_eventTime 8 = .ok (.aload_n 2, 1) := by decide +kernel
theorem dX3_eventTime_9 : decode cX3_eventTime 9 = .ok (.iload_n 1, 1) := by decide +kernel
theorem dX3_eventTime_10 : decode cX3_eventTime 10 = .ok (.invokevirtual 141, 3) := by decide +kernel
theorem dX3_eventTime_13 : decode cX3_eventTime 13 = .ok (.ifCond .eq 16, 3) := by decide +kernel
theorem dX3_eventTime_16 : decode cX3_eventTime 16 = .ok (.aload_n 2, 1) := by decide +kernel
theorem dX3_eventTime_17 : decode cX3_eventTime 17 = .ok (.getfield 144, 3) := by decide +kernel
theorem dX3_eventTime_20 : decode cX3_eventTime 20 = .ok (.aload_n 2, 1) := by decide +kernel
theorem dX3_eventTime_21 : decode cX3_eventTime 21 = .ok (.iload_n 1, 1) := by decide +kernel
theorem dX3_eventTime_22 : decode cX3_eventTime 22 = .ok (.invokevirtual 147, 3) := by decide +kernel
theorem dX3_eventTime_25 : decode cX3_eventTime 25 = .ok (.iaload, 1) := by decide +kernel
theorem dX3_eventTime_26 : decode cX3_eventTime 26 = .ok (.goto 4, 3) := by decide +kernel
theorem dX3_eventTime_29 : decode cX3_eventTime 29 = .ok (.iconst (-1), 1) := by decide +kernel
theorem dX3_eventTime_30 : decode cX3_eventTime 30 = .ok (.ireturn, 1) := by decide +kernel
theorem dX3_eventPort_0 : decode cX3_eventPort 0 = .ok (.aload_n 0, 1) := by decide +kernel
theorem dX3_eventPort_1 : decode cX3_eventPort 1 = .ok (.getfield 10, 3) := by decide +kernel
theorem dX3_eventPort_4 : decode cX3_eventPort 4 = .ok (.getfield 132, 3) := by decide +kernel
theorem dX3_eventPort_7 : decode cX3_eventPort 7 = .ok (.astore_n 2, 1) := by decide +kernel
theorem dX3_eventPort_8 : decode cX3_eventPort 8 = .ok (.aload_n 2, 1) := by decide +kernel
theorem dX3_eventPort_9 : decode cX3_eventPort 9 = .ok (.iload_n 1, 1) := by decide +kernel
theorem dX3_eventPort_10 : decode cX3_eventPort 10 = .ok (.invokevirtual 141, 3) := by decide +kernel
theorem dX3_eventPort_13 : decode cX3_eventPort 13 = .ok (.ifCond .eq 16, 3) := by decide +kernel
theorem dX3_eventPort_16 : decode cX3_eventPort 16 = .ok (.aload_n 2, 1) := by decide +kernel
theorem dX3_eventPort_17 : decode cX3_eventPort 17 = .ok (.getfield 150, 3) := by decide +kernel
theorem dX3_eventPort_20 : decode cX3_eventPort 20 = .ok (.aload_n 2, 1) := by decide +kernel
theorem dX3_eventPort_21 : decode cX3_eventPort 21 = .ok (.iload_n 1, 1) := by decide +kernel
theorem dX3_eventPort_22 : decode cX3_eventPort 22 = .ok (.invokevirtual 147, 3) := by decide +kernel
theorem dX3_eventPort_25 : decode cX3_eventPort 25 = .ok (.iaload, 1) := by decide +kernel
theorem dX3_eventPort_26 : decode cX3_eventPort 26 = .ok (.goto 4, 3) := by decide +kernel
theorem dX3_eventPort_29 : decode cX3_eventPort 29 = .ok (.iconst (-1), 1) := by decide +kernel
theorem dX3_eventPort_30 : decode cX3_eventPort 30 = .ok (.ireturn, 1) := by decide +kernel
theorem dX3_eventKind_0 : decode cX3_eventKind 0 = .ok (.aload_n 0, 1) := by decide +kernel
theorem dX3_eventKind_1 : decode cX3_eventKind 1 = .ok (.getfield 10, 3) := by decide +kernel
theorem dX3_eventKind_4 : decode cX3_eventKind 4 = .ok (.getfield 132, 3) := by decide +kernel
theorem dX3_eventKind_7 : decode cX3_eventKind 7 = .ok (.astore_n 2, 1) := by decide +kernel
theorem dX3_eventKind_8 : decode cX3_eventKind 8 = .ok (.aload_n 2, 1) := by decide +kernel
theorem dX3_eventKind_9 : decode cX3_eventKind 9 = .ok (.iload_n 1, 1) := by decide +kernel
theorem dX3_eventKind_10 : decode cX3_eventKind 10 = .ok (.invokevirtual 141, 3) := by decide +kernel
theorem dX3_eventKind_13 : decode cX3_eventKind 13 = .ok (.ifCond .eq 16, 3) := by decide +kernel
theorem dX3_eventKind_16 : decode cX3_eventKind 16 = .ok (.aload_n 2, 1) := by decide +kernel
theorem dX3_eventKind_17 : decode cX3_eventKind 17 = .ok (.getfield 152, 3) := by decide +kernel
theorem dX3_eventKind_20 : decode cX3_eventKind 20 = .ok (.aload_n 2, 1) := by decide +kernel
theorem dX3_eventKind_21 : decode cX3_eventKind 21 = .ok (.iload_n 1, 1) := by decide +kernel
theorem dX3_eventKind_22 : decode cX3_eventKind 22 = .ok (.invokevirtual 147, 3) := by decide +kernel
theorem dX3_eventKind_25 : decode cX3_eventKind 25 = .ok (.iaload, 1) := by decide +kernel
theorem dX3_eventKind_26 : decode cX3_eventKind 26 = .ok (.goto 4, 3) := by decide +kernel
theorem dX3_eventKind_29 : decode cX3_eventKind 29 = .ok (.iconst (-1), 1) := by decide +kernel
theorem dX3_eventKind_30 : decode cX3_eventKind 30 = .ok (.ireturn, 1) := by decide +kernel
theorem dX3_shedIfFails_0 : decode cX3_shedIfFails 0 = .ok (.iload_n 1, 1) := by decide +kernel
theorem dX3_shedIfFails_1 : decode cX3_shedIfFails 1 = .ok (.invokestatic 23, 3) := by decide +kernel
theorem dX3_shedIfFails_4 : decode cX3_shedIfFails 4 = .ok (.ifCond .ne 5, 3) := by decide +kernel
theorem dX3_shedIfFails_7 : decode cX3_shedIfFails 7 = .ok (.iconst (-1), 1) := by decide +kernel
theorem dX3_shedIfFails_8 : decode cX3_shedIfFails 8 = .ok (.ireturn, 1) := by decide +kernel
theorem dX3_shedIfFails_9 : decode cX3_shedIfFails 9 = .ok (.aload_n 0, 1) := by decide +kernel
theorem dX3_shedIfFails_10 : decode cX3_shedIfFails 10 = .ok (.getfield 16, 3) := by decide +kernel
theorem dX3_shedIfFails_13 : decode cX3_shedIfFails 13 = .ok (.aload_n 0, 1) := by decide +kernel
theorem dX3_shedIfFails_14 : decode cX3_shedIfFails 14 = .ok (.getfield 10, 3) := by decide +kernel
theorem dX3_shedIfFails_17 : decode cX3_shedIfFails 17 = .ok (.invokevirtual 155, 3) := by decide +kernel
theorem dX3_shedIfFails_20 : decode cX3_shedIfFails 20 = .ok (.aload_n 0, 1) := by decide +kernel
theorem dX3_shedIfFails_21 : decode cX3_shedIfFails 21 = .ok (.getfield 16, 3) := by decide +kernel
theorem dX3_shedIfFails_24 : decode cX3_shedIfFails 24 = .ok (.getfield 35, 3) := by decide +kernel
theorem dX3_shedIfFails_27 : decode cX3_shedIfFails 27 = .ok (.iload_n 1, 1) := by decide +kernel
theorem dX3_shedIfFails_28 : decode cX3_shedIfFails 28 = .ok (.iconst 0, 1) := by decide +kernel
theorem dX3_shedIfFails_29 : decode cX3_shedIfFails 29 = .ok (.bastore, 1) := by decide +kernel
theorem dX3_shedIfFails_30 : decode cX3_shedIfFails 30 = .ok (.aload_n 0, 1) := by decide +kernel
theorem dX3_shedIfFails_31 : decode cX3_shedIfFails 31 = .ok (.getfield 16, 3) := by decide +kernel
theorem dX3_shedIfFails_34 : decode cX3_shedIfFails 34 = .ok (.invokevirtual 159, 3) := by decide +kernel
theorem dX3_shedIfFails_37 : decode cX3_shedIfFails 37 = .ok (.ireturn, 1) := by decide +kernel
theorem dX3_fittingPorts_0 : decode cX3_fittingPorts 0 = .ok (.aload_n 0, 1) := by decide +kernel
theorem dX3_fittingPorts_1 : decode cX3_fittingPorts 1 = .ok (.getfield 10, 3) := by decide +kernel
theorem dX3_fittingPorts_4 : decode cX3_fittingPorts 4 = .ok (.invokevirtual 162, 3) := by decide +kernel
theorem dX3_fittingPorts_7 : decode cX3_fittingPorts 7 = .ok (.ireturn, 1) := by decide +kernel
theorem dX3_secondsToStable_0 : decode cX3_secondsToStable 0 = .ok (.aload_n 0, 1) := by decide +kernel
theorem dX3_secondsToStable_1 : decode cX3_secondsToStable 1 = .ok (.invokevirtual 165, 3) := by decide +kernel
theorem dX3_secondsToStable_4 : decode cX3_secondsToStable 4 = .ok (.ireturn, 1) := by decide +kernel
theorem dX3_stablePorts_0 : decode cX3_stablePorts 0 = .ok (.aload_n 0, 1) := by decide +kernel
theorem dX3_stablePorts_1 : decode cX3_stablePorts 1 = .ok (.invokevirtual 165, 3) := by decide +kernel
theorem dX3_stablePorts_4 : decode cX3_stablePorts 4 = .ok (.bipush (-6), 2) := by decide +kernel
theorem dX3_stablePorts_6 : decode cX3_stablePorts 6 = .ok (.if_icmp .ne 8, 3) := by decide +kernel
theorem dX3_stablePorts_9 : decode cX3_stablePorts 9 = .ok (.bipush (-6), 2) := by decide +kernel
theorem dX3_stablePorts_11 : decode cX3_stablePorts 11 = .ok (.goto 10, 3) := by decide +kernel
theorem dX3_stablePorts_14 : decode cX3_stablePorts 14 = .ok (.aload_n 0, 1) := by decide +kernel
theorem dX3_stablePorts_15 : decode cX3_stablePorts 15 = .ok (.getfield 16, 3) := by decide +kernel
theorem dX3_stablePorts_18 : decode cX3_stablePorts 18 = .ok (.invokevirtual 117, 3) := by decide +kernel
theorem dX3_stablePorts_21 : decode cX3_stablePorts 21 = .ok (.ireturn, 1) := by decide +kernel
theorem dX3_save_0 : decode cX3_save 0 = .ok (.iload_n 1, 1) := by decide +kernel
theorem dX3_save_1 : decode cX3_save 1 = .ok (.invokestatic 168, 3) := by decide +kernel
theorem dX3_save_4 : decode cX3_save 4 = .ok (.ifCond .ne 5, 3) := by decide +kernel
theorem dX3_save_7 : decode cX3_save 7 = .ok (.iconst (-1), 1) := by decide +kernel
theorem dX3_save_8 : decode cX3_save 8 = .ok (.ireturn, 1) := by decide +kernel
theorem dX3_save_9 : decode cX3_save 9 = .ok (.aload_n 0, 1) := by decide +kernel
theorem dX3_save_10 : decode cX3_save 10 = .ok (.getfield 19, 3) := by decide +kernel
theorem dX3_save_13 : decode cX3_save 13 = .ok (.iload_n 1, 1) := by decide +kernel
theorem dX3_save_14 : decode cX3_save 14 = .ok (.aaload, 1) := by decide +kernel
theorem dX3_save_15 : decode cX3_save 15 = .ok (.astore_n 2, 1) := by decide +kernel
theorem dX3_save_16 : decode cX3_save 16 = .ok (.aload_n 2, 1) := by decide +kernel
theorem dX3_save_17 : decode cX3_save 17 = .ok (.ifnonnull 18, 3) := by decide +kernel
theorem dX3_save_20 : decode cX3_save 20 = .ok (.new 7, 3) := by decide +kernel
theorem dX3_save_23 : decode cX3_save 23 = .ok (.dup, 1) := by decide +kernel
theorem dX3_save_24 : decode cX3_save 24 = .ok (.invokespecial 9, 3) := by decide +kernel
theorem dX3_save_27 : decode cX3_save 27 = .ok (.astore_n 2, 1) := by decide +kernel
theorem dX3_save_28 : decode cX3_save 28 = .ok (.aload_n 0, 1) := by decide +kernel
theorem dX3_save_29 : decode cX3_save 29 = .ok (.getfield 19, 3) := by decide +kernel
theorem dX3_save_32 : decode cX3_save 32 = .ok (.iload_n 1, 1) := by decide +kernel
theorem dX3_save_33 : decode cX3_save 33 = .ok (.aload_n 2, 1) := by decide +kernel
theorem dX3_save_34 : decode cX3_save 34 = .ok (.aastore, 1) := by decide +kernel
theorem dX3_save_35 : decode cX3_save 35 = .ok (.aload_n 2, 1) := by decide +kernel
theorem dX3_save_36 : decode cX3_save 36 = .ok (.aload_n 0, 1) := by decide +kernel
theorem dX3_save_37 : decode cX3_save 37 = .ok (.getfield 10, 3) := by decide +kernel
theorem dX3_save_40 : decode cX3_save 40 = .ok (.invokevirtual 155, 3) := by decide +kernel
theorem dX3_save_43 : decode cX3_save 43 = .ok (.aload_n 0, 1) := by decide +kernel
theorem dX3_save_44 : decode cX3_save 44 = .ok (.getfield 10, 3) := by decide +kernel
theorem dX3_save_47 : decode cX3_save 47 = .ok (.getfield 129, 3) := by decide +kernel
theorem dX3_save_50 : decode cX3_save 50 = .ok (.ireturn, 1) := by decide +kernel
theorem dX3_restore_0 : decode cX3_restore 0 = .ok (.iload_n 1, 1) := by decide +kernel
theorem dX3_restore_1 : decode cX3_restore 1 = .ok (.invokestatic 168, 3) := by decide +kernel
theorem dX3_restore_4 : decode cX3_restore 4 = .ok (.ifCond .ne 5, 3) := by decide +kernel
theorem dX3_restore_7 : decode cX3_restore 7 = .ok (.iconst (-1), 1) := by decide +kernel
theorem dX3_restore_8 : decode cX3_restore 8 = .ok (.ireturn, 1) := by decide +kernel
theorem dX3_restore_9 : decode cX3_restore 9 = .ok (.aload_n 0, 1) := by decide +kernel
theorem dX3_restore_10 : decode cX3_restore 10 = .ok (.getfield 19, 3) := by decide +kernel
theorem dX3_restore_13 : decode cX3_restore 13 = .ok (.iload_n 1, 1) := by decide +kernel
theorem dX3_restore_14 : decode cX3_restore 14 = .ok (.aaload, 1) := by decide +kernel
theorem dX3_restore_15 : decode cX3_restore 15 = .ok (.astore_n 2, 1) := by decide +kernel
theorem dX3_restore_16 : decode cX3_restore 16 = .ok (.aload_n 2, 1) := by decide +kernel
theorem dX3_restore_17 : decode cX3_restore 17 = .ok (.ifnonnull 6, 3) := by decide +kernel
theorem dX3_restore_20 : decode cX3_restore 20 = .ok (.bipush (-3), 2) := by decide +kernel
theorem dX3_restore_22 : decode cX3_restore 22 = .ok (.ireturn, 1) := by decide +kernel
theorem dX3_restore_23 : decode cX3_restore 23 = .ok (.aload_n 0, 1) := by decide +kernel
theorem dX3_restore_24 : decode cX3_restore 24 = .ok (.getfield 10, 3) := by decide +kernel
theorem dX3_restore_27 : decode cX3_restore 27 = .ok (.aload_n 2, 1) := by decide +kernel
theorem dX3_restore_28 : decode cX3_restore 28 = .ok (.invokevirtual 155, 3) := by decide +kernel
theorem dX3_restore_31 : decode cX3_restore 31 = .ok (.aload_n 0, 1) := by decide +kernel
theorem dX3_restore_32 : decode cX3_restore 32 = .ok (.getfield 10, 3) := by decide +kernel
theorem dX3_restore_35 : decode cX3_restore 35 = .ok (.getfield 129, 3) := by decide +kernel
theorem dX3_restore_38 : decode cX3_restore 38 = .ok (.ireturn, 1) := by decide +kernel
theorem dX3_settlePlan_0 : decode cX3_settlePlan 0 = .ok (.aload_n 0, 1) := by decide +kernel
theorem dX3_settlePlan_1 : decode cX3_settlePlan 1 = .ok (.getfield 16, 3) := by decide +kernel
theorem dX3_settlePlan_4 : decode cX3_settlePlan 4 = .ok (.aload_n 0, 1) := by decide +kernel
theorem dX3_settlePlan_5 : decode cX3_settlePlan 5 = .ok (.getfield 10, 3) := by decide +kernel
theorem dX3_settlePlan_8 : decode cX3_settlePlan 8 = .ok (.invokevirtual 155, 3) := by decide +kernel
theorem dX3_settlePlan_11 : decode cX3_settlePlan 11 = .ok (.iconst 0, 1) := by decide +kernel
theorem dX3_settlePlan_12 : decode cX3_settlePlan 12 = .ok (.istore_n 1, 1) := by decide +kernel
theorem dX3_settlePlan_13 : decode cX3_settlePlan 13 = .ok (.iload_n 1, 1) := by decide +kernel
theorem dX3_settlePlan_14 : decode cX3_settlePlan 14 = .ok (.sipush 300, 3) := by decide +kernel
theorem dX3_settlePlan_17 : decode cX3_settlePlan 17 = .ok (.if_icmp .gt 29, 3) := by decide +kernel
theorem dX3_settlePlan_20 : decode cX3_settlePlan 20 = .ok (.aload_n 0, 1) := by decide +kernel
theorem dX3_settlePlan_21 : decode cX3_settlePlan 21 = .ok (.getfield 16, 3) := by decide +kernel
theorem dX3_settlePlan_24 : decode cX3_settlePlan 24 = .ok (.invokevirtual 171, 3) := by decide +kernel
theorem dX3_settlePlan_27 : decode cX3_settlePlan 27 = .ok (.ifCond .eq 5, 3) := by decide +kernel
theorem dX3_settlePlan_30 : decode cX3_settlePlan 30 = .ok (.iload_n 1, 1) := by decide +kernel
theorem dX3_settlePlan_31 : decode cX3_settlePlan 31 = .ok (.ireturn, 1) := by decide +kernel
theorem dX3_settlePlan_32 : decode cX3_settlePlan 32 = .ok (.aload_n 0, 1) := by decide +kernel
theorem dX3_settlePlan_33 : decode cX3_settlePlan 33 = .ok (.getfield 16, 3) := by decide +kernel
theorem dX3_settlePlan_36 : decode cX3_settlePlan 36 = .ok (.invokevirtual 126, 3) := by decide +kernel
theorem dX3_settlePlan_39 : decode cX3_settlePlan 39 = .ok (.pop, 1) := by decide +kernel
theorem dX3_settlePlan_40 : decode cX3_settlePlan 40 = .ok (.iinc 1 1, 3) := by decide +kernel
theorem dX3_settlePlan_43 : decode cX3_settlePlan 43 = .ok (.goto (-30), 3) := by decide +kernel
theorem dX3_settlePlan_46 : decode cX3_settlePlan 46 = .ok (.bipush (-6), 2) := by decide +kernel
theorem dX3_settlePlan_48 : decode cX3_settlePlan 48 = .ok (.ireturn, 1) := by decide +kernel
theorem dX3_isPort_0 : decode cX3_isPort 0 = .ok (.iload_n 0, 1) := by decide +kernel
theorem dX3_isPort_1 : decode cX3_isPort 1 = .ok (.iconst 0, 1) := by decide +kernel
theorem dX3_isPort_2 : decode cX3_isPort 2 = .ok (.bipush 7, 2) := by decide +kernel
theorem dX3_isPort_4 : decode cX3_isPort 4 = .ok (.invokestatic 27, 3) := by decide +kernel
theorem dX3_isPort_7 : decode cX3_isPort 7 = .ok (.ireturn, 1) := by decide +kernel
theorem dX3_isSupply_0 : decode cX3_isSupply 0 = .ok (.iload_n 0, 1) := by decide +kernel
theorem dX3_isSupply_1 : decode cX3_isSupply 1 = .ok (.iconst 0, 1) := by decide +kernel
theorem dX3_isSupply_2 : decode cX3_isSupply 2 = .ok (.iconst 2, 1) := by decide +kernel
theorem dX3_isSupply_3 : decode cX3_isSupply 3 = .ok (.invokestatic 27, 3) := by decide +kernel
theorem dX3_isSupply_6 : decode cX3_isSupply 6 = .ok (.ireturn, 1) := by decide +kernel
theorem dX3_isSlot_0 : decode cX3_isSlot 0 = .ok (.iload_n 0, 1) := by decide +kernel
theorem dX3_isSlot_1 : decode cX3_isSlot 1 = .ok (.iconst 0, 1) := by decide +kernel
theorem dX3_isSlot_2 : decode cX3_isSlot 2 = .ok (.iconst 1, 1) := by decide +kernel
theorem dX3_isSlot_3 : decode cX3_isSlot 3 = .ok (.invokestatic 27, 3) := by decide +kernel
theorem dX3_isSlot_6 : decode cX3_isSlot 6 = .ok (.ireturn, 1) := by decide +kernel
theorem dX3_isWithin_0 : decode cX3_isWithin 0 = .ok (.iload_n 0, 1) := by decide +kernel
theorem dX3_isWithin_1 : decode cX3_isWithin 1 = .ok (.iload_n 1, 1) := by decide +kernel
theorem dX3_isWithin_2 : decode cX3_isWithin 2 = .ok (.if_icmp .lt 12, 3) := by decide +kernel
theorem dX3_isWithin_5 : decode cX3_isWithin 5 = .ok (.iload_n 0, 1) := by decide +kernel
theorem dX3_isWithin_6 : decode cX3_isWithin 6 = .ok (.iload_n 2, 1) := by decide +kernel
theorem dX3_isWithin_7 : decode cX3_isWithin 7 = .ok (.if_icmp .gt 7, 3) := by decide +kernel
theorem dX3_isWithin_10 : decode cX3_isWithin 10 = .ok (.iconst 1, 1) := by decide +kernel
theorem dX3_isWithin_11 : decode cX3_isWithin 11 = .ok (.goto 4, 3) := by decide +kernel
theorem dX3_isWithin_14 : decode cX3_isWithin 14 = .ok (.iconst 0, 1) := by decide +kernel
theorem dX3_isWithin_15 : decode cX3_isWithin 15 = .ok (.ireturn, 1) := by decide +kernel
theorem dX3_isDetected_0 : decode cX3_isDetected 0 = .ok (.iload_n 0, 1) := by decide +kernel
theorem dX3_isDetected_1 : decode cX3_isDetected 1 = .ok (.sipush 190, 3) := by decide +kernel
theorem dX3_isDetected_4 : decode cX3_isDetected 4 = .ok (.sipush 265, 3) := by decide +kernel
theorem dX3_isDetected_7 : decode cX3_isDetected 7 = .ok (.invokestatic 27, 3) := by decide +kernel
theorem dX3_isDetected_10 : decode cX3_isDetected 10 = .ok (.ifCond .eq 13, 3) := by decide +kernel
theorem dX3_isDetected_13 : decode cX3_isDetected 13 = .ok (.iload_n 1, 1) := by decide +kernel
theorem dX3_isDetected_14 : decode cX3_isDetected 14 = .ok (.bipush 15, 2) := by decide +kernel
theorem dX3_isDetected_16 : decode cX3_isDetected 16 = .ok (.if_icmp .gt 7, 3) := by decide +kernel
theorem dX3_isDetected_19 : decode cX3_isDetected 19 = .ok (.iconst 1, 1) := by decide +kernel
theorem dX3_isDetected_20 : decode cX3_isDetected 20 = .ok (.goto 4, 3) := by decide +kernel
theorem dX3_isDetected_23 : decode cX3_isDetected 23 = .ok (.iconst 0, 1) := by decide +kernel
theorem dX3_isDetected_24 : decode cX3_isDetected 24 = .ok (.ireturn, 1) := by decide +kernel
theorem dX3_classOf_0 : decode cX3_classOf 0 = .ok (.iconst 0, 1) := by decide +kernel
theorem dX3_classOf_1 : decode cX3_classOf 1 = .ok (.istore_n 1, 1) := by decide +kernel
theorem dX3_classOf_2 : decode cX3_classOf 2 = .ok (.iload_n 1, 1) := by decide +kernel
theorem dX3_classOf_3 : decode cX3_classOf 3 = .ok (.getstatic 174, 3) := by decide +kernel
theorem dX3_classOf_6 : decode cX3_classOf 6 = .ok (.arraylength, 1) := by decide +kernel
theorem dX3_classOf_7 : decode cX3_classOf 7 = .ok (.if_icmp .ge 28, 3) := by decide +kernel
theorem dX3_classOf_10 : decode cX3_classOf 10 = .ok (.iload_n 0, 1) := by decide +kernel
theorem dX3_classOf_11 : decode cX3_classOf 11 = .ok (.getstatic 177, 3) := by decide +kernel
theorem dX3_classOf_14 : decode cX3_classOf 14 = .ok (.iload_n 1, 1) := by decide +kernel
theorem dX3_classOf_15 : decode cX3_classOf 15 = .ok (.iaload, 1) := by decide +kernel
theorem dX3_classOf_16 : decode cX3_classOf 16 = .ok (.getstatic 180, 3) := by decide +kernel
theorem dX3_classOf_19 : decode cX3_classOf 19 = .ok (.iload_n 1, 1) := by decide +kernel
theorem dX3_classOf_20 : decode cX3_classOf 20 = .ok (.iaload, 1) := by decide +kernel
theorem dX3_classOf_21 : decode cX3_classOf 21 = .ok (.invokestatic 27, 3) := by decide +kernel
theorem dX3_classOf_24 : decode cX3_classOf 24 = .ok (.ifCond .eq 5, 3) := by decide +kernel
theorem dX3_classOf_27 : decode cX3_classOf 27 = .ok (.iload_n 1, 1) := by decide +kernel
theorem dX3_classOf_28 : decode cX3_classOf 28 = .ok (.ireturn, 1) := by decide +kernel
theorem dX3_classOf_29 : decode cX3_classOf 29 = .ok (.iinc 1 1, 3) := by decide +kernel
theorem dX3_classOf_32 : decode cX3_classOf 32 = .ok (.goto (-30), 3) := by decide +kernel
theorem dX3_classOf_35 : decode cX3_classOf 35 = .ok (.bipush (-6), 2) := by decide +kernel
theorem dX3_classOf_37 : decode cX3_classOf 37 = .ok (.ireturn, 1) := by decide +kernel
theorem dX3_maximumOf_0 : decode cX3_maximumOf 0 = .ok (.iload_n 0, 1) := by decide +kernel
theorem dX3_maximumOf_1 : decode cX3_maximumOf 1 = .ok (.iconst 0, 1) := by decide +kernel
theorem dX3_maximumOf_2 : decode cX3_maximumOf 2 = .ok (.getstatic 174, 3) := by decide +kernel
theorem dX3_maximumOf_5 : decode cX3_maximumOf 5 = .ok (.arraylength, 1) := by decide +kernel
theorem dX3_maximumOf_6 : decode cX3_maximumOf 6 = .ok (.iconst 1, 1) := by decide +kernel
theorem dX3_maximumOf_7 : decode cX3_maximumOf 7 = .ok (.isub, 1) := by decide +kernel
theorem dX3_maximumOf_8 : decode cX3_maximumOf 8 = .ok (.invokestatic 27, 3) := by decide +kernel
theorem dX3_maximumOf_11 : decode cX3_maximumOf 11 = .ok (.ifCond .eq 11, 3) := by decide +kernel
theorem dX3_maximumOf_14 : decode cX3_maximumOf 14 = .ok (.getstatic 174, 3) := by decide +kernel
theorem dX3_maximumOf_17 : decode cX3_maximumOf 17 = .ok (.iload_n 0, 1) := by decide +kernel
theorem dX3_maximumOf_18 : decode cX3_maximumOf 18 = .ok (.iaload, 1) := by decide +kernel
theorem dX3_maximumOf_19 : decode cX3_maximumOf 19 = .ok (.goto 4, 3) := by decide +kernel
theorem dX3_maximumOf_22 : decode cX3_maximumOf 22 = .ok (.iconst 0, 1) := by decide +kernel
theorem dX3_maximumOf_23 : decode cX3_maximumOf 23 = .ok (.ireturn, 1) := by decide +kernel
end
section
/-! decode rows, as the task prints them -/
theorem dX4_init_0 : decode cX4_init 0 = .ok (.aload_n 0, 1) := by decide +kernel
theorem dX4_init_1 : decode cX4_init 1 = .ok (.invokespecial 1, 3) := by decide +kernel
theorem dX4_init_4 : decode cX4_init 4 = .ok (.aload_n 0, 1) := by decide +kernel
theorem dX4_init_5 : decode cX4_init 5 = .ok (.sipush 149, 3) := by decide +kernel
theorem dX4_init_8 : decode cX4_init 8 = .ok (.newarray .int, 2) := by decide +kernel
theorem dX4_init_10 : decode cX4_init 10 = .ok (.putfield 7, 3) := by decide +kernel
theorem dX4_init_13 : decode cX4_init 13 = .ok (.aload_n 0, 1) := by decide +kernel
theorem dX4_init_14 : decode cX4_init 14 = .ok (.sipush 149, 3) := by decide +kernel
theorem dX4_init_17 : decode cX4_init 17 = .ok (.newarray .int, 2) := by decide +kernel
theorem dX4_init_19 : decode cX4_init 19 = .ok (.putfield 13, 3) := by decide +kernel
theorem dX4_init_22 : decode cX4_init 22 = .ok (.aload_n 0, 1) := by decide +kernel
theorem dX4_init_23 : decode cX4_init 23 = .ok (.sipush 298, 3) := by decide +kernel
theorem dX4_init_26 : decode cX4_init 26 = .ok (.newarray .int, 2) := by decide +kernel
theorem dX4_init_28 : decode cX4_init 28 = .ok (.putfield 16, 3) := by decide +kernel
theorem dX4_init_31 : decode cX4_init 31 = .ok (.aload_n 0, 1) := by decide +kernel
theorem dX4_init_32 : decode cX4_init 32 = .ok (.iconst 2, 1) := by decide +kernel
theorem dX4_init_33 : decode cX4_init 33 = .ok (.newarray .boolean, 2) := by decide +kernel
theorem dX4_init_35 : decode cX4_init 35 = .ok (.putfield 19, 3) := by decide +kernel
theorem dX4_init_38 : decode cX4_init 38 = .ok (.aload_n 0, 1) := by decide +kernel
theorem dX4_init_39 : decode cX4_init 39 = .ok (.sipush 149, 3) := by decide +kernel
theorem dX4_init_42 : decode cX4_init 42 = .ok (.newarray .int, 2) := by decide +kernel
theorem dX4_init_44 : decode cX4_init 44 = .ok (.putfield 23, 3) := by decide +kernel
theorem dX4_init_47 : decode cX4_init 47 = .ok (.aload_n 0, 1) := by decide +kernel
theorem dX4_init_48 : decode cX4_init 48 = .ok (.getfield 7, 3) := by decide +kernel
theorem dX4_init_51 : decode cX4_init 51 = .ok (.iconst 0, 1) := by decide +kernel
theorem dX4_init_52 : decode cX4_init 52 = .ok (.sipush 1500, 3) := by decide +kernel
theorem dX4_init_55 : decode cX4_init 55 = .ok (.iastore, 1) := by decide +kernel
theorem dX4_init_56 : decode cX4_init 56 = .ok (.iconst 0, 1) := by decide +kernel
theorem dX4_init_57 : decode cX4_init 57 = .ok (.istore_n 1, 1) := by decide +kernel
theorem dX4_init_58 : decode cX4_init 58 = .ok (.iload_n 1, 1) := by decide +kernel
theorem dX4_init_59 : decode cX4_init 59 = .ok (.iconst 3, 1) := by decide +kernel
theorem dX4_init_60 : decode cX4_init 60 = .ok (.if_icmp .ge 18, 3) := by decide +kernel
theorem dX4_init_63 : decode cX4_init 63 = .ok (.aload_n 0, 1) := by decide +kernel
theorem dX4_init_64 : decode cX4_init 64 = .ok (.getfield 7, 3) := by decide +kernel
theorem dX4_init_67 : decode cX4_init 67 = .ok (.iconst 3, 1) := by decide +kernel
theorem dX4_init_68 : decode cX4_init 68 = .ok (.iload_n 1, 1) := by decide +kernel
theorem dX4_init_69 : decode cX4_init 69 = .ok (.iadd, 1) := by decide +kernel
theorem dX4_init_70 : decode cX4_init 70 = .ok (.iconst 1, 1) := by decide +kernel
theorem dX4_init_71 : decode cX4_init 71 = .ok (.iastore, 1) := by decide +kernel
theorem dX4_init_72 : decode cX4_init 72 = .ok (.iinc 1 1, 3) := by decide +kernel
theorem dX4_init_75 : decode cX4_init 75 = .ok (.goto (-17), 3) := by decide +kernel
theorem dX4_init_78 : decode cX4_init 78 = .ok (.aload_n 0, 1) := by decide +kernel
theorem dX4_init_79 : decode cX4_init 79 = .ok (.getfield 7, 3) := by decide +kernel
theorem dX4_init_82 : decode cX4_init 82 = .ok (.bipush 7, 2) := by decide +kernel
theorem dX4_init_84 : decode cX4_init 84 = .ok (.iconst 2, 1) := by decide +kernel
theorem dX4_init_85 : decode cX4_init 85 = .ok (.iastore, 1) := by decide +kernel
theorem dX4_init_86 : decode cX4_init 86 = .ok (.aload_n 0, 1) := by decide +kernel
theorem dX4_init_87 : decode cX4_init 87 = .ok (.getfield 7, 3) := by decide +kernel
theorem dX4_init_90 : decode cX4_init 90 = .ok (.bipush 8, 2) := by decide +kernel
theorem dX4_init_92 : decode cX4_init 92 = .ok (.iconst 3, 1) := by decide +kernel
theorem dX4_init_93 : decode cX4_init 93 = .ok (.iastore, 1) := by decide +kernel
theorem dX4_init_94 : decode cX4_init 94 = .ok (.aload_n 0, 1) := by decide +kernel
theorem dX4_init_95 : decode cX4_init 95 = .ok (.getfield 7, 3) := by decide +kernel
theorem dX4_init_98 : decode cX4_init 98 = .ok (.bipush 9, 2) := by decide +kernel
theorem dX4_init_100 : decode cX4_init 100 = .ok (.iconst 5, 1) := by decide +kernel
theorem dX4_init_101 : decode cX4_init 101 = .ok (.iastore, 1) := by decide +kernel
theorem dX4_init_102 : decode cX4_init 102 = .ok (.iconst 0, 1) := by decide +kernel
theorem dX4_init_103 : decode cX4_init 103 = .ok (.istore_n 1, 1) := by decide +kernel
theorem dX4_init_104 : decode cX4_init 104 = .ok (.iload_n 1, 1) := by decide +kernel
theorem dX4_init_105 : decode cX4_init 105 = .ok (.bipush 8, 2) := by decide +kernel
theorem dX4_init_107 : decode cX4_init 107 = .ok (.if_icmp .ge 31, 3) := by decide +kernel
theorem dX4_init_110 : decode cX4_init 110 = .ok (.aload_n 0, 1) := by decide +kernel
theorem dX4_init_111 : decode cX4_init 111 = .ok (.getfield 7, 3) := by decide +kernel
theorem dX4_init_114 : decode cX4_init 114 = .ok (.iload_n 1, 1) := by decide +kernel
theorem dX4_init_115 : decode cX4_init 115 = .ok (.iconst 0, 1) := by decide +kernel
theorem dX4_init_116 : decode cX4_init 116 = .ok (.invokestatic 26, 3) := by decide +kernel
theorem dX4_init_119 : decode cX4_init 119 = .ok (.iconst 1, 1) := by decide +kernel
theorem dX4_init_120 : decode cX4_init 120 = .ok (.iastore, 1) := by decide +kernel
theorem dX4_init_121 : decode cX4_init 121 = .ok (.aload_n 0, 1) := by decide +kernel
theorem dX4_init_122 : decode cX4_init 122 = .ok (.getfield 7, 3) := by decide +kernel
theorem dX4_init_125 : decode cX4_init 125 = .ok (.iload_n 1, 1) := by decide +kernel
theorem dX4_init_126 : decode cX4_init 126 = .ok (.iconst 1, 1) := by decide +kernel
theorem dX4_init_127 : decode cX4_init 127 = .ok (.invokestatic 26, 3) := by decide +kernel
theorem dX4_init_130 : decode cX4_init 130 = .ok (.iconst 2, 1) := by decide +kernel
theorem dX4_init_131 : decode cX4_init 131 = .ok (.iastore, 1) := by decide +kernel
theorem dX4_init_132 : decode cX4_init 132 = .ok (.iinc 1 1, 3) := by decide +kernel
theorem dX4_init_135 : decode cX4_init 135 = .ok (.goto (-31), 3) := by decide +kernel
theorem dX4_init_138 : decode cX4_init 138 = .ok (.return_, 1) := by decide +kernel
theorem dX4_in_0 : decode cX4_in 0 = .ok (.iload_n 0, 1) := by decide +kernel
theorem dX4_in_1 : decode cX4_in 1 = .ok (.iload_n 1, 1) := by decide +kernel
theorem dX4_in_2 : decode cX4_in 2 = .ok (.if_icmp .lt 12, 3) := by decide +kernel
theorem dX4_in_5 : decode cX4_in 5 = .ok (.iload_n 0, 1) := by decide +kernel
theorem dX4_in_6 : decode cX4_in 6 = .ok (.iload_n 2, 1) := by decide +kernel
theorem dX4_in_7 : decode cX4_in 7 = .ok (.if_icmp .gt 7, 3) := by decide +kernel
theorem dX4_in_10 : decode cX4_in 10 = .ok (.iconst 1, 1) := by decide +kernel
theorem dX4_in_11 : decode cX4_in 11 = .ok (.goto 4, 3) := by decide +kernel
theorem dX4_in_14 : decode cX4_in 14 = .ok (.iconst 0, 1) := by decide +kernel
theorem dX4_in_15 : decode cX4_in 15 = .ok (.ireturn, 1) := by decide +kernel
theorem dX4_isPort_0 : decode cX4_isPort 0 = .ok (.iload_n 0, 1) := by decide +kernel
theorem dX4_isPort_1 : decode cX4_isPort 1 = .ok (.iconst 0, 1) := by decide +kernel
theorem dX4_isPort_2 : decode cX4_isPort 2 = .ok (.bipush 7, 2) := by decide +kernel
theorem dX4_isPort_4 : decode cX4_isPort 4 = .ok (.invokestatic 30, 3) := by decide +kernel
theorem dX4_isPort_7 : decode cX4_isPort 7 = .ok (.ireturn, 1) := by decide +kernel
theorem dX4_isSupply_0 : decode cX4_isSupply 0 = .ok (.iload_n 0, 1) := by decide +kernel
theorem dX4_isSupply_1 : decode cX4_isSupply 1 = .ok (.iconst 0, 1) := by decide +kernel
theorem dX4_isSupply_2 : decode cX4_isSupply 2 = .ok (.iconst 2, 1) := by decide +kernel
theorem dX4_isSupply_3 : decode cX4_isSupply 3 = .ok (.invokestatic 30, 3) := by decide +kernel
theorem dX4_isSupply_6 : decode cX4_isSupply 6 = .ok (.ireturn, 1) := by decide +kernel
theorem dX4_at_0 : decode cX4_at 0 = .ok (.bipush 61, 2) := by decide +kernel
theorem dX4_at_2 : decode cX4_at 2 = .ok (.bipush 11, 2) := by decide +kernel
theorem dX4_at_4 : decode cX4_at 4 = .ok (.iload_n 0, 1) := by decide +kernel
theorem dX4_at_5 : decode cX4_at 5 = .ok (.imul, 1) := by decide +kernel
theorem dX4_at_6 : decode cX4_at 6 = .ok (.iadd, 1) := by decide +kernel
theorem dX4_at_7 : decode cX4_at 7 = .ok (.iload_n 1, 1) := by decide +kernel
theorem dX4_at_8 : decode cX4_at 8 = .ok (.iadd, 1) := by decide +kernel
theorem dX4_at_9 : decode cX4_at 9 = .ok (.ireturn, 1) := by decide +kernel
theorem dX4_of_0 : decode cX4_of 0 = .ok (.aload_n 0, 1) := by decide +kernel
theorem dX4_of_1 : decode cX4_of 1 = .ok (.getfield 7, 3) := by decide +kernel
theorem dX4_of_4 : decode cX4_of 4 = .ok (.iload_n 1, 1) := by decide +kernel
theorem dX4_of_5 : decode cX4_of 5 = .ok (.iload_n 2, 1) := by decide +kernel
theorem dX4_of_6 : decode cX4_of 6 = .ok (.invokestatic 26, 3) := by decide +kernel
theorem dX4_of_9 : decode cX4_of 9 = .ok (.iaload, 1) := by decide +kernel
theorem dX4_of_10 : decode cX4_of 10 = .ok (.ireturn, 1) := by decide +kernel
theorem dX4_set_0 : decode cX4_set 0 = .ok (.aload_n 0, 1) := by decide +kernel
theorem dX4_set_1 : decode cX4_set 1 = .ok (.getfield 7, 3) := by decide +kernel
theorem dX4_set_4 : decode cX4_set 4 = .ok (.iload_n 1, 1) := by decide +kernel
theorem dX4_set_5 : decode cX4_set 5 = .ok (.iaload, 1) := by decide +kernel
theorem dX4_set_6 : decode cX4_set 6 = .ok (.istore_n 3, 1) := by decide +kernel
theorem dX4_set_7 : decode cX4_set 7 = .ok (.aload_n 0, 1) := by decide +kernel
theorem dX4_set_8 : decode cX4_set 8 = .ok (.getfield 7, 3) := by decide +kernel
theorem dX4_set_11 : decode cX4_set 11 = .ok (.iload_n 1, 1) := by decide +kernel
theorem dX4_set_12 : decode cX4_set 12 = .ok (.iload_n 2, 1) := by decide +kernel
theorem dX4_set_13 : decode cX4_set 13 = .ok (.iastore, 1) := by decide +kernel
theorem dX4_set_14 : decode cX4_set 14 = .ok (.iload_n 3, 1) := by decide +kernel
theorem dX4_set_15 : decode cX4_set 15 = .ok (.ireturn, 1) := by decide +kernel
theorem dX4_setCapacity_0 : decode cX4_setCapacity 0 = .ok (.iload_n 1, 1) := by decide +kernel
theorem dX4_setCapacity_1 : decode cX4_setCapacity 1 = .ok (.invokestatic 34, 3) := by decide +kernel
theorem dX4_setCapacity_4 : decode cX4_setCapacity 4 = .ok (.ifCond .ne 5, 3) := by decide +kernel
theorem dX4_setCapacity_7 : decode cX4_setCapacity 7 = .ok (.iconst (-1), 1) := by decide +kernel
theorem dX4_setCapacity_8 : decode cX4_setCapacity 8 = .ok (.ireturn, 1) := by decide +kernel
theorem dX4_setCapacity_9 : decode cX4_setCapacity 9 = .ok (.iload_n 2, 1) := by decide +kernel
theorem dX4_setCapacity_10 : decode cX4_setCapacity 10 = .ok (.iconst 0, 1) := by decide +kernel
theorem dX4_setCapacity_11 : decode cX4_setCapacity 11 = .ok (.sipush 3000, 3) := by decide +kernel
theorem dX4_setCapacity_14 : decode cX4_setCapacity 14 = .ok (.invokestatic 30, 3) := by decide +kernel
theorem dX4_setCapacity_17 : decode cX4_setCapacity 17 = .ok (.ifCond .eq 14, 3) := by decide +kernel
theorem dX4_setCapacity_20 : decode cX4_setCapacity 20 = .ok (.aload_n 0, 1) := by decide +kernel
theorem dX4_setCapacity_21 : decode cX4_setCapacity 21 = .ok (.iconst 0, 1) := by decide +kernel
theorem dX4_setCapacity_22 : decode cX4_setCapacity 22 = .ok (.iload_n 1, 1) := by decide +kernel
theorem dX4_setCapacity_23 : decode cX4_setCapacity 23 = .ok (.iadd, 1) := by decide +kernel
theorem dX4_setCapacity_24 : decode cX4_setCapacity 24 = .ok (.iload_n 2, 1) := by decide +kernel
theorem dX4_setCapacity_25 : decode cX4_setCapacity 25 = .ok (.invokevirtual 38, 3) := by decide +kernel
theorem dX4_setCapacity_28 : decode cX4_setCapacity 28 = .ok (.goto 5, 3) := by decide +kernel
theorem dX4_setCapacity_31 : decode cX4_setCapacity 31 = .ok (.bipush (-2), 2) := by decide +kernel
theorem dX4_setCapacity_33 : decode cX4_setCapacity 33 = .ok (.ireturn, 1) := by decide +kernel
theorem dX4_setWorking_0 : decode cX4_setWorking 0 = .ok (.iload_n 1, 1) := by decide +kernel
theorem dX4_setWorking_1 : decode cX4_setWorking 1 = .ok (.invokestatic 34, 3) := by decide +kernel
theorem dX4_setWorking_4 : decode cX4_setWorking 4 = .ok (.ifCond .eq 22, 3) := by decide +kernel
theorem dX4_setWorking_7 : decode cX4_setWorking 7 = .ok (.aload_n 0, 1) := by decide +kernel
theorem dX4_setWorking_8 : decode cX4_setWorking 8 = .ok (.iconst 3, 1) := by decide +kernel
theorem dX4_setWorking_9 : decode cX4_setWorking 9 = .ok (.iload_n 1, 1) := by decide +kernel
theorem dX4_setWorking_10 : decode cX4_setWorking 10 = .ok (.iadd, 1) := by decide +kernel
theorem dX4_setWorking_11 : decode cX4_setWorking 11 = .ok (.iload_n 2, 1) := by decide +kernel
theorem dX4_setWorking_12 : decode cX4_setWorking 12 = .ok (.ifCond .eq 7, 3) := by decide +kernel
theorem dX4_setWorking_15 : decode cX4_setWorking 15 = .ok (.iconst 1, 1) := by decide +kernel
theorem dX4_setWorking_16 : decode cX4_setWorking 16 = .ok (.goto 4, 3) := by decide +kernel
theorem dX4_setWorking_19 : decode cX4_setWorking 19 = .ok (.iconst 0, 1) := by decide +kernel
theorem dX4_setWorking_20 : decode cX4_setWorking 20 = .ok (.invokevirtual 38, 3) := by decide +kernel
theorem dX4_setWorking_23 : decode cX4_setWorking 23 = .ok (.goto 4, 3) := by decide +kernel
theorem dX4_setWorking_26 : decode cX4_setWorking 26 = .ok (.iconst (-1), 1) := by decide +kernel
theorem dX4_setWorking_27 : decode cX4_setWorking 27 = .ok (.ireturn, 1) := by decide +kernel
theorem dX4_setReserve_0 : decode cX4_setReserve 0 = .ok (.iload_n 1, 1) := by decide +kernel
theorem dX4_setReserve_1 : decode cX4_setReserve 1 = .ok (.iconst 0, 1) := by decide +kernel
theorem dX4_setReserve_2 : decode cX4_setReserve 2 = .ok (.sipush 3000, 3) := by decide +kernel
theorem dX4_setReserve_5 : decode cX4_setReserve 5 = .ok (.invokestatic 30, 3) := by decide +kernel
theorem dX4_setReserve_8 : decode cX4_setReserve 8 = .ok (.ifCond .eq 13, 3) := by decide +kernel
theorem dX4_setReserve_11 : decode cX4_setReserve 11 = .ok (.aload_n 0, 1) := by decide +kernel
theorem dX4_setReserve_12 : decode cX4_setReserve 12 = .ok (.bipush 6, 2) := by decide +kernel
theorem dX4_setReserve_14 : decode cX4_setReserve 14 = .ok (.iload_n 1, 1) := by decide +kernel
theorem dX4_setReserve_15 : decode cX4_setReserve 15 = .ok (.invokevirtual 38, 3) := by decide +kernel
theorem dX4_setReserve_18 : decode cX4_setReserve 18 = .ok (.goto 5, 3) := by decide +kernel
theorem dX4_setReserve_21 : decode cX4_setReserve 21 = .ok (.bipush (-2), 2) := by decide +kernel
theorem dX4_setReserve_23 : decode cX4_setReserve 23 = .ok (.ireturn, 1) := by decide +kernel
theorem dX4_setRestartGap_0 : decode cX4_setRestartGap 0 = .ok (.iload_n 1, 1) := by decide +kernel
theorem dX4_setRestartGap_1 : decode cX4_setRestartGap 1 = .ok (.iconst 1, 1) := by decide +kernel
theorem dX4_setRestartGap_2 : decode cX4_setRestartGap 2 = .ok (.bipush 30, 2) := by decide +kernel
theorem dX4_setRestartGap_4 : decode cX4_setRestartGap 4 = .ok (.invokestatic 30, 3) := by decide +kernel
theorem dX4_setRestartGap_7 : decode cX4_setRestartGap 7 = .ok (.ifCond .eq 13, 3) := by decide +kernel
theorem dX4_setRestartGap_10 : decode cX4_setRestartGap 10 = .ok (.aload_n 0, 1) := by decide +kernel
theorem dX4_setRestartGap_11 : decode cX4_setRestartGap 11 = .ok (.bipush 7, 2) := by decide +kernel
theorem dX4_setRestartGap_13 : decode cX4_setRestartGap 13 = .ok (.iload_n 1, 1) := by decide +kernel
theorem dX4_setRestartGap_14 : decode cX4_setRestartGap 14 = .ok (.invokevirtual 38, 3) := by decide +kernel
theorem dX4_setRestartGap_17 : decode cX4_setRestartGap 17 = .ok (.goto 5, 3) := by decide +kernel
theorem dX4_setRestartGap_20 : decode cX4_setRestartGap 20 = .ok (.bipush (-2), 2) := by decide +kernel
theorem dX4_setRestartGap_22 : decode cX4_setRestartGap 22 = .ok (.ireturn, 1) := by decide +kernel
theorem dX4_setOverloadLimit_0 : decode cX4_setOverloadLimit 0 = .ok (.iload_n 1, 1) := by decide +kernel
theorem dX4_setOverloadLimit_1 : decode cX4_setOverloadLimit 1 = .ok (.iconst 1, 1) := by decide +kernel
theorem dX4_setOverloadLimit_2 : decode cX4_setOverloadLimit 2 = .ok (.bipush 30, 2) := by decide +kernel
theorem dX4_setOverloadLimit_4 : decode cX4_setOverloadLimit 4 = .ok (.invokestatic 30, 3) := by decide +kernel
theorem dX4_setOverloadLimit_7 : decode cX4_setOverloadLimit 7 = .ok (.ifCond .eq 13, 3) := by decide +kernel
theorem dX4_setOverloadLimit_10 : decode cX4_setOverloadLimit 10 = .ok (.aload_n 0, 1) := by decide +kernel
theorem dX4_setOverloadLimit_11 : decode cX4_setOverloadLimit 11 = .ok (.bipush 8, 2) := by decide +kernel
theorem dX4_setOverloadLimit_13 : decode cX4_setOverloadLimit 13 = .ok (.iload_n 1, 1) := by decide +kernel
theorem dX4_setOverloadLimit_14 : decode cX4_setOverloadLimit 14 = .ok (.invokevirtual 38, 3) := by decide +kernel
theorem dX4_setOverloadLimit_17 : decode cX4_setOverloadLimit 17 = .ok (.goto 5, 3) := by decide +kernel
theorem dX4_setOverloadLimit_20 : decode cX4_setOverloadLimit 20 = .ok (.bipush (-2), 2) := by decide +kernel
theorem dX4_setOverloadLimit_22 : decode cX4_setOverloadLimit 22 = .ok (.ireturn, 1) := by decide +kernel
theorem dX4_setCooldownTime_0 : decode cX4_setCooldownTime 0 = .ok (.iload_n 1, 1) := by decide +kernel
theorem dX4_setCooldownTime_1 : decode cX4_setCooldownTime 1 = .ok (.iconst 1, 1) := by decide +kernel
theorem dX4_setCooldownTime_2 : decode cX4_setCooldownTime 2 = .ok (.bipush 60, 2) := by decide +kernel
theorem dX4_setCooldownTime_4 : decode cX4_setCooldownTime 4 = .ok (.invokestatic 30, 3) := by decide +kernel
theorem dX4_setCooldownTime_7 : decode cX4_setCooldownTime 7 = .ok (.ifCond .eq 13, 3) := by decide +kernel
theorem dX4_setCooldownTime_10 : decode cX4_setCooldownTime 10 = .ok (.aload_n 0, 1) := by decide +kernel
theorem dX4_setCooldownTime_11 : decode cX4_setCooldownTime 11 = .ok (.bipush 9, 2) := by decide +kernel
theorem dX4_setCooldownTime_13 : decode cX4_setCooldownTime 13 = .ok (.iload_n 1, 1) := by decide +kernel
theorem dX4_setCooldownTime_14 : decode cX4_setCooldownTime 14 = .ok (.invokevirtual 38, 3) := by decide +kernel
theorem dX4_setCooldownTime_17 : decode cX4_setCooldownTime 17 = .ok (.goto 5, 3) := by decide +kernel
theorem dX4_setCooldownTime_20 : decode cX4_setCooldownTime 20 = .ok (.bipush (-2), 2) := by decide +kernel
theorem dX4_setCooldownTime_22 : decode cX4_setCooldownTime 22 = .ok (.ireturn, 1) := by decide +kernel
theorem dX4_budget_0 : decode cX4_budget 0 = .ok (.iconst 0, 1) := by decide +kernel
theorem dX4_budget_1 : decode cX4_budget 1 = .ok (.istore_n 1, 1) := by decide +kernel
theorem dX4_budget_2 : decode cX4_budget 2 = .ok (.iconst 0, 1) := by decide +kernel
theorem dX4_budget_3 : decode cX4_budget 3 = .ok (.istore_n 2, 1) := by decide +kernel
theorem dX4_budget_4 : decode cX4_budget 4 = .ok (.iload_n 2, 1) := by decide +kernel
theorem dX4_budget_5 : decode cX4_budget 5 = .ok (.iconst 3, 1) := by decide +kernel
theorem dX4_budget_6 : decode cX4_budget 6 = .ok (.if_icmp .ge 29, 3) := by decide +kernel
theorem dX4_budget_9 : decode cX4_budget 9 = .ok (.iload_n 1, 1) := by decide +kernel
theorem dX4_budget_10 : decode cX4_budget 10 = .ok (.aload_n 0, 1) := by decide +kernel
theorem dX4_budget_11 : decode cX4_budget 11 = .ok (.getfield 7, 3) := by decide +kernel
theorem dX4_budget_14 : decode cX4_budget 14 = .ok (.iconst 3, 1) := by decide +kernel
theorem dX4_budget_15 : decode cX4_budget 15 = .ok (.iload_n 2, 1) := by decide +kernel
theorem dX4_budget_16 : decode cX4_budget 16 = .ok (.iadd, 1) := by decide +kernel
theorem dX4_budget_17 : decode cX4_budget 17 = .ok (.iaload, 1) := by decide +kernel
theorem dX4_budget_18 : decode cX4_budget 18 = .ok (.aload_n 0, 1) := by decide +kernel
theorem dX4_budget_19 : decode cX4_budget 19 = .ok (.getfield 7, 3) := by decide +kernel
theorem dX4_budget_22 : decode cX4_budget 22 = .ok (.iconst 0, 1) := by decide +kernel
theorem dX4_budget_23 : decode cX4_budget 23 = .ok (.iload_n 2, 1) := by decide +kernel
theorem dX4_budget_24 : decode cX4_budget 24 = .ok (.iadd, 1) := by decide +kernel
theorem dX4_budget_25 : decode cX4_budget 25 = .ok (.iaload, 1) := by decide +kernel
theorem dX4_budget_26 : decode cX4_budget 26 = .ok (.imul, 1) := by decide +kernel
theorem dX4_budget_27 : decode cX4_budget 27 = .ok (.iadd, 1) := by decide +kernel
theorem dX4_budget_28 : decode cX4_budget 28 = .ok (.istore_n 1, 1) := by decide +kernel
theorem dX4_budget_29 : decode cX4_budget 29 = .ok (.iinc 2 1, 3) := by decide +kernel
theorem dX4_budget_32 : decode cX4_budget 32 = .ok (.goto (-28), 3) := by decide +kernel
theorem dX4_budget_35 : decode cX4_budget 35 = .ok (.iload_n 1, 1) := by decide +kernel
theorem dX4_budget_36 : decode cX4_budget 36 = .ok (.aload_n 0, 1) := by decide +kernel
theorem dX4_budget_37 : decode cX4_budget 37 = .ok (.getfield 7, 3) := by decide +kernel
theorem dX4_budget_40 : decode cX4_budget 40 = .ok (.bipush 6, 2) := by decide +kernel
theorem dX4_budget_42 : decode cX4_budget 42 = .ok (.iaload, 1) := by decide +kernel
theorem dX4_budget_43 : decode cX4_budget 43 = .ok (.if_icmp .le 15, 3) := by decide +kernel
theorem dX4_budget_46 : decode cX4_budget 46 = .ok (.iload_n 1, 1) := by decide +kernel
theorem dX4_budget_47 : decode cX4_budget 47 = .ok (.aload_n 0, 1) := by decide +kernel
theorem dX4_budget_48 : decode cX4_budget 48 = .ok (.getfield 7, 3) := by decide +kernel
theorem dX4_budget_51 : decode cX4_budget 51 = .ok (.bipush 6, 2) := by decide +kernel
theorem dX4_budget_53 : decode cX4_budget 53 = .ok (.iaload, 1) := by decide +kernel
theorem dX4_budget_54 : decode cX4_budget 54 = .ok (.isub, 1) := by decide +kernel
theorem dX4_budget_55 : decode cX4_budget 55 = .ok (.goto 4, 3) := by decide +kernel
theorem dX4_budget_58 : decode cX4_budget 58 = .ok (.iconst 0, 1) := by decide +kernel
theorem dX4_budget_59 : decode cX4_budget 59 = .ok (.ireturn, 1) := by decide +kernel
theorem dX4_available_0 : decode cX4_available 0 = .ok (.aload_n 0, 1) := by decide +kernel
theorem dX4_available_1 : decode cX4_available 1 = .ok (.invokevirtual 41, 3) := by decide +kernel
theorem dX4_available_4 : decode cX4_available 4 = .ok (.istore_n 1, 1) := by decide +kernel
theorem dX4_available_5 : decode cX4_available 5 = .ok (.iconst 0, 1) := by decide +kernel
theorem dX4_available_6 : decode cX4_available 6 = .ok (.istore_n 2, 1) := by decide +kernel
theorem dX4_available_7 : decode cX4_available 7 = .ok (.iload_n 2, 1) := by decide +kernel
theorem dX4_available_8 : decode cX4_available 8 = .ok (.bipush 8, 2) := by decide +kernel
theorem dX4_available_10 : decode cX4_available 10 = .ok (.if_icmp .ge 19, 3) := by decide +kernel
theorem dX4_available_13 : decode cX4_available 13 = .ok (.iload_n 1, 1) := by decide +kernel
theorem dX4_available_14 : decode cX4_available 14 = .ok (.aload_n 0, 1) := by decide +kernel
theorem dX4_available_15 : decode cX4_available 15 = .ok (.iload_n 2, 1) := by decide +kernel
theorem dX4_available_16 : decode cX4_available 16 = .ok (.bipush 8, 2) := by decide +kernel
theorem dX4_available_18 : decode cX4_available 18 = .ok (.invokevirtual 45, 3) := by decide +kernel
theorem dX4_available_21 : decode cX4_available 21 = .ok (.isub, 1) := by decide +kernel
theorem dX4_available_22 : decode cX4_available 22 = .ok (.istore_n 1, 1) := by decide +kernel
theorem dX4_available_23 : decode cX4_available 23 = .ok (.iinc 2 1, 3) := by decide +kernel
theorem dX4_available_26 : decode cX4_available 26 = .ok (.goto (-19), 3) := by decide +kernel
theorem dX4_available_29 : decode cX4_available 29 = .ok (.iload_n 1, 1) := by decide +kernel
theorem dX4_available_30 : decode cX4_available 30 = .ok (.ireturn, 1) := by decide +kernel
theorem dX4_losePower_0 : decode cX4_losePower 0 = .ok (.aload_n 0, 1) := by decide +kernel
theorem dX4_losePower_1 : decode cX4_losePower 1 = .ok (.getfield 7, 3) := by decide +kernel
theorem dX4_losePower_4 : decode cX4_losePower 4 = .ok (.iload_n 1, 1) := by decide +kernel
theorem dX4_losePower_5 : decode cX4_losePower 5 = .ok (.bipush 8, 2) := by decide +kernel
theorem dX4_losePower_7 : decode cX4_losePower 7 = .ok (.invokestatic 26, 3) := by decide +kernel
theorem dX4_losePower_10 : decode cX4_losePower 10 = .ok (.iconst 0, 1) := by decide +kernel
theorem dX4_losePower_11 : decode cX4_losePower 11 = .ok (.iastore, 1) := by decide +kernel
theorem dX4_losePower_12 : decode cX4_losePower 12 = .ok (.aload_n 0, 1) := by decide +kernel
theorem dX4_losePower_13 : decode cX4_losePower 13 = .ok (.getfield 7, 3) := by decide +kernel
theorem dX4_losePower_16 : decode cX4_losePower 16 = .ok (.iload_n 1, 1) := by decide +kernel
theorem dX4_losePower_17 : decode cX4_losePower 17 = .ok (.bipush 9, 2) := by decide +kernel
theorem dX4_losePower_19 : decode cX4_losePower 19 = .ok (.invokestatic 26, 3) := by decide +kernel
theorem dX4_losePower_22 : decode cX4_losePower 22 = .ok (.iconst 0, 1) := by decide +kernel
theorem dX4_losePower_23 : decode cX4_losePower 23 = .ok (.iastore, 1) := by decide +kernel
theorem dX4_losePower_24 : decode cX4_losePower 24 = .ok (.return_, 1) := by decide +kernel
theorem dX4_isPowered_0 : decode cX4_isPowered 0 = .ok (.aload_n 0, 1) := by decide +kernel
theorem dX4_isPowered_1 : decode cX4_isPowered 1 = .ok (.iload_n 1, 1) := by decide +kernel
theorem dX4_isPowered_2 : decode cX4_isPowered 2 = .ok (.bipush 8, 2) := by decide +kernel
theorem dX4_isPowered_4 : decode cX4_isPowered 4 = .ok (.invokevirtual 45, 3) := by decide +kernel
theorem dX4_isPowered_7 : decode cX4_isPowered 7 = .ok (.ifCond .le 7, 3) := by decide +kernel
theorem dX4_isPowered_10 : decode cX4_isPowered 10 = .ok (.iconst 1, 1) := by decide +kernel
theorem dX4_isPowered_11 : decode cX4_isPowered 11 = .ok (.goto 4, 3) := by decide +kernel
theorem dX4_isPowered_14 : decode cX4_isPowered 14 = .ok (.iconst 0, 1) := by decide +kernel
theorem dX4_isPowered_15 : decode cX4_isPowered 15 = .ok (.ireturn, 1) := by decide +kernel
theorem dX4_setEnabled_0 : decode cX4_setEnabled 0 = .ok (.iload_n 1, 1) := by decide +kernel
theorem dX4_setEnabled_1 : decode cX4_setEnabled 1 = .ok (.invokestatic 48, 3) := by decide +kernel
theorem dX4_setEnabled_4 : decode cX4_setEnabled 4 = .ok (.ifCond .ne 5, 3) := by decide +kernel
theorem dX4_setEnabled_7 : decode cX4_setEnabled 7 = .ok (.iconst (-1), 1) := by decide +kernel
theorem dX4_setEnabled_8 : decode cX4_setEnabled 8 = .ok (.ireturn, 1) := by decide +kernel
theorem dX4_setEnabled_9 : decode cX4_setEnabled 9 = .ok (.iload_n 2, 1) := by decide +kernel
theorem dX4_setEnabled_10 : decode cX4_setEnabled 10 = .ok (.ifCond .ne 20, 3) := by decide +kernel
theorem dX4_setEnabled_13 : decode cX4_setEnabled 13 = .ok (.aload_n 0, 1) := by decide +kernel
theorem dX4_setEnabled_14 : decode cX4_setEnabled 14 = .ok (.iload_n 1, 1) := by decide +kernel
theorem dX4_setEnabled_15 : decode cX4_setEnabled 15 = .ok (.invokevirtual 51, 3) := by decide +kernel
theorem dX4_setEnabled_18 : decode cX4_setEnabled 18 = .ok (.aload_n 0, 1) := by decide +kernel
theorem dX4_setEnabled_19 : decode cX4_setEnabled 19 = .ok (.getfield 7, 3) := by decide +kernel
theorem dX4_setEnabled_22 : decode cX4_setEnabled 22 = .ok (.iload_n 1, 1) := by decide +kernel
theorem dX4_setEnabled_23 : decode cX4_setEnabled 23 = .ok (.bipush 10, 2) := by decide +kernel
theorem dX4_setEnabled_25 : decode cX4_setEnabled 25 = .ok (.invokestatic 26, 3) := by decide +kernel
theorem dX4_setEnabled_28 : decode cX4_setEnabled 28 = .ok (.iconst 0, 1) := by decide +kernel
theorem dX4_setEnabled_29 : decode cX4_setEnabled 29 = .ok (.iastore, 1) := by decide +kernel
theorem dX4_setEnabled_30 : decode cX4_setEnabled 30 = .ok (.aload_n 0, 1) := by decide +kernel
theorem dX4_setEnabled_31 : decode cX4_setEnabled 31 = .ok (.iload_n 1, 1) := by decide +kernel
theorem dX4_setEnabled_32 : decode cX4_setEnabled 32 = .ok (.iconst 0, 1) := by decide +kernel
theorem dX4_setEnabled_33 : decode cX4_setEnabled 33 = .ok (.invokestatic 26, 3) := by decide +kernel
theorem dX4_setEnabled_36 : decode cX4_setEnabled 36 = .ok (.iload_n 2, 1) := by decide +kernel
theorem dX4_setEnabled_37 : decode cX4_setEnabled 37 = .ok (.ifCond .eq 7, 3) := by decide +kernel
theorem dX4_setEnabled_40 : decode cX4_setEnabled 40 = .ok (.iconst 1, 1) := by decide +kernel
theorem dX4_setEnabled_41 : decode cX4_setEnabled 41 = .ok (.goto 4, 3) := by decide +kernel
theorem dX4_setEnabled_44 : decode cX4_setEnabled 44 = .ok (.iconst 0, 1) := by decide +kernel
theorem dX4_setEnabled_45 : decode cX4_setEnabled 45 = .ok (.invokevirtual 38, 3) := by decide +kernel
theorem dX4_setEnabled_48 : decode cX4_setEnabled 48 = .ok (.ireturn, 1) := by decide +kernel
theorem dX4_setPriority_0 : decode cX4_setPriority 0 = .ok (.iload_n 1, 1) := by decide +kernel
theorem dX4_setPriority_1 : decode cX4_setPriority 1 = .ok (.invokestatic 48, 3) := by decide +kernel
theorem dX4_setPriority_4 : decode cX4_setPriority 4 = .ok (.ifCond .ne 5, 3) := by decide +kernel
theorem dX4_setPriority_7 : decode cX4_setPriority 7 = .ok (.iconst (-1), 1) := by decide +kernel
theorem dX4_setPriority_8 : decode cX4_setPriority 8 = .ok (.ireturn, 1) := by decide +kernel
theorem dX4_setPriority_9 : decode cX4_setPriority 9 = .ok (.iload_n 2, 1) := by decide +kernel
theorem dX4_setPriority_10 : decode cX4_setPriority 10 = .ok (.iconst 0, 1) := by decide +kernel
theorem dX4_setPriority_11 : decode cX4_setPriority 11 = .ok (.iconst 2, 1) := by decide +kernel
theorem dX4_setPriority_12 : decode cX4_setPriority 12 = .ok (.invokestatic 30, 3) := by decide +kernel
theorem dX4_setPriority_15 : decode cX4_setPriority 15 = .ok (.ifCond .eq 16, 3) := by decide +kernel
theorem dX4_setPriority_18 : decode cX4_setPriority 18 = .ok (.aload_n 0, 1) := by decide +kernel
theorem dX4_setPriority_19 : decode cX4_setPriority 19 = .ok (.iload_n 1, 1) := by decide +kernel
theorem dX4_setPriority_20 : decode cX4_setPriority 20 = .ok (.iconst 1, 1) := by decide +kernel
theorem dX4_setPriority_21 : decode cX4_setPriority 21 = .ok (.invokestatic 26, 3) := by decide +kernel
theorem dX4_setPriority_24 : decode cX4_setPriority 24 = .ok (.iload_n 2, 1) := by decide +kernel
theorem dX4_setPriority_25 : decode cX4_setPriority 25 = .ok (.invokevirtual 38, 3) := by decide +kernel
theorem dX4_setPriority_28 : decode cX4_setPriority 28 = .ok (.goto 5, 3) := by decide +kernel
theorem dX4_setPriority_31 : decode cX4_setPriority 31 = .ok (.bipush (-2), 2) := by decide +kernel
theorem dX4_setPriority_33 : decode cX4_setPriority 33 = .ok (.ireturn, 1) := by decide +kernel
theorem dX4_classBy_0 : decode cX4_classBy 0 = .ok (.iload_n 0, 1) := by decide +kernel
theorem dX4_classBy_1 : decode cX4_classBy 1 = .ok (.iconst 0, 1) := by decide +kernel
theorem dX4_classBy_2 : decode cX4_classBy 2 = .ok (.iconst 4, 1) := by decide +kernel
theorem dX4_classBy_3 : decode cX4_classBy 3 = .ok (.invokestatic 30, 3) := by decide +kernel
theorem dX4_classBy_6 : decode cX4_classBy 6 = .ok (.ifCond .eq 5, 3) := by decide +kernel
theorem dX4_classBy_9 : decode cX4_classBy 9 = .ok (.iconst 0, 1) := by decide +kernel
theorem dX4_classBy_10 : decode cX4_classBy 10 = .ok (.ireturn, 1) := by decide +kernel
theorem dX4_classBy_11 : decode cX4_classBy 11 = .ok (.iload_n 0, 1) := by decide +kernel
theorem dX4_classBy_12 : decode cX4_classBy 12 = .ok (.bipush 9, 2) := by decide +kernel
theorem dX4_classBy_14 : decode cX4_classBy 14 = .ok (.bipush 12, 2) := by decide +kernel
theorem dX4_classBy_16 : decode cX4_classBy 16 = .ok (.invokestatic 30, 3) := by decide +kernel
theorem dX4_classBy_19 : decode cX4_classBy 19 = .ok (.ifCond .eq 5, 3) := by decide +kernel
theorem dX4_classBy_22 : decode cX4_classBy 22 = .ok (.iconst 1, 1) := by decide +kernel
theorem dX4_classBy_23 : decode cX4_classBy 23 = .ok (.ireturn, 1) := by decide +kernel
theorem dX4_classBy_24 : decode cX4_classBy 24 = .ok (.iload_n 0, 1) := by decide +kernel
theorem dX4_classBy_25 : decode cX4_classBy 25 = .ok (.bipush 17, 2) := by decide +kernel
theorem dX4_classBy_27 : decode cX4_classBy 27 = .ok (.bipush 20, 2) := by decide +kernel
theorem dX4_classBy_29 : decode cX4_classBy 29 = .ok (.invokestatic 30, 3) := by decide +kernel
theorem dX4_classBy_32 : decode cX4_classBy 32 = .ok (.ifCond .eq 5, 3) := by decide +kernel
theorem dX4_classBy_35 : decode cX4_classBy 35 = .ok (.iconst 2, 1) := by decide +kernel
theorem dX4_classBy_36 : decode cX4_classBy 36 = .ok (.ireturn, 1) := by decide +kernel
theorem dX4_classBy_37 : decode cX4_classBy 37 = .ok (.iload_n 0, 1) := by decide +kernel
theorem dX4_classBy_38 : decode cX4_classBy 38 = .ok (.bipush 26, 2) := by decide +kernel
theorem dX4_classBy_40 : decode cX4_classBy 40 = .ok (.bipush 30, 2) := by decide +kernel
theorem dX4_classBy_42 : decode cX4_classBy 42 = .ok (.invokestatic 30, 3) := by decide +kernel
theorem dX4_classBy_45 : decode cX4_classBy 45 = .ok (.ifCond .eq 5, 3) := by decide +kernel
theorem dX4_classBy_48 : decode cX4_classBy 48 = .ok (.iconst 3, 1) := by decide +kernel
theorem dX4_classBy_49 : decode cX4_classBy 49 = .ok (.ireturn, 1) := by decide +kernel
theorem dX4_classBy_50 : decode cX4_classBy 50 = .ok (.iload_n 0, 1) := by decide +kernel
theorem dX4_classBy_51 : decode cX4_classBy 51 = .ok (.bipush 36, 2) := by decide +kernel
theorem dX4_classBy_53 : decode cX4_classBy 53 = .ok (.bipush 44, 2) := by decide +kernel
theorem dX4_classBy_55 : decode cX4_classBy 55 = .ok (.invokestatic 30, 3) := by decide +kernel
theorem dX4_classBy_58 : decode cX4_classBy 58 = .ok (.ifCond .eq 7, 3) := by decide +kernel
theorem dX4_classBy_61 : decode cX4_classBy 61 = .ok (.iconst 4, 1) := by decide +kernel
theorem dX4_classBy_62 : decode cX4_classBy 62 = .ok (.goto 5, 3) := by decide +kernel
theorem dX4_classBy_65 : decode cX4_classBy 65 = .ok (.bipush (-6), 2) := by decide +kernel
theorem dX4_classBy_67 : decode cX4_classBy 67 = .ok (.ireturn, 1) := by decide +kernel
theorem dX4_maximumOf_0 : decode cX4_maximumOf 0 = .ok (.iload_n 0, 1) := by decide +kernel
theorem dX4_maximumOf_1 : decode cX4_maximumOf 1 = .ok (.tableswitch 41 0 3 #[31, 35, 38, 31], 31) := by decide +kernel
theorem dX4_maximumOf_32 : decode cX4_maximumOf 32 = .ok (.sipush 154, 3) := by decide +kernel
theorem dX4_maximumOf_35 : decode cX4_maximumOf 35 = .ok (.ireturn, 1) := by decide +kernel
theorem dX4_maximumOf_36 : decode cX4_maximumOf 36 = .ok (.bipush 40, 2) := by decide +kernel
theorem dX4_maximumOf_38 : decode cX4_maximumOf 38 = .ok (.ireturn, 1) := by decide +kernel
theorem dX4_maximumOf_39 : decode cX4_maximumOf 39 = .ok (.bipush 70, 2) := by decide +kernel
theorem dX4_maximumOf_41 : decode cX4_maximumOf 41 = .ok (.ireturn, 1) := by decide +kernel
theorem dX4_maximumOf_42 : decode cX4_maximumOf 42 = .ok (.sipush 300, 3) := by decide +kernel
theorem dX4_maximumOf_45 : decode cX4_maximumOf 45 = .ok (.ireturn, 1) := by decide +kernel
theorem dX4_isConnected_0 : decode cX4_isConnected 0 = .ok (.aload_n 0, 1) := by decide +kernel
theorem dX4_isConnected_1 : decode cX4_isConnected 1 = .ok (.iload_n 1, 1) := by decide +kernel
theorem dX4_isConnected_2 : decode cX4_isConnected 2 = .ok (.iconst 2, 1) := by decide +kernel
theorem dX4_isConnected_3 : decode cX4_isConnected 3 = .ok (.invokevirtual 45, 3) := by decide +kernel
theorem dX4_isConnected_6 : decode cX4_isConnected 6 = .ok (.iconst 1, 1) := by decide +kernel
theorem dX4_isConnected_7 : decode cX4_isConnected 7 = .ok (.if_icmp .ne 7, 3) := by decide +kernel
theorem dX4_isConnected_10 : decode cX4_isConnected 10 = .ok (.iconst 1, 1) := by decide +kernel
theorem dX4_isConnected_11 : decode cX4_isConnected 11 = .ok (.goto 4, 3) := by decide +kernel
theorem dX4_isConnected_14 : decode cX4_isConnected 14 = .ok (.iconst 0, 1) := by decide +kernel
theorem dX4_isConnected_15 : decode cX4_isConnected 15 = .ok (.ireturn, 1) := by decide +kernel
theorem dX4_classOf_0 : decode cX4_classOf 0 = .ok (.aload_n 0, 1) := by decide +kernel
theorem dX4_classOf_1 : decode cX4_classOf 1 = .ok (.iload_n 1, 1) := by decide +kernel
theorem dX4_classOf_2 : decode cX4_classOf 2 = .ok (.invokevirtual 55, 3) := by decide +kernel
theorem dX4_classOf_5 : decode cX4_classOf 5 = .ok (.ifCond .eq 15, 3) := by decide +kernel
theorem dX4_classOf_8 : decode cX4_classOf 8 = .ok (.aload_n 0, 1) := by decide +kernel
theorem dX4_classOf_9 : decode cX4_classOf 9 = .ok (.iload_n 1, 1) := by decide +kernel
theorem dX4_classOf_10 : decode cX4_classOf 10 = .ok (.iconst 5, 1) := by decide +kernel
theorem dX4_classOf_11 : decode cX4_classOf 11 = .ok (.invokevirtual 45, 3) := by decide +kernel
theorem dX4_classOf_14 : decode cX4_classOf 14 = .ok (.invokestatic 58, 3) := by decide +kernel
theorem dX4_classOf_17 : decode cX4_classOf 17 = .ok (.goto 5, 3) := by decide +kernel
theorem dX4_classOf_20 : decode cX4_classOf 20 = .ok (.bipush (-6), 2) := by decide +kernel
theorem dX4_classOf_22 : decode cX4_classOf 22 = .ok (.ireturn, 1) := by decide +kernel
theorem dX4_connect_0 : decode cX4_connect 0 = .ok (.iload_n 1, 1) := by decide +kernel
theorem dX4_connect_1 : decode cX4_connect 1 = .ok (.invokestatic 48, 3) := by decide +kernel
theorem dX4_connect_4 : decode cX4_connect 4 = .ok (.ifCond .ne 5, 3) := by decide +kernel
theorem dX4_connect_7 : decode cX4_connect 7 = .ok (.iconst (-1), 1) := by decide +kernel
theorem dX4_connect_8 : decode cX4_connect 8 = .ok (.ireturn, 1) := by decide +kernel
theorem dX4_connect_9 : decode cX4_connect 9 = .ok (.iload_n 2, 1) := by decide +kernel
theorem dX4_connect_10 : decode cX4_connect 10 = .ok (.iconst 1, 1) := by decide +kernel
theorem dX4_connect_11 : decode cX4_connect 11 = .ok (.sipush 999, 3) := by decide +kernel
theorem dX4_connect_14 : decode cX4_connect 14 = .ok (.invokestatic 30, 3) := by decide +kernel
theorem dX4_connect_17 : decode cX4_connect 17 = .ok (.ifCond .eq 36, 3) := by decide +kernel
theorem dX4_connect_20 : decode cX4_connect 20 = .ok (.iload_n 3, 1) := by decide +kernel
theorem dX4_connect_21 : decode cX4_connect 21 = .ok (.iconst 0, 1) := by decide +kernel
theorem dX4_connect_22 : decode cX4_connect 22 = .ok (.bipush 99, 2) := by decide +kernel
theorem dX4_connect_24 : decode cX4_connect 24 = .ok (.invokestatic 30, 3) := by decide +kernel
theorem dX4_connect_27 : decode cX4_connect 27 = .ok (.ifCond .eq 26, 3) := by decide +kernel
theorem dX4_connect_30 : decode cX4_connect 30 = .ok (.iload 4, 2) := by decide +kernel
theorem dX4_connect_32 : decode cX4_connect 32 = .ok (.iconst 0, 1) := by decide +kernel
theorem dX4_connect_33 : decode cX4_connect 33 = .ok (.bipush 60, 2) := by decide +kernel
theorem dX4_connect_35 : decode cX4_connect 35 = .ok (.invokestatic 30, 3) := by decide +kernel
theorem dX4_connect_38 : decode cX4_connect 38 = .ok (.ifCond .eq 15, 3) := by decide +kernel
theorem dX4_connect_41 : decode cX4_connect 41 = .ok (.iload 5, 2) := by decide +kernel
theorem dX4_connect_43 : decode cX4_connect 43 = .ok (.iconst 0, 1) := by decide +kernel
theorem dX4_connect_44 : decode cX4_connect 44 = .ok (.sipush 999, 3) := by decide +kernel
theorem dX4_connect_47 : decode cX4_connect 47 = .ok (.invokestatic 30, 3) := by decide +kernel
theorem dX4_connect_50 : decode cX4_connect 50 = .ok (.ifCond .ne 6, 3) := by decide +kernel
theorem dX4_connect_53 : decode cX4_connect 53 = .ok (.bipush (-2), 2) := by decide +kernel
theorem dX4_connect_55 : decode cX4_connect 55 = .ok (.ireturn, 1) := by decide +kernel
theorem dX4_connect_56 : decode cX4_connect 56 = .ok (.aload_n 0, 1) := by decide +kernel
theorem dX4_connect_57 : decode cX4_connect 57 = .ok (.iload_n 1, 1) := by decide +kernel
theorem dX4_connect_58 : decode cX4_connect 58 = .ok (.invokevirtual 55, 3) := by decide +kernel
theorem dX4_connect_61 : decode cX4_connect 61 = .ok (.ifCond .eq 6, 3) := by decide +kernel
theorem dX4_connect_64 : decode cX4_connect 64 = .ok (.bipush (-3), 2) := by decide +kernel
theorem dX4_connect_66 : decode cX4_connect 66 = .ok (.ireturn, 1) := by decide +kernel
theorem dX4_connect_67 : decode cX4_connect 67 = .ok (.iload 4, 2) := by decide +kernel
theorem dX4_connect_69 : decode cX4_connect 69 = .ok (.invokestatic 58, 3) := by decide +kernel
theorem dX4_connect_72 : decode cX4_connect 72 = .ok (.istore 6, 2) := by decide +kernel
theorem dX4_connect_74 : decode cX4_connect 74 = .ok (.aload_n 0, 1) := by decide +kernel
theorem dX4_connect_75 : decode cX4_connect 75 = .ok (.getfield 7, 3) := by decide +kernel
theorem dX4_connect_78 : decode cX4_connect 78 = .ok (.iload_n 1, 1) := by decide +kernel
theorem dX4_connect_79 : decode cX4_connect 79 = .ok (.iconst 2, 1) := by decide +kernel
theorem dX4_connect_80 : decode cX4_connect 80 = .ok (.invokestatic 26, 3) := by decide +kernel
theorem dX4_connect_83 : decode cX4_connect 83 = .ok (.iconst 1, 1) := by decide +kernel
theorem dX4_connect_84 : decode cX4_connect 84 = .ok (.iastore, 1) := by decide +kernel
theorem dX4_connect_85 : decode cX4_connect 85 = .ok (.aload_n 0, 1) := by decide +kernel
theorem dX4_connect_86 : decode cX4_connect 86 = .ok (.getfield 7, 3) := by decide +kernel
theorem dX4_connect_89 : decode cX4_connect 89 = .ok (.iload_n 1, 1) := by decide +kernel
theorem dX4_connect_90 : decode cX4_connect 90 = .ok (.iconst 3, 1) := by decide +kernel
theorem dX4_connect_91 : decode cX4_connect 91 = .ok (.invokestatic 26, 3) := by decide +kernel
theorem dX4_connect_94 : decode cX4_connect 94 = .ok (.iload_n 2, 1) := by decide +kernel
theorem dX4_connect_95 : decode cX4_connect 95 = .ok (.iastore, 1) := by decide +kernel
theorem dX4_connect_96 : decode cX4_connect 96 = .ok (.aload_n 0, 1) := by decide +kernel
theorem dX4_connect_97 : decode cX4_connect 97 = .ok (.getfield 7, 3) := by decide +kernel
theorem dX4_connect_100 : decode cX4_connect 100 = .ok (.iload_n 1, 1) := by decide +kernel
theorem dX4_connect_101 : decode cX4_connect 101 = .ok (.iconst 4, 1) := by decide +kernel
theorem dX4_connect_102 : decode cX4_connect 102 = .ok (.invokestatic 26, 3) := by decide +kernel
theorem dX4_connect_105 : decode cX4_connect 105 = .ok (.iload_n 3, 1) := by decide +kernel
theorem dX4_connect_106 : decode cX4_connect 106 = .ok (.iastore, 1) := by decide +kernel
theorem dX4_connect_107 : decode cX4_connect 107 = .ok (.aload_n 0, 1) := by decide +kernel
theorem dX4_connect_108 : decode cX4_connect 108 = .ok (.getfield 7, 3) := by decide +kernel
theorem dX4_connect_111 : decode cX4_connect 111 = .ok (.iload_n 1, 1) := by decide +kernel
theorem dX4_connect_112 : decode cX4_connect 112 = .ok (.iconst 5, 1) := by decide +kernel
theorem dX4_connect_113 : decode cX4_connect 113 = .ok (.invokestatic 26, 3) := by decide +kernel
theorem dX4_connect_116 : decode cX4_connect 116 = .ok (.iload 4, 2) := by decide +kernel
theorem dX4_connect_118 : decode cX4_connect 118 = .ok (.iastore, 1) := by decide +kernel
theorem dX4_connect_119 : decode cX4_connect 119 = .ok (.aload_n 0, 1) := by decide +kernel
theorem dX4_connect_120 : decode cX4_connect 120 = .ok (.getfield 7, 3) := by decide +kernel
theorem dX4_connect_123 : decode cX4_connect 123 = .ok (.iload_n 1, 1) := by decide +kernel
theorem dX4_connect_124 : decode cX4_connect 124 = .ok (.bipush 6, 2) := by decide +kernel
theorem dX4_connect_126 : decode cX4_connect 126 = .ok (.invokestatic 26, 3) := by decide +kernel
theorem dX4_connect_129 : decode cX4_connect 129 = .ok (.iload 5, 2) := by decide +kernel
theorem dX4_connect_131 : decode cX4_connect 131 = .ok (.iastore, 1) := by decide +kernel
theorem dX4_connect_132 : decode cX4_connect 132 = .ok (.aload_n 0, 1) := by decide +kernel
theorem dX4_connect_133 : decode cX4_connect 133 = .ok (.getfield 7, 3) := by decide +kernel
theorem dX4_connect_136 : decode cX4_connect 136 = .ok (.iload_n 1, 1) := by decide +kernel
theorem dX4_connect_137 : decode cX4_connect 137 = .ok (.bipush 7, 2) := by decide +kernel
theorem dX4_connect_139 : decode cX4_connect 139 = .ok (.invokestatic 26, 3) := by decide +kernel
theorem dX4_connect_142 : decode cX4_connect 142 = .ok (.iload 6, 2) := by decide +kernel
theorem dX4_connect_144 : decode cX4_connect 144 = .ok (.ifCond .ge 7, 3) := by decide +kernel
theorem dX4_connect_147 : decode cX4_connect 147 = .ok (.iconst 0, 1) := by decide +kernel
theorem dX4_connect_148 : decode cX4_connect 148 = .ok (.goto 8, 3) := by decide +kernel
theorem dX4_connect_151 : decode cX4_connect 151 = .ok (.iload 6, 2) := by decide +kernel
theorem dX4_connect_153 : decode cX4_connect 153 = .ok (.invokestatic 62, 3) := by decide +kernel
theorem dX4_connect_156 : decode cX4_connect 156 = .ok (.iastore, 1) := by decide +kernel
theorem dX4_connect_157 : decode cX4_connect 157 = .ok (.iload 6, 2) := by decide +kernel
theorem dX4_connect_159 : decode cX4_connect 159 = .ok (.ireturn, 1) := by decide +kernel
theorem dX4_disconnect_0 : decode cX4_disconnect 0 = .ok (.iload_n 1, 1) := by decide +kernel
theorem dX4_disconnect_1 : decode cX4_disconnect 1 = .ok (.invokestatic 48, 3) := by decide +kernel
theorem dX4_disconnect_4 : decode cX4_disconnect 4 = .ok (.ifCond .ne 5, 3) := by decide +kernel
theorem dX4_disconnect_7 : decode cX4_disconnect 7 = .ok (.iconst (-1), 1) := by decide +kernel
theorem dX4_disconnect_8 : decode cX4_disconnect 8 = .ok (.ireturn, 1) := by decide +kernel
theorem dX4_disconnect_9 : decode cX4_disconnect 9 = .ok (.aload_n 0, 1) := by decide +kernel
theorem dX4_disconnect_10 : decode cX4_disconnect 10 = .ok (.iload_n 1, 1) := by decide +kernel
theorem dX4_disconnect_11 : decode cX4_disconnect 11 = .ok (.invokevirtual 55, 3) := by decide +kernel
theorem dX4_disconnect_14 : decode cX4_disconnect 14 = .ok (.ifCond .ne 6, 3) := by decide +kernel
theorem dX4_disconnect_17 : decode cX4_disconnect 17 = .ok (.bipush (-3), 2) := by decide +kernel
theorem dX4_disconnect_19 : decode cX4_disconnect 19 = .ok (.ireturn, 1) := by decide +kernel
theorem dX4_disconnect_20 : decode cX4_disconnect 20 = .ok (.aload_n 0, 1) := by decide +kernel
theorem dX4_disconnect_21 : decode cX4_disconnect 21 = .ok (.iload_n 1, 1) := by decide +kernel
theorem dX4_disconnect_22 : decode cX4_disconnect 22 = .ok (.invokevirtual 65, 3) := by decide +kernel
theorem dX4_disconnect_25 : decode cX4_disconnect 25 = .ok (.ifCond .eq 7, 3) := by decide +kernel
theorem dX4_disconnect_28 : decode cX4_disconnect 28 = .ok (.iconst 1, 1) := by decide +kernel
theorem dX4_disconnect_29 : decode cX4_disconnect 29 = .ok (.goto 4, 3) := by decide +kernel
theorem dX4_disconnect_32 : decode cX4_disconnect 32 = .ok (.iconst 0, 1) := by decide +kernel
theorem dX4_disconnect_33 : decode cX4_disconnect 33 = .ok (.istore_n 2, 1) := by decide +kernel
theorem dX4_disconnect_34 : decode cX4_disconnect 34 = .ok (.aload_n 0, 1) := by decide +kernel
theorem dX4_disconnect_35 : decode cX4_disconnect 35 = .ok (.iload_n 1, 1) := by decide +kernel
theorem dX4_disconnect_36 : decode cX4_disconnect 36 = .ok (.invokevirtual 51, 3) := by decide +kernel
theorem dX4_disconnect_39 : decode cX4_disconnect 39 = .ok (.iconst 2, 1) := by decide +kernel
theorem dX4_disconnect_40 : decode cX4_disconnect 40 = .ok (.istore_n 3, 1) := by decide +kernel
theorem dX4_disconnect_41 : decode cX4_disconnect 41 = .ok (.iload_n 3, 1) := by decide +kernel
theorem dX4_disconnect_42 : decode cX4_disconnect 42 = .ok (.bipush 7, 2) := by decide +kernel
theorem dX4_disconnect_44 : decode cX4_disconnect 44 = .ok (.if_icmp .gt 20, 3) := by decide +kernel
theorem dX4_disconnect_47 : decode cX4_disconnect 47 = .ok (.aload_n 0, 1) := by decide +kernel
theorem dX4_disconnect_48 : decode cX4_disconnect 48 = .ok (.getfield 7, 3) := by decide +kernel
theorem dX4_disconnect_51 : decode cX4_disconnect 51 = .ok (.iload_n 1, 1) := by decide +kernel
theorem dX4_disconnect_52 : decode cX4_disconnect 52 = .ok (.iload_n 3, 1) := by decide +kernel
theorem dX4_disconnect_53 : decode cX4_disconnect 53 = .ok (.invokestatic 26, 3) := by decide +kernel
theorem dX4_disconnect_56 : decode cX4_disconnect 56 = .ok (.iconst 0, 1) := by decide +kernel
theorem dX4_disconnect_57 : decode cX4_disconnect 57 = .ok (.iastore, 1) := by decide +kernel
theorem dX4_disconnect_58 : decode cX4_disconnect 58 = .ok (.iinc 3 1, 3) := by decide +kernel
theorem dX4_disconnect_61 : decode cX4_disconnect 61 = .ok (.goto (-20), 3) := by decide +kernel
theorem dX4_disconnect_64 : decode cX4_disconnect 64 = .ok (.aload_n 0, 1) := by decide +kernel
theorem dX4_disconnect_65 : decode cX4_disconnect 65 = .ok (.getfield 7, 3) := by decide +kernel
theorem dX4_disconnect_68 : decode cX4_disconnect 68 = .ok (.iload_n 1, 1) := by decide +kernel
theorem dX4_disconnect_69 : decode cX4_disconnect 69 = .ok (.bipush 10, 2) := by decide +kernel
theorem dX4_disconnect_71 : decode cX4_disconnect 71 = .ok (.invokestatic 26, 3) := by decide +kernel
theorem dX4_disconnect_74 : decode cX4_disconnect 74 = .ok (.iconst 0, 1) := by decide +kernel
theorem dX4_disconnect_75 : decode cX4_disconnect 75 = .ok (.iastore, 1) := by decide +kernel
theorem dX4_disconnect_76 : decode cX4_disconnect 76 = .ok (.iload_n 2, 1) := by decide +kernel
theorem dX4_disconnect_77 : decode cX4_disconnect 77 = .ok (.ireturn, 1) := by decide +kernel
theorem dX4_setLoad_0 : decode cX4_setLoad 0 = .ok (.iload_n 1, 1) := by decide +kernel
theorem dX4_setLoad_1 : decode cX4_setLoad 1 = .ok (.invokestatic 48, 3) := by decide +kernel
theorem dX4_setLoad_4 : decode cX4_setLoad 4 = .ok (.ifCond .ne 5, 3) := by decide +kernel
theorem dX4_setLoad_7 : decode cX4_setLoad 7 = .ok (.iconst (-1), 1) := by decide +kernel
theorem dX4_setLoad_8 : decode cX4_setLoad 8 = .ok (.ireturn, 1) := by decide +kernel
theorem dX4_setLoad_9 : decode cX4_setLoad 9 = .ok (.iload_n 2, 1) := by decide +kernel
theorem dX4_setLoad_10 : decode cX4_setLoad 10 = .ok (.iconst 0, 1) := by decide +kernel
theorem dX4_setLoad_11 : decode cX4_setLoad 11 = .ok (.sipush 999, 3) := by decide +kernel
theorem dX4_setLoad_14 : decode cX4_setLoad 14 = .ok (.invokestatic 30, 3) := by decide +kernel
theorem dX4_setLoad_17 : decode cX4_setLoad 17 = .ok (.ifCond .ne 6, 3) := by decide +kernel
theorem dX4_setLoad_20 : decode cX4_setLoad 20 = .ok (.bipush (-2), 2) := by decide +kernel
theorem dX4_setLoad_22 : decode cX4_setLoad 22 = .ok (.ireturn, 1) := by decide +kernel
theorem dX4_setLoad_23 : decode cX4_setLoad 23 = .ok (.aload_n 0, 1) := by decide +kernel
theorem dX4_setLoad_24 : decode cX4_setLoad 24 = .ok (.iload_n 1, 1) := by decide +kernel
theorem dX4_setLoad_25 : decode cX4_setLoad 25 = .ok (.invokevirtual 55, 3) := by decide +kernel
theorem dX4_setLoad_28 : decode cX4_setLoad 28 = .ok (.ifCond .eq 17, 3) := by decide +kernel
theorem dX4_setLoad_31 : decode cX4_setLoad 31 = .ok (.aload_n 0, 1) := by decide +kernel
theorem dX4_setLoad_32 : decode cX4_setLoad 32 = .ok (.iload_n 1, 1) := by decide +kernel
theorem dX4_setLoad_33 : decode cX4_setLoad 33 = .ok (.bipush 6, 2) := by decide +kernel
theorem dX4_setLoad_35 : decode cX4_setLoad 35 = .ok (.invokestatic 26, 3) := by decide +kernel
theorem dX4_setLoad_38 : decode cX4_setLoad 38 = .ok (.iload_n 2, 1) := by decide +kernel
theorem dX4_setLoad_39 : decode cX4_setLoad 39 = .ok (.invokevirtual 38, 3) := by decide +kernel
theorem dX4_setLoad_42 : decode cX4_setLoad 42 = .ok (.goto 5, 3) := by decide +kernel
theorem dX4_setLoad_45 : decode cX4_setLoad 45 = .ok (.bipush (-3), 2) := by decide +kernel
theorem dX4_setLoad_47 : decode cX4_setLoad 47 = .ok (.ireturn, 1) := by decide +kernel
theorem dX4_setRequest_0 : decode cX4_setRequest 0 = .ok (.iload_n 1, 1) := by decide +kernel
theorem dX4_setRequest_1 : decode cX4_setRequest 1 = .ok (.invokestatic 48, 3) := by decide +kernel
theorem dX4_setRequest_4 : decode cX4_setRequest 4 = .ok (.ifCond .ne 5, 3) := by decide +kernel
theorem dX4_setRequest_7 : decode cX4_setRequest 7 = .ok (.iconst (-1), 1) := by decide +kernel
theorem dX4_setRequest_8 : decode cX4_setRequest 8 = .ok (.ireturn, 1) := by decide +kernel
theorem dX4_setRequest_9 : decode cX4_setRequest 9 = .ok (.aload_n 0, 1) := by decide +kernel
theorem dX4_setRequest_10 : decode cX4_setRequest 10 = .ok (.iload_n 1, 1) := by decide +kernel
theorem dX4_setRequest_11 : decode cX4_setRequest 11 = .ok (.invokevirtual 68, 3) := by decide +kernel
theorem dX4_setRequest_14 : decode cX4_setRequest 14 = .ok (.ifCond .ge 6, 3) := by decide +kernel
theorem dX4_setRequest_17 : decode cX4_setRequest 17 = .ok (.bipush (-3), 2) := by decide +kernel
theorem dX4_setRequest_19 : decode cX4_setRequest 19 = .ok (.ireturn, 1) := by decide +kernel
theorem dX4_setRequest_20 : decode cX4_setRequest 20 = .ok (.iload_n 2, 1) := by decide +kernel
theorem dX4_setRequest_21 : decode cX4_setRequest 21 = .ok (.iconst 1, 1) := by decide +kernel
theorem dX4_setRequest_22 : decode cX4_setRequest 22 = .ok (.aload_n 0, 1) := by decide +kernel
theorem dX4_setRequest_23 : decode cX4_setRequest 23 = .ok (.iload_n 1, 1) := by decide +kernel
theorem dX4_setRequest_24 : decode cX4_setRequest 24 = .ok (.invokevirtual 68, 3) := by decide +kernel
theorem dX4_setRequest_27 : decode cX4_setRequest 27 = .ok (.invokestatic 62, 3) := by decide +kernel
theorem dX4_setRequest_30 : decode cX4_setRequest 30 = .ok (.invokestatic 30, 3) := by decide +kernel
theorem dX4_setRequest_33 : decode cX4_setRequest 33 = .ok (.ifCond .ne 6, 3) := by decide +kernel
theorem dX4_setRequest_36 : decode cX4_setRequest 36 = .ok (.bipush (-2), 2) := by decide +kernel
theorem dX4_setRequest_38 : decode cX4_setRequest 38 = .ok (.ireturn, 1) := by decide +kernel
theorem dX4_setRequest_39 : decode cX4_setRequest 39 = .ok (.iload_n 2, 1) := by decide +kernel
theorem dX4_setRequest_40 : decode cX4_setRequest 40 = .ok (.aload_n 0, 1) := by decide +kernel
theorem dX4_setRequest_41 : decode cX4_setRequest 41 = .ok (.iload_n 1, 1) := by decide +kernel
theorem dX4_setRequest_42 : decode cX4_setRequest 42 = .ok (.bipush 8, 2) := by decide +kernel
theorem dX4_setRequest_44 : decode cX4_setRequest 44 = .ok (.invokevirtual 45, 3) := by decide +kernel
theorem dX4_setRequest_47 : decode cX4_setRequest 47 = .ok (.isub, 1) := by decide +kernel
theorem dX4_setRequest_48 : decode cX4_setRequest 48 = .ok (.istore_n 3, 1) := by decide +kernel
theorem dX4_setRequest_49 : decode cX4_setRequest 49 = .ok (.aload_n 0, 1) := by decide +kernel
theorem dX4_setRequest_50 : decode cX4_setRequest 50 = .ok (.iload_n 1, 1) := by decide +kernel
theorem dX4_setRequest_51 : decode cX4_setRequest 51 = .ok (.invokevirtual 65, 3) := by decide +kernel
theorem dX4_setRequest_54 : decode cX4_setRequest 54 = .ok (.ifCond .eq 18, 3) := by decide +kernel
theorem dX4_setRequest_57 : decode cX4_setRequest 57 = .ok (.iload_n 3, 1) := by decide +kernel
theorem dX4_setRequest_58 : decode cX4_setRequest 58 = .ok (.ifCond .le 14, 3) := by decide +kernel
theorem dX4_setRequest_61 : decode cX4_setRequest 61 = .ok (.iload_n 3, 1) := by decide +kernel
theorem dX4_setRequest_62 : decode cX4_setRequest 62 = .ok (.aload_n 0, 1) := by decide +kernel
theorem dX4_setRequest_63 : decode cX4_setRequest 63 = .ok (.invokevirtual 71, 3) := by decide +kernel
theorem dX4_setRequest_66 : decode cX4_setRequest 66 = .ok (.if_icmp .le 6, 3) := by decide +kernel
theorem dX4_setRequest_69 : decode cX4_setRequest 69 = .ok (.bipush (-5), 2) := by decide +kernel
theorem dX4_setRequest_71 : decode cX4_setRequest 71 = .ok (.ireturn, 1) := by decide +kernel
theorem dX4_setRequest_72 : decode cX4_setRequest 72 = .ok (.aload_n 0, 1) := by decide +kernel
theorem dX4_setRequest_73 : decode cX4_setRequest 73 = .ok (.iload_n 1, 1) := by decide +kernel
theorem dX4_setRequest_74 : decode cX4_setRequest 74 = .ok (.invokevirtual 65, 3) := by decide +kernel
theorem dX4_setRequest_77 : decode cX4_setRequest 77 = .ok (.ifCond .eq 15, 3) := by decide +kernel
theorem dX4_setRequest_80 : decode cX4_setRequest 80 = .ok (.aload_n 0, 1) := by decide +kernel
theorem dX4_setRequest_81 : decode cX4_setRequest 81 = .ok (.getfield 7, 3) := by decide +kernel
theorem dX4_setRequest_84 : decode cX4_setRequest 84 = .ok (.iload_n 1, 1) := by decide +kernel
theorem dX4_setRequest_85 : decode cX4_setRequest 85 = .ok (.bipush 8, 2) := by decide +kernel
theorem dX4_setRequest_87 : decode cX4_setRequest 87 = .ok (.invokestatic 26, 3) := by decide +kernel
theorem dX4_setRequest_90 : decode cX4_setRequest 90 = .ok (.iload_n 2, 1) := by decide +kernel
theorem dX4_setRequest_91 : decode cX4_setRequest 91 = .ok (.iastore, 1) := by decide +kernel
theorem dX4_setRequest_92 : decode cX4_setRequest 92 = .ok (.aload_n 0, 1) := by decide +kernel
theorem dX4_setRequest_93 : decode cX4_setRequest 93 = .ok (.iload_n 1, 1) := by decide +kernel
theorem dX4_setRequest_94 : decode cX4_setRequest 94 = .ok (.bipush 7, 2) := by decide +kernel
theorem dX4_setRequest_96 : decode cX4_setRequest 96 = .ok (.invokestatic 26, 3) := by decide +kernel
theorem dX4_setRequest_99 : decode cX4_setRequest 99 = .ok (.iload_n 2, 1) := by decide +kernel
theorem dX4_setRequest_100 : decode cX4_setRequest 100 = .ok (.invokevirtual 38, 3) := by decide +kernel
theorem dX4_setRequest_103 : decode cX4_setRequest 103 = .ok (.ireturn, 1) := by decide +kernel
theorem dX4_detects_0 : decode cX4_detects 0 = .ok (.aload_n 0, 1) := by decide +kernel
theorem dX4_detects_1 : decode cX4_detects 1 = .ok (.iload_n 1, 1) := by decide +kernel
theorem dX4_detects_2 : decode cX4_detects 2 = .ok (.invokevirtual 55, 3) := by decide +kernel
theorem dX4_detects_5 : decode cX4_detects 5 = .ok (.ifCond .eq 36, 3) := by decide +kernel
theorem dX4_detects_8 : decode cX4_detects 8 = .ok (.aload_n 0, 1) := by decide +kernel
theorem dX4_detects_9 : decode cX4_detects 9 = .ok (.iload_n 1, 1) := by decide +kernel
theorem dX4_detects_10 : decode cX4_detects 10 = .ok (.iconst 3, 1) := by decide +kernel
theorem dX4_detects_11 : decode cX4_detects 11 = .ok (.invokevirtual 45, 3) := by decide +kernel
theorem dX4_detects_14 : decode cX4_detects 14 = .ok (.sipush 190, 3) := by decide +kernel
theorem dX4_detects_17 : decode cX4_detects 17 = .ok (.sipush 265, 3) := by decide +kernel
theorem dX4_detects_20 : decode cX4_detects 20 = .ok (.invokestatic 30, 3) := by decide +kernel
theorem dX4_detects_23 : decode cX4_detects 23 = .ok (.ifCond .eq 18, 3) := by decide +kernel
theorem dX4_detects_26 : decode cX4_detects 26 = .ok (.aload_n 0, 1) := by decide +kernel
theorem dX4_detects_27 : decode cX4_detects 27 = .ok (.iload_n 1, 1) := by decide +kernel
theorem dX4_detects_28 : decode cX4_detects 28 = .ok (.iconst 4, 1) := by decide +kernel
theorem dX4_detects_29 : decode cX4_detects 29 = .ok (.invokevirtual 45, 3) := by decide +kernel
theorem dX4_detects_32 : decode cX4_detects 32 = .ok (.bipush 15, 2) := by decide +kernel
theorem dX4_detects_34 : decode cX4_detects 34 = .ok (.if_icmp .gt 7, 3) := by decide +kernel
theorem dX4_detects_37 : decode cX4_detects 37 = .ok (.iconst 1, 1) := by decide +kernel
theorem dX4_detects_38 : decode cX4_detects 38 = .ok (.goto 4, 3) := by decide +kernel
theorem dX4_detects_41 : decode cX4_detects 41 = .ok (.iconst 0, 1) := by decide +kernel
theorem dX4_detects_42 : decode cX4_detects 42 = .ok (.ireturn, 1) := by decide +kernel
theorem dX4_request_0 : decode cX4_request 0 = .ok (.iload_n 1, 1) := by decide +kernel
theorem dX4_request_1 : decode cX4_request 1 = .ok (.invokestatic 48, 3) := by decide +kernel
theorem dX4_request_4 : decode cX4_request 4 = .ok (.ifCond .ne 7, 3) := by decide +kernel
theorem dX4_request_7 : decode cX4_request 7 = .ok (.iconst (-1), 1) := by decide +kernel
theorem dX4_request_8 : decode cX4_request 8 = .ok (.goto 23, 3) := by decide +kernel
theorem dX4_request_11 : decode cX4_request 11 = .ok (.aload_n 0, 1) := by decide +kernel
theorem dX4_request_12 : decode cX4_request 12 = .ok (.iload_n 1, 1) := by decide +kernel
theorem dX4_request_13 : decode cX4_request 13 = .ok (.invokevirtual 68, 3) := by decide +kernel
theorem dX4_request_16 : decode cX4_request 16 = .ok (.ifCond .ge 8, 3) := by decide +kernel
theorem dX4_request_19 : decode cX4_request 19 = .ok (.bipush (-6), 2) := by decide +kernel
theorem dX4_request_21 : decode cX4_request 21 = .ok (.goto 10, 3) := by decide +kernel
theorem dX4_request_24 : decode cX4_request 24 = .ok (.aload_n 0, 1) := by decide +kernel
theorem dX4_request_25 : decode cX4_request 25 = .ok (.iload_n 1, 1) := by decide +kernel
theorem dX4_request_26 : decode cX4_request 26 = .ok (.bipush 7, 2) := by decide +kernel
theorem dX4_request_28 : decode cX4_request 28 = .ok (.invokevirtual 45, 3) := by decide +kernel
theorem dX4_request_31 : decode cX4_request 31 = .ok (.ireturn, 1) := by decide +kernel
theorem dX4_isEligible_0 : decode cX4_isEligible 0 = .ok (.aload_n 0, 1) := by decide +kernel
theorem dX4_isEligible_1 : decode cX4_isEligible 1 = .ok (.iload_n 1, 1) := by decide +kernel
theorem dX4_isEligible_2 : decode cX4_isEligible 2 = .ok (.iconst 0, 1) := by decide +kernel
theorem dX4_isEligible_3 : decode cX4_isEligible 3 = .ok (.invokevirtual 45, 3) := by decide +kernel
theorem dX4_isEligible_6 : decode cX4_isEligible 6 = .ok (.iconst 1, 1) := by decide +kernel
theorem dX4_isEligible_7 : decode cX4_isEligible 7 = .ok (.if_icmp .ne 23, 3) := by decide +kernel
theorem dX4_isEligible_10 : decode cX4_isEligible 10 = .ok (.aload_n 0, 1) := by decide +kernel
theorem dX4_isEligible_11 : decode cX4_isEligible 11 = .ok (.iload_n 1, 1) := by decide +kernel
theorem dX4_isEligible_12 : decode cX4_isEligible 12 = .ok (.invokevirtual 74, 3) := by decide +kernel
theorem dX4_isEligible_15 : decode cX4_isEligible 15 = .ok (.ifCond .eq 15, 3) := by decide +kernel
theorem dX4_isEligible_18 : decode cX4_isEligible 18 = .ok (.aload_n 0, 1) := by decide +kernel
theorem dX4_isEligible_19 : decode cX4_isEligible 19 = .ok (.iload_n 1, 1) := by decide +kernel
theorem dX4_isEligible_20 : decode cX4_isEligible 20 = .ok (.invokevirtual 68, 3) := by decide +kernel
theorem dX4_isEligible_23 : decode cX4_isEligible 23 = .ok (.ifCond .lt 7, 3) := by decide +kernel
theorem dX4_isEligible_26 : decode cX4_isEligible 26 = .ok (.iconst 1, 1) := by decide +kernel
theorem dX4_isEligible_27 : decode cX4_isEligible 27 = .ok (.goto 4, 3) := by decide +kernel
theorem dX4_isEligible_30 : decode cX4_isEligible 30 = .ok (.iconst 0, 1) := by decide +kernel
theorem dX4_isEligible_31 : decode cX4_isEligible 31 = .ok (.ireturn, 1) := by decide +kernel
theorem dX4_eligiblePorts_0 : decode cX4_eligiblePorts 0 = .ok (.iconst 0, 1) := by decide +kernel
theorem dX4_eligiblePorts_1 : decode cX4_eligiblePorts 1 = .ok (.istore_n 1, 1) := by decide +kernel
theorem dX4_eligiblePorts_2 : decode cX4_eligiblePorts 2 = .ok (.iconst 0, 1) := by decide +kernel
theorem dX4_eligiblePorts_3 : decode cX4_eligiblePorts 3 = .ok (.istore_n 2, 1) := by decide +kernel
theorem dX4_eligiblePorts_4 : decode cX4_eligiblePorts 4 = .ok (.iload_n 2, 1) := by decide +kernel
theorem dX4_eligiblePorts_5 : decode cX4_eligiblePorts 5 = .ok (.bipush 8, 2) := by decide +kernel
theorem dX4_eligiblePorts_7 : decode cX4_eligiblePorts 7 = .ok (.if_icmp .ge 27, 3) := by decide +kernel
theorem dX4_eligiblePorts_10 : decode cX4_eligiblePorts 10 = .ok (.iload_n 1, 1) := by decide +kernel
theorem dX4_eligiblePorts_11 : decode cX4_eligiblePorts 11 = .ok (.aload_n 0, 1) := by decide +kernel
theorem dX4_eligiblePorts_12 : decode cX4_eligiblePorts 12 = .ok (.iload_n 2, 1) := by decide +kernel
theorem dX4_eligiblePorts_13 : decode cX4_eligiblePorts 13 = .ok (.invokevirtual 77, 3) := by decide +kernel
theorem dX4_eligiblePorts_16 : decode cX4_eligiblePorts 16 = .ok (.ifCond .eq 9, 3) := by decide +kernel
theorem dX4_eligiblePorts_19 : decode cX4_eligiblePorts 19 = .ok (.iconst 1, 1) := by decide +kernel
theorem dX4_eligiblePorts_20 : decode cX4_eligiblePorts 20 = .ok (.iload_n 2, 1) := by decide +kernel
theorem dX4_eligiblePorts_21 : decode cX4_eligiblePorts 21 = .ok (.ishl, 1) := by decide +kernel
theorem dX4_eligiblePorts_22 : decode cX4_eligiblePorts 22 = .ok (.goto 4, 3) := by decide +kernel
theorem dX4_eligiblePorts_25 : decode cX4_eligiblePorts 25 = .ok (.iconst 0, 1) := by decide +kernel
theorem dX4_eligiblePorts_26 : decode cX4_eligiblePorts 26 = .ok (.ior, 1) := by decide +kernel
theorem dX4_eligiblePorts_27 : decode cX4_eligiblePorts 27 = .ok (.istore_n 1, 1) := by decide +kernel
theorem dX4_eligiblePorts_28 : decode cX4_eligiblePorts 28 = .ok (.iinc 2 1, 3) := by decide +kernel
theorem dX4_eligiblePorts_31 : decode cX4_eligiblePorts 31 = .ok (.goto (-27), 3) := by decide +kernel
theorem dX4_eligiblePorts_34 : decode cX4_eligiblePorts 34 = .ok (.iload_n 1, 1) := by decide +kernel
theorem dX4_eligiblePorts_35 : decode cX4_eligiblePorts 35 = .ok (.ireturn, 1) := by decide +kernel
theorem dX4_poweredPorts_0 : decode cX4_poweredPorts 0 = .ok (.iconst 0, 1) := by decide +kernel
theorem dX4_poweredPorts_1 : decode cX4_poweredPorts 1 = .ok (.istore_n 1, 1) := by decide +kernel
theorem dX4_poweredPorts_2 : decode cX4_poweredPorts 2 = .ok (.iconst 0, 1) := by decide +kernel
theorem dX4_poweredPorts_3 : decode cX4_poweredPorts 3 = .ok (.istore_n 2, 1) := by decide +kernel
theorem dX4_poweredPorts_4 : decode cX4_poweredPorts 4 = .ok (.iload_n 2, 1) := by decide +kernel
theorem dX4_poweredPorts_5 : decode cX4_poweredPorts 5 = .ok (.bipush 8, 2) := by decide +kernel
theorem dX4_poweredPorts_7 : decode cX4_poweredPorts 7 = .ok (.if_icmp .ge 27, 3) := by decide +kernel
theorem dX4_poweredPorts_10 : decode cX4_poweredPorts 10 = .ok (.iload_n 1, 1) := by decide +kernel
theorem dX4_poweredPorts_11 : decode cX4_poweredPorts 11 = .ok (.aload_n 0, 1) := by decide +kernel
theorem dX4_poweredPorts_12 : decode cX4_poweredPorts 12 = .ok (.iload_n 2, 1) := by decide +kernel
theorem dX4_poweredPorts_13 : decode cX4_poweredPorts 13 = .ok (.invokevirtual 65, 3) := by decide +kernel
theorem dX4_poweredPorts_16 : decode cX4_poweredPorts 16 = .ok (.ifCond .eq 9, 3) := by decide +kernel
theorem dX4_poweredPorts_19 : decode cX4_poweredPorts 19 = .ok (.iconst 1, 1) := by decide +kernel
theorem dX4_poweredPorts_20 : decode cX4_poweredPorts 20 = .ok (.iload_n 2, 1) := by decide +kernel
theorem dX4_poweredPorts_21 : decode cX4_poweredPorts 21 = .ok (.ishl, 1) := by decide +kernel
theorem dX4_poweredPorts_22 : decode cX4_poweredPorts 22 = .ok (.goto 4, 3) := by decide +kernel
theorem dX4_poweredPorts_25 : decode cX4_poweredPorts 25 = .ok (.iconst 0, 1) := by decide +kernel
theorem dX4_poweredPorts_26 : decode cX4_poweredPorts 26 = .ok (.ior, 1) := by decide +kernel
theorem dX4_poweredPorts_27 : decode cX4_poweredPorts 27 = .ok (.istore_n 1, 1) := by decide +kernel
theorem dX4_poweredPorts_28 : decode cX4_poweredPorts 28 = .ok (.iinc 2 1, 3) := by decide +kernel
theorem dX4_poweredPorts_31 : decode cX4_poweredPorts 31 = .ok (.goto (-27), 3) := by decide +kernel
theorem dX4_poweredPorts_34 : decode cX4_poweredPorts 34 = .ok (.iload_n 1, 1) := by decide +kernel
theorem dX4_poweredPorts_35 : decode cX4_poweredPorts 35 = .ok (.ireturn, 1) := by decide +kernel
theorem dX4_told_0 : decode cX4_told 0 = .ok (.iload_n 1, 1) := by decide +kernel
theorem dX4_told_1 : decode cX4_told 1 = .ok (.invokestatic 48, 3) := by decide +kernel
theorem dX4_told_4 : decode cX4_told 4 = .ok (.ifCond .eq 12, 3) := by decide +kernel
theorem dX4_told_7 : decode cX4_told 7 = .ok (.aload_n 0, 1) := by decide +kernel
theorem dX4_told_8 : decode cX4_told 8 = .ok (.iload_n 1, 1) := by decide +kernel
theorem dX4_told_9 : decode cX4_told 9 = .ok (.iload_n 2, 1) := by decide +kernel
theorem dX4_told_10 : decode cX4_told 10 = .ok (.invokevirtual 45, 3) := by decide +kernel
theorem dX4_told_13 : decode cX4_told 13 = .ok (.goto 4, 3) := by decide +kernel
theorem dX4_told_16 : decode cX4_told 16 = .ok (.iconst (-1), 1) := by decide +kernel
theorem dX4_told_17 : decode cX4_told 17 = .ok (.ireturn, 1) := by decide +kernel
theorem dX4_grant_0 : decode cX4_grant 0 = .ok (.aload_n 0, 1) := by decide +kernel
theorem dX4_grant_1 : decode cX4_grant 1 = .ok (.iload_n 1, 1) := by decide +kernel
theorem dX4_grant_2 : decode cX4_grant 2 = .ok (.bipush 8, 2) := by decide +kernel
theorem dX4_grant_4 : decode cX4_grant 4 = .ok (.invokevirtual 80, 3) := by decide +kernel
theorem dX4_grant_7 : decode cX4_grant 7 = .ok (.ireturn, 1) := by decide +kernel
theorem dX4_overload_0 : decode cX4_overload 0 = .ok (.aload_n 0, 1) := by decide +kernel
theorem dX4_overload_1 : decode cX4_overload 1 = .ok (.iload_n 1, 1) := by decide +kernel
theorem dX4_overload_2 : decode cX4_overload 2 = .ok (.bipush 9, 2) := by decide +kernel
theorem dX4_overload_4 : decode cX4_overload 4 = .ok (.invokevirtual 80, 3) := by decide +kernel
theorem dX4_overload_7 : decode cX4_overload 7 = .ok (.ireturn, 1) := by decide +kernel
theorem dX4_cooldown_0 : decode cX4_cooldown 0 = .ok (.aload_n 0, 1) := by decide +kernel
theorem dX4_cooldown_1 : decode cX4_cooldown 1 = .ok (.iload_n 1, 1) := by decide +kernel
theorem dX4_cooldown_2 : decode cX4_cooldown 2 = .ok (.bipush 10, 2) := by decide +kernel
theorem dX4_cooldown_4 : decode cX4_cooldown 4 = .ok (.invokevirtual 80, 3) := by decide +kernel
theorem dX4_cooldown_7 : decode cX4_cooldown 7 = .ok (.ireturn, 1) := by decide +kernel
theorem dX4_addEvent_0 : decode cX4_addEvent 0 = .ok (.aload_n 0, 1) := by decide +kernel
theorem dX4_addEvent_1 : decode cX4_addEvent 1 = .ok (.dup, 1) := by decide +kernel
theorem dX4_addEvent_2 : decode cX4_addEvent 2 = .ok (.getfield 83, 3) := by decide +kernel
theorem dX4_addEvent_5 : decode cX4_addEvent 5 = .ok (.iconst 1, 1) := by decide +kernel
theorem dX4_addEvent_6 : decode cX4_addEvent 6 = .ok (.iadd, 1) := by decide +kernel
theorem dX4_addEvent_7 : decode cX4_addEvent 7 = .ok (.putfield 83, 3) := by decide +kernel
theorem dX4_addEvent_10 : decode cX4_addEvent 10 = .ok (.aload_n 0, 1) := by decide +kernel
theorem dX4_addEvent_11 : decode cX4_addEvent 11 = .ok (.getfield 7, 3) := by decide +kernel
theorem dX4_addEvent_14 : decode cX4_addEvent 14 = .ok (.bipush 12, 2) := by decide +kernel
theorem dX4_addEvent_16 : decode cX4_addEvent 16 = .ok (.iaload, 1) := by decide +kernel
theorem dX4_addEvent_17 : decode cX4_addEvent 17 = .ok (.bipush 16, 2) := by decide +kernel
theorem dX4_addEvent_19 : decode cX4_addEvent 19 = .ok (.if_icmp .ne 48, 3) := by decide +kernel
theorem dX4_addEvent_22 : decode cX4_addEvent 22 = .ok (.iconst 0, 1) := by decide +kernel
theorem dX4_addEvent_23 : decode cX4_addEvent 23 = .ok (.istore_n 3, 1) := by decide +kernel
theorem dX4_addEvent_24 : decode cX4_addEvent 24 = .ok (.iload_n 3, 1) := by decide +kernel
theorem dX4_addEvent_25 : decode cX4_addEvent 25 = .ok (.bipush 45, 2) := by decide +kernel
theorem dX4_addEvent_27 : decode cX4_addEvent 27 = .ok (.if_icmp .ge 29, 3) := by decide +kernel
theorem dX4_addEvent_30 : decode cX4_addEvent 30 = .ok (.aload_n 0, 1) := by decide +kernel
theorem dX4_addEvent_31 : decode cX4_addEvent 31 = .ok (.getfield 7, 3) := by decide +kernel
theorem dX4_addEvent_34 : decode cX4_addEvent 34 = .ok (.bipush 13, 2) := by decide +kernel
theorem dX4_addEvent_36 : decode cX4_addEvent 36 = .ok (.iload_n 3, 1) := by decide +kernel
theorem dX4_addEvent_37 : decode cX4_addEvent 37 = .ok (.iadd, 1) := by decide +kernel
theorem dX4_addEvent_38 : decode cX4_addEvent 38 = .ok (.aload_n 0, 1) := by decide +kernel
theorem dX4_addEvent_39 : decode cX4_addEvent 39 = .ok (.getfield 7, 3) := by decide +kernel
theorem dX4_addEvent_42 : decode cX4_addEvent 42 = .ok (.bipush 13, 2) := by decide +kernel
theorem dX4_addEvent_44 : decode cX4_addEvent 44 = .ok (.iload_n 3, 1) := by decide +kernel
theorem dX4_addEvent_45 : decode cX4_addEvent 45 = .ok (.iadd, 1) := by decide +kernel
theorem dX4_addEvent_46 : decode cX4_addEvent 46 = .ok (.iconst 3, 1) := by decide +kernel
theorem dX4_addEvent_47 : decode cX4_addEvent 47 = .ok (.iadd, 1) := by decide +kernel
theorem dX4_addEvent_48 : decode cX4_addEvent 48 = .ok (.iaload, 1) := by decide +kernel
theorem dX4_addEvent_49 : decode cX4_addEvent 49 = .ok (.iastore, 1) := by decide +kernel
theorem dX4_addEvent_50 : decode cX4_addEvent 50 = .ok (.iinc 3 1, 3) := by decide +kernel
theorem dX4_addEvent_53 : decode cX4_addEvent 53 = .ok (.goto (-29), 3) := by decide +kernel
theorem dX4_addEvent_56 : decode cX4_addEvent 56 = .ok (.aload_n 0, 1) := by decide +kernel
theorem dX4_addEvent_57 : decode cX4_addEvent 57 = .ok (.getfield 7, 3) := by decide +kernel
theorem dX4_addEvent_60 : decode cX4_addEvent 60 = .ok (.bipush 12, 2) := by decide +kernel
theorem dX4_addEvent_62 : decode cX4_addEvent 62 = .ok (.dup2, 1) := by decide +kernel
theorem dX4_addEvent_63 : decode cX4_addEvent 63 = .ok (.iaload, 1) := by decide +kernel
theorem dX4_addEvent_64 : decode cX4_addEvent 64 = .ok (.iconst 1, 1) := by decide +kernel
theorem dX4_addEvent_65 : decode cX4_addEvent 65 = .ok (.isub, 1) := by decide +kernel
theorem dX4_addEvent_66 : decode cX4_addEvent 66 = .ok (.iastore, 1) := by decide +kernel
theorem dX4_addEvent_67 : decode cX4_addEvent 67 = .ok (.bipush 13, 2) := by decide +kernel
theorem dX4_addEvent_69 : decode cX4_addEvent 69 = .ok (.iconst 3, 1) := by decide +kernel
theorem dX4_addEvent_70 : decode cX4_addEvent 70 = .ok (.aload_n 0, 1) := by decide +kernel
theorem dX4_addEvent_71 : decode cX4_addEvent 71 = .ok (.getfield 7, 3) := by decide +kernel
theorem dX4_addEvent_74 : decode cX4_addEvent 74 = .ok (.bipush 12, 2) := by decide +kernel
theorem dX4_addEvent_76 : decode cX4_addEvent 76 = .ok (.iaload, 1) := by decide +kernel
theorem dX4_addEvent_77 : decode cX4_addEvent 77 = .ok (.imul, 1) := by decide +kernel
theorem dX4_addEvent_78 : decode cX4_addEvent 78 = .ok (.iadd, 1) := by decide +kernel
theorem dX4_addEvent_79 : decode cX4_addEvent 79 = .ok (.istore_n 3, 1) := by decide +kernel
theorem dX4_addEvent_80 : decode cX4_addEvent 80 = .ok (.aload_n 0, 1) := by decide +kernel
theorem dX4_addEvent_81 : decode cX4_addEvent 81 = .ok (.getfield 7, 3) := by decide +kernel
theorem dX4_addEvent_84 : decode cX4_addEvent 84 = .ok (.iload_n 3, 1) := by decide +kernel
theorem dX4_addEvent_85 : decode cX4_addEvent 85 = .ok (.aload_n 0, 1) := by decide +kernel
theorem dX4_addEvent_86 : decode cX4_addEvent 86 = .ok (.getfield 7, 3) := by decide +kernel
theorem dX4_addEvent_89 : decode cX4_addEvent 89 = .ok (.bipush 11, 2) := by decide +kernel
theorem dX4_addEvent_91 : decode cX4_addEvent 91 = .ok (.iaload, 1) := by decide +kernel
theorem dX4_addEvent_92 : decode cX4_addEvent 92 = .ok (.iastore, 1) := by decide +kernel
theorem dX4_addEvent_93 : decode cX4_addEvent 93 = .ok (.aload_n 0, 1) := by decide +kernel
theorem dX4_addEvent_94 : decode cX4_addEvent 94 = .ok (.getfield 7, 3) := by decide +kernel
theorem dX4_addEvent_97 : decode cX4_addEvent 97 = .ok (.iload_n 3, 1) := by decide +kernel
theorem dX4_addEvent_98 : decode cX4_addEvent 98 = .ok (.iconst 1, 1) := by decide +kernel
theorem dX4_addEvent_99 : decode cX4_addEvent 99 = .ok (.iadd, 1) := by decide +kernel
theorem dX4_addEvent_100 : decode cX4_addEvent 100 = .ok (.iload_n 1, 1) := by decide +kernel
theorem dX4_addEvent_101 : decode cX4_addEvent 101 = .ok (.iastore, 1) := by decide +kernel
theorem dX4_addEvent_102 : decode cX4_addEvent 102 = .ok (.aload_n 0, 1) := by decide +kernel
theorem dX4_addEvent_103 : decode cX4_addEvent 103 = .ok (.getfield 7, 3) := by decide +kernel
theorem dX4_addEvent_106 : decode cX4_addEvent 106 = .ok (.iload_n 3, 1) := by decide +kernel
theorem dX4_addEvent_107 : decode cX4_addEvent 107 = .ok (.iconst 2, 1) := by decide +kernel
theorem dX4_addEvent_108 : decode cX4_addEvent 108 = .ok (.iadd, 1) := by decide +kernel
theorem dX4_addEvent_109 : decode cX4_addEvent 109 = .ok (.iload_n 2, 1) := by decide +kernel
theorem dX4_addEvent_110 : decode cX4_addEvent 110 = .ok (.iastore, 1) := by decide +kernel
theorem dX4_addEvent_111 : decode cX4_addEvent 111 = .ok (.aload_n 0, 1) := by decide +kernel
theorem dX4_addEvent_112 : decode cX4_addEvent 112 = .ok (.getfield 7, 3) := by decide +kernel
theorem dX4_addEvent_115 : decode cX4_addEvent 115 = .ok (.bipush 12, 2) := by decide +kernel
theorem dX4_addEvent_117 : decode cX4_addEvent 117 = .ok (.dup2, 1) := by decide +kernel
theorem dX4_addEvent_118 : decode cX4_addEvent 118 = .ok (.iaload, 1) := by decide +kernel
theorem dX4_addEvent_119 : decode cX4_addEvent 119 = .ok (.iconst 1, 1) := by decide +kernel
theorem dX4_addEvent_120 : decode cX4_addEvent 120 = .ok (.iadd, 1) := by decide +kernel
theorem dX4_addEvent_121 : decode cX4_addEvent 121 = .ok (.iastore, 1) := by decide +kernel
theorem dX4_addEvent_122 : decode cX4_addEvent 122 = .ok (.return_, 1) := by decide +kernel
theorem dX4_inOrder_0 : decode cX4_inOrder 0 = .ok (.iconst 0, 1) := by decide +kernel
theorem dX4_inOrder_1 : decode cX4_inOrder 1 = .ok (.istore_n 2, 1) := by decide +kernel
theorem dX4_inOrder_2 : decode cX4_inOrder 2 = .ok (.iconst 0, 1) := by decide +kernel
theorem dX4_inOrder_3 : decode cX4_inOrder 3 = .ok (.istore_n 3, 1) := by decide +kernel
theorem dX4_inOrder_4 : decode cX4_inOrder 4 = .ok (.iload_n 3, 1) := by decide +kernel
theorem dX4_inOrder_5 : decode cX4_inOrder 5 = .ok (.iconst 3, 1) := by decide +kernel
theorem dX4_inOrder_6 : decode cX4_inOrder 6 = .ok (.if_icmp .ge 47, 3) := by decide +kernel
theorem dX4_inOrder_9 : decode cX4_inOrder 9 = .ok (.iconst 0, 1) := by decide +kernel
theorem dX4_inOrder_10 : decode cX4_inOrder 10 = .ok (.istore 4, 2) := by decide +kernel
theorem dX4_inOrder_12 : decode cX4_inOrder 12 = .ok (.iload 4, 2) := by decide +kernel
theorem dX4_inOrder_14 : decode cX4_inOrder 14 = .ok (.bipush 8, 2) := by decide +kernel
theorem dX4_inOrder_16 : decode cX4_inOrder 16 = .ok (.if_icmp .ge 31, 3) := by decide +kernel
theorem dX4_inOrder_19 : decode cX4_inOrder 19 = .ok (.aload_n 0, 1) := by decide +kernel
theorem dX4_inOrder_20 : decode cX4_inOrder 20 = .ok (.iload 4, 2) := by decide +kernel
theorem dX4_inOrder_22 : decode cX4_inOrder 22 = .ok (.iconst 1, 1) := by decide +kernel
theorem dX4_inOrder_23 : decode cX4_inOrder 23 = .ok (.invokevirtual 45, 3) := by decide +kernel
theorem dX4_inOrder_26 : decode cX4_inOrder 26 = .ok (.iload_n 3, 1) := by decide +kernel
theorem dX4_inOrder_27 : decode cX4_inOrder 27 = .ok (.if_icmp .ne 14, 3) := by decide +kernel
theorem dX4_inOrder_30 : decode cX4_inOrder 30 = .ok (.iload_n 2, 1) := by decide +kernel
theorem dX4_inOrder_31 : decode cX4_inOrder 31 = .ok (.iload_n 1, 1) := by decide +kernel
theorem dX4_inOrder_32 : decode cX4_inOrder 32 = .ok (.if_icmp .ne 6, 3) := by decide +kernel
theorem dX4_inOrder_35 : decode cX4_inOrder 35 = .ok (.iload 4, 2) := by decide +kernel
theorem dX4_inOrder_37 : decode cX4_inOrder 37 = .ok (.ireturn, 1) := by decide +kernel
theorem dX4_inOrder_38 : decode cX4_inOrder 38 = .ok (.iinc 2 1, 3) := by decide +kernel
theorem dX4_inOrder_41 : decode cX4_inOrder 41 = .ok (.iinc 4 1, 3) := by decide +kernel
theorem dX4_inOrder_44 : decode cX4_inOrder 44 = .ok (.goto (-32), 3) := by decide +kernel
theorem dX4_inOrder_47 : decode cX4_inOrder 47 = .ok (.iinc 3 1, 3) := by decide +kernel
theorem dX4_inOrder_50 : decode cX4_inOrder 50 = .ok (.goto (-46), 3) := by decide +kernel
theorem dX4_inOrder_53 : decode cX4_inOrder 53 = .ok (.bipush (-6), 2) := by decide +kernel
theorem dX4_inOrder_55 : decode cX4_inOrder 55 = .ok (.ireturn, 1) := by decide +kernel
theorem dX4_shedAll_0 : decode cX4_shedAll 0 = .ok (.iconst 0, 1) := by decide +kernel
theorem dX4_shedAll_1 : decode cX4_shedAll 1 = .ok (.istore_n 1, 1) := by decide +kernel
theorem dX4_shedAll_2 : decode cX4_shedAll 2 = .ok (.bipush 7, 2) := by decide +kernel
theorem dX4_shedAll_4 : decode cX4_shedAll 4 = .ok (.istore_n 2, 1) := by decide +kernel
theorem dX4_shedAll_5 : decode cX4_shedAll 5 = .ok (.iload_n 2, 1) := by decide +kernel
theorem dX4_shedAll_6 : decode cX4_shedAll 6 = .ok (.ifCond .lt 47, 3) := by decide +kernel
theorem dX4_shedAll_9 : decode cX4_shedAll 9 = .ok (.aload_n 0, 1) := by decide +kernel
theorem dX4_shedAll_10 : decode cX4_shedAll 10 = .ok (.iload_n 2, 1) := by decide +kernel
theorem dX4_shedAll_11 : decode cX4_shedAll 11 = .ok (.invokevirtual 87, 3) := by decide +kernel
theorem dX4_shedAll_14 : decode cX4_shedAll 14 = .ok (.istore_n 3, 1) := by decide +kernel
theorem dX4_shedAll_15 : decode cX4_shedAll 15 = .ok (.aload_n 0, 1) := by decide +kernel
theorem dX4_shedAll_16 : decode cX4_shedAll 16 = .ok (.invokevirtual 71, 3) := by decide +kernel
theorem dX4_shedAll_19 : decode cX4_shedAll 19 = .ok (.ifCond .ge 28, 3) := by decide +kernel
theorem dX4_shedAll_22 : decode cX4_shedAll 22 = .ok (.aload_n 0, 1) := by decide +kernel
theorem dX4_shedAll_23 : decode cX4_shedAll 23 = .ok (.iload_n 3, 1) := by decide +kernel
theorem dX4_shedAll_24 : decode cX4_shedAll 24 = .ok (.invokevirtual 65, 3) := by decide +kernel
theorem dX4_shedAll_27 : decode cX4_shedAll 27 = .ok (.ifCond .eq 20, 3) := by decide +kernel
theorem dX4_shedAll_30 : decode cX4_shedAll 30 = .ok (.aload_n 0, 1) := by decide +kernel
theorem dX4_shedAll_31 : decode cX4_shedAll 31 = .ok (.iload_n 3, 1) := by decide +kernel
theorem dX4_shedAll_32 : decode cX4_shedAll 32 = .ok (.invokevirtual 51, 3) := by decide +kernel
theorem dX4_shedAll_35 : decode cX4_shedAll 35 = .ok (.aload_n 0, 1) := by decide +kernel
theorem dX4_shedAll_36 : decode cX4_shedAll 36 = .ok (.iload_n 3, 1) := by decide +kernel
theorem dX4_shedAll_37 : decode cX4_shedAll 37 = .ok (.iconst 1, 1) := by decide +kernel
theorem dX4_shedAll_38 : decode cX4_shedAll 38 = .ok (.invokevirtual 90, 3) := by decide +kernel
theorem dX4_shedAll_41 : decode cX4_shedAll 41 = .ok (.iload_n 1, 1) := by decide +kernel
theorem dX4_shedAll_42 : decode cX4_shedAll 42 = .ok (.iconst 1, 1) := by decide +kernel
theorem dX4_shedAll_43 : decode cX4_shedAll 43 = .ok (.iload_n 3, 1) := by decide +kernel
theorem dX4_shedAll_44 : decode cX4_shedAll 44 = .ok (.ishl, 1) := by decide +kernel
theorem dX4_shedAll_45 : decode cX4_shedAll 45 = .ok (.ior, 1) := by decide +kernel
theorem dX4_shedAll_46 : decode cX4_shedAll 46 = .ok (.istore_n 1, 1) := by decide +kernel
theorem dX4_shedAll_47 : decode cX4_shedAll 47 = .ok (.iinc 2 (-1), 3) := by decide +kernel
theorem dX4_shedAll_50 : decode cX4_shedAll 50 = .ok (.goto (-45), 3) := by decide +kernel
theorem dX4_shedAll_53 : decode cX4_shedAll 53 = .ok (.iload_n 1, 1) := by decide +kernel
theorem dX4_shedAll_54 : decode cX4_shedAll 54 = .ok (.ireturn, 1) := by decide +kernel
theorem dX4_checkOverload_0 : decode cX4_checkOverload 0 = .ok (.aload_n 0, 1) := by decide +kernel
theorem dX4_checkOverload_1 : decode cX4_checkOverload 1 = .ok (.iload_n 1, 1) := by decide +kernel
theorem dX4_checkOverload_2 : decode cX4_checkOverload 2 = .ok (.bipush 6, 2) := by decide +kernel
theorem dX4_checkOverload_4 : decode cX4_checkOverload 4 = .ok (.invokevirtual 45, 3) := by decide +kernel
theorem dX4_checkOverload_7 : decode cX4_checkOverload 7 = .ok (.aload_n 0, 1) := by decide +kernel
theorem dX4_checkOverload_8 : decode cX4_checkOverload 8 = .ok (.iload_n 1, 1) := by decide +kernel
theorem dX4_checkOverload_9 : decode cX4_checkOverload 9 = .ok (.bipush 8, 2) := by decide +kernel
theorem dX4_checkOverload_11 : decode cX4_checkOverload 11 = .ok (.invokevirtual 45, 3) := by decide +kernel
theorem dX4_checkOverload_14 : decode cX4_checkOverload 14 = .ok (.if_icmp .le 21, 3) := by decide +kernel
theorem dX4_checkOverload_17 : decode cX4_checkOverload 17 = .ok (.aload_n 0, 1) := by decide +kernel
theorem dX4_checkOverload_18 : decode cX4_checkOverload 18 = .ok (.getfield 7, 3) := by decide +kernel
theorem dX4_checkOverload_21 : decode cX4_checkOverload 21 = .ok (.iload_n 1, 1) := by decide +kernel
theorem dX4_checkOverload_22 : decode cX4_checkOverload 22 = .ok (.bipush 9, 2) := by decide +kernel
theorem dX4_checkOverload_24 : decode cX4_checkOverload 24 = .ok (.invokestatic 26, 3) := by decide +kernel
theorem dX4_checkOverload_27 : decode cX4_checkOverload 27 = .ok (.dup2, 1) := by decide +kernel
theorem dX4_checkOverload_28 : decode cX4_checkOverload 28 = .ok (.iaload, 1) := by decide +kernel
theorem dX4_checkOverload_29 : decode cX4_checkOverload 29 = .ok (.iconst 1, 1) := by decide +kernel
theorem dX4_checkOverload_30 : decode cX4_checkOverload 30 = .ok (.iadd, 1) := by decide +kernel
theorem dX4_checkOverload_31 : decode cX4_checkOverload 31 = .ok (.iastore, 1) := by decide +kernel
theorem dX4_checkOverload_32 : decode cX4_checkOverload 32 = .ok (.goto 15, 3) := by decide +kernel
theorem dX4_checkOverload_35 : decode cX4_checkOverload 35 = .ok (.aload_n 0, 1) := by decide +kernel
theorem dX4_checkOverload_36 : decode cX4_checkOverload 36 = .ok (.getfield 7, 3) := by decide +kernel
theorem dX4_checkOverload_39 : decode cX4_checkOverload 39 = .ok (.iload_n 1, 1) := by decide +kernel
theorem dX4_checkOverload_40 : decode cX4_checkOverload 40 = .ok (.bipush 9, 2) := by decide +kernel
theorem dX4_checkOverload_42 : decode cX4_checkOverload 42 = .ok (.invokestatic 26, 3) := by decide +kernel
theorem dX4_checkOverload_45 : decode cX4_checkOverload 45 = .ok (.iconst 0, 1) := by decide +kernel
theorem dX4_checkOverload_46 : decode cX4_checkOverload 46 = .ok (.iastore, 1) := by decide +kernel
theorem dX4_checkOverload_47 : decode cX4_checkOverload 47 = .ok (.return_, 1) := by decide +kernel
theorem dX4_isCut_0 : decode cX4_isCut 0 = .ok (.aload_n 0, 1) := by decide +kernel
theorem dX4_isCut_1 : decode cX4_isCut 1 = .ok (.iload_n 1, 1) := by decide +kernel
theorem dX4_isCut_2 : decode cX4_isCut 2 = .ok (.invokevirtual 65, 3) := by decide +kernel
theorem dX4_isCut_5 : decode cX4_isCut 5 = .ok (.ifCond .ne 5, 3) := by decide +kernel
theorem dX4_isCut_8 : decode cX4_isCut 8 = .ok (.iconst 0, 1) := by decide +kernel
theorem dX4_isCut_9 : decode cX4_isCut 9 = .ok (.ireturn, 1) := by decide +kernel
theorem dX4_isCut_10 : decode cX4_isCut 10 = .ok (.aload_n 0, 1) := by decide +kernel
theorem dX4_isCut_11 : decode cX4_isCut 11 = .ok (.iload_n 1, 1) := by decide +kernel
theorem dX4_isCut_12 : decode cX4_isCut 12 = .ok (.invokevirtual 94, 3) := by decide +kernel
theorem dX4_isCut_15 : decode cX4_isCut 15 = .ok (.aload_n 0, 1) := by decide +kernel
theorem dX4_isCut_16 : decode cX4_isCut 16 = .ok (.iload_n 1, 1) := by decide +kernel
theorem dX4_isCut_17 : decode cX4_isCut 17 = .ok (.bipush 9, 2) := by decide +kernel
theorem dX4_isCut_19 : decode cX4_isCut 19 = .ok (.invokevirtual 45, 3) := by decide +kernel
theorem dX4_isCut_22 : decode cX4_isCut 22 = .ok (.aload_n 0, 1) := by decide +kernel
theorem dX4_isCut_23 : decode cX4_isCut 23 = .ok (.getfield 7, 3) := by decide +kernel
theorem dX4_isCut_26 : decode cX4_isCut 26 = .ok (.bipush 8, 2) := by decide +kernel
theorem dX4_isCut_28 : decode cX4_isCut 28 = .ok (.iaload, 1) := by decide +kernel
theorem dX4_isCut_29 : decode cX4_isCut 29 = .ok (.if_icmp .ge 5, 3) := by decide +kernel
theorem dX4_isCut_32 : decode cX4_isCut 32 = .ok (.iconst 0, 1) := by decide +kernel
theorem dX4_isCut_33 : decode cX4_isCut 33 = .ok (.ireturn, 1) := by decide +kernel
theorem dX4_isCut_34 : decode cX4_isCut 34 = .ok (.aload_n 0, 1) := by decide +kernel
theorem dX4_isCut_35 : decode cX4_isCut 35 = .ok (.iload_n 1, 1) := by decide +kernel
theorem dX4_isCut_36 : decode cX4_isCut 36 = .ok (.invokevirtual 51, 3) := by decide +kernel
theorem dX4_isCut_39 : decode cX4_isCut 39 = .ok (.aload_n 0, 1) := by decide +kernel
theorem dX4_isCut_40 : decode cX4_isCut 40 = .ok (.getfield 7, 3) := by decide +kernel
theorem dX4_isCut_43 : decode cX4_isCut 43 = .ok (.iload_n 1, 1) := by decide +kernel
theorem dX4_isCut_44 : decode cX4_isCut 44 = .ok (.bipush 10, 2) := by decide +kernel
theorem dX4_isCut_46 : decode cX4_isCut 46 = .ok (.invokestatic 26, 3) := by decide +kernel
theorem dX4_isCut_49 : decode cX4_isCut 49 = .ok (.aload_n 0, 1) := by decide +kernel
theorem dX4_isCut_50 : decode cX4_isCut 50 = .ok (.getfield 7, 3) := by decide +kernel
theorem dX4_isCut_53 : decode cX4_isCut 53 = .ok (.bipush 9, 2) := by decide +kernel
theorem dX4_isCut_55 : decode cX4_isCut 55 = .ok (.iaload, 1) := by decide +kernel
theorem dX4_isCut_56 : decode cX4_isCut 56 = .ok (.iastore, 1) := by decide +kernel
theorem dX4_isCut_57 : decode cX4_isCut 57 = .ok (.aload_n 0, 1) := by decide +kernel
theorem dX4_isCut_58 : decode cX4_isCut 58 = .ok (.iload_n 1, 1) := by decide +kernel
theorem dX4_isCut_59 : decode cX4_isCut 59 = .ok (.iconst 2, 1) := by decide +kernel
theorem dX4_isCut_60 : decode cX4_isCut 60 = .ok (.invokevirtual 90, 3) := by decide +kernel
theorem dX4_isCut_63 : decode cX4_isCut 63 = .ok (.iconst 1, 1) := by decide +kernel
theorem dX4_isCut_64 : decode cX4_isCut 64 = .ok (.ireturn, 1) := by decide +kernel
theorem dX4_powerUp_0 : decode cX4_powerUp 0 = .ok (.aload_n 0, 1) := by decide +kernel
theorem dX4_powerUp_1 : decode cX4_powerUp 1 = .ok (.getfield 7, 3) := by decide +kernel
theorem dX4_powerUp_4 : decode cX4_powerUp 4 = .ok (.bipush 10, 2) := by decide +kernel
theorem dX4_powerUp_6 : decode cX4_powerUp 6 = .ok (.dup2, 1) := by decide +kernel
theorem dX4_powerUp_7 : decode cX4_powerUp 7 = .ok (.iaload, 1) := by decide +kernel
theorem dX4_powerUp_8 : decode cX4_powerUp 8 = .ok (.aload_n 0, 1) := by decide +kernel
theorem dX4_powerUp_9 : decode cX4_powerUp 9 = .ok (.getfield 7, 3) := by decide +kernel
theorem dX4_powerUp_12 : decode cX4_powerUp 12 = .ok (.bipush 10, 2) := by decide +kernel
theorem dX4_powerUp_14 : decode cX4_powerUp 14 = .ok (.iaload, 1) := by decide +kernel
theorem dX4_powerUp_15 : decode cX4_powerUp 15 = .ok (.ifCond .le 7, 3) := by decide +kernel
theorem dX4_powerUp_18 : decode cX4_powerUp 18 = .ok (.iconst 1, 1) := by decide +kernel
theorem dX4_powerUp_19 : decode cX4_powerUp 19 = .ok (.goto 4, 3) := by decide +kernel
theorem dX4_powerUp_22 : decode cX4_powerUp 22 = .ok (.iconst 0, 1) := by decide +kernel
theorem dX4_powerUp_23 : decode cX4_powerUp 23 = .ok (.isub, 1) := by decide +kernel
theorem dX4_powerUp_24 : decode cX4_powerUp 24 = .ok (.iastore, 1) := by decide +kernel
theorem dX4_powerUp_25 : decode cX4_powerUp 25 = .ok (.aload_n 0, 1) := by decide +kernel
theorem dX4_powerUp_26 : decode cX4_powerUp 26 = .ok (.getfield 7, 3) := by decide +kernel
theorem dX4_powerUp_29 : decode cX4_powerUp 29 = .ok (.bipush 10, 2) := by decide +kernel
theorem dX4_powerUp_31 : decode cX4_powerUp 31 = .ok (.iaload, 1) := by decide +kernel
theorem dX4_powerUp_32 : decode cX4_powerUp 32 = .ok (.ifCond .le 4, 3) := by decide +kernel
theorem dX4_powerUp_35 : decode cX4_powerUp 35 = .ok (.return_, 1) := by decide +kernel
theorem dX4_powerUp_36 : decode cX4_powerUp 36 = .ok (.iconst 0, 1) := by decide +kernel
theorem dX4_powerUp_37 : decode cX4_powerUp 37 = .ok (.istore_n 1, 1) := by decide +kernel
theorem dX4_powerUp_38 : decode cX4_powerUp 38 = .ok (.iload_n 1, 1) := by decide +kernel
theorem dX4_powerUp_39 : decode cX4_powerUp 39 = .ok (.bipush 8, 2) := by decide +kernel
theorem dX4_powerUp_41 : decode cX4_powerUp 41 = .ok (.if_icmp .ge 94, 3) := by decide +kernel
theorem dX4_powerUp_44 : decode cX4_powerUp 44 = .ok (.aload_n 0, 1) := by decide +kernel
theorem dX4_powerUp_45 : decode cX4_powerUp 45 = .ok (.iload_n 1, 1) := by decide +kernel
theorem dX4_powerUp_46 : decode cX4_powerUp 46 = .ok (.invokevirtual 87, 3) := by decide +kernel
theorem dX4_powerUp_49 : decode cX4_powerUp 49 = .ok (.istore_n 2, 1) := by decide +kernel
theorem dX4_powerUp_50 : decode cX4_powerUp 50 = .ok (.aload_n 0, 1) := by decide +kernel
theorem dX4_powerUp_51 : decode cX4_powerUp 51 = .ok (.iload_n 2, 1) := by decide +kernel
theorem dX4_powerUp_52 : decode cX4_powerUp 52 = .ok (.invokevirtual 77, 3) := by decide +kernel
theorem dX4_powerUp_55 : decode cX4_powerUp 55 = .ok (.ifCond .eq 74, 3) := by decide +kernel
theorem dX4_powerUp_58 : decode cX4_powerUp 58 = .ok (.aload_n 0, 1) := by decide +kernel
theorem dX4_powerUp_59 : decode cX4_powerUp 59 = .ok (.iload_n 2, 1) := by decide +kernel
theorem dX4_powerUp_60 : decode cX4_powerUp 60 = .ok (.invokevirtual 65, 3) := by decide +kernel
theorem dX4_powerUp_63 : decode cX4_powerUp 63 = .ok (.ifCond .ne 66, 3) := by decide +kernel
theorem dX4_powerUp_66 : decode cX4_powerUp 66 = .ok (.aload_n 0, 1) := by decide +kernel
theorem dX4_powerUp_67 : decode cX4_powerUp 67 = .ok (.iload_n 2, 1) := by decide +kernel
theorem dX4_powerUp_68 : decode cX4_powerUp 68 = .ok (.bipush 10, 2) := by decide +kernel
theorem dX4_powerUp_70 : decode cX4_powerUp 70 = .ok (.invokevirtual 45, 3) := by decide +kernel
theorem dX4_powerUp_73 : decode cX4_powerUp 73 = .ok (.ifCond .ne 56, 3) := by decide +kernel
theorem dX4_powerUp_76 : decode cX4_powerUp 76 = .ok (.aload_n 0, 1) := by decide +kernel
theorem dX4_powerUp_77 : decode cX4_powerUp 77 = .ok (.iload_n 2, 1) := by decide +kernel
theorem dX4_powerUp_78 : decode cX4_powerUp 78 = .ok (.bipush 7, 2) := by decide +kernel
theorem dX4_powerUp_80 : decode cX4_powerUp 80 = .ok (.invokevirtual 45, 3) := by decide +kernel
theorem dX4_powerUp_83 : decode cX4_powerUp 83 = .ok (.aload_n 0, 1) := by decide +kernel
theorem dX4_powerUp_84 : decode cX4_powerUp 84 = .ok (.invokevirtual 71, 3) := by decide +kernel
theorem dX4_powerUp_87 : decode cX4_powerUp 87 = .ok (.if_icmp .gt 42, 3) := by decide +kernel
theorem dX4_powerUp_90 : decode cX4_powerUp 90 = .ok (.aload_n 0, 1) := by decide +kernel
theorem dX4_powerUp_91 : decode cX4_powerUp 91 = .ok (.getfield 7, 3) := by decide +kernel
theorem dX4_powerUp_94 : decode cX4_powerUp 94 = .ok (.iload_n 2, 1) := by decide +kernel
theorem dX4_powerUp_95 : decode cX4_powerUp 95 = .ok (.bipush 8, 2) := by decide +kernel
theorem dX4_powerUp_97 : decode cX4_powerUp 97 = .ok (.invokestatic 26, 3) := by decide +kernel
theorem dX4_powerUp_100 : decode cX4_powerUp 100 = .ok (.aload_n 0, 1) := by decide +kernel
theorem dX4_powerUp_101 : decode cX4_powerUp 101 = .ok (.iload_n 2, 1) := by decide +kernel
theorem dX4_powerUp_102 : decode cX4_powerUp 102 = .ok (.bipush 7, 2) := by decide +kernel
theorem dX4_powerUp_104 : decode cX4_powerUp 104 = .ok (.invokevirtual 45, 3) := by decide +kernel
theorem dX4_powerUp_107 : decode cX4_powerUp 107 = .ok (.iastore, 1) := by decide +kernel
theorem dX4_powerUp_108 : decode cX4_powerUp 108 = .ok (.aload_n 0, 1) := by decide +kernel
theorem dX4_powerUp_109 : decode cX4_powerUp 109 = .ok (.getfield 7, 3) := by decide +kernel
theorem dX4_powerUp_112 : decode cX4_powerUp 112 = .ok (.bipush 10, 2) := by decide +kernel
theorem dX4_powerUp_114 : decode cX4_powerUp 114 = .ok (.aload_n 0, 1) := by decide +kernel
theorem dX4_powerUp_115 : decode cX4_powerUp 115 = .ok (.getfield 7, 3) := by decide +kernel
theorem dX4_powerUp_118 : decode cX4_powerUp 118 = .ok (.bipush 7, 2) := by decide +kernel
theorem dX4_powerUp_120 : decode cX4_powerUp 120 = .ok (.iaload, 1) := by decide +kernel
theorem dX4_powerUp_121 : decode cX4_powerUp 121 = .ok (.iastore, 1) := by decide +kernel
theorem dX4_powerUp_122 : decode cX4_powerUp 122 = .ok (.aload_n 0, 1) := by decide +kernel
theorem dX4_powerUp_123 : decode cX4_powerUp 123 = .ok (.iload_n 2, 1) := by decide +kernel
theorem dX4_powerUp_124 : decode cX4_powerUp 124 = .ok (.iconst 0, 1) := by decide +kernel
theorem dX4_powerUp_125 : decode cX4_powerUp 125 = .ok (.invokevirtual 90, 3) := by decide +kernel
theorem dX4_powerUp_128 : decode cX4_powerUp 128 = .ok (.return_, 1) := by decide +kernel
theorem dX4_powerUp_129 : decode cX4_powerUp 129 = .ok (.iinc 1 1, 3) := by decide +kernel
theorem dX4_powerUp_132 : decode cX4_powerUp 132 = .ok (.goto (-94), 3) := by decide +kernel
theorem dX4_powerUp_135 : decode cX4_powerUp 135 = .ok (.return_, 1) := by decide +kernel
theorem dX4_second_0 : decode cX4_second 0 = .ok (.aload_n 0, 1) := by decide +kernel
theorem dX4_second_1 : decode cX4_second 1 = .ok (.invokevirtual 97, 3) := by decide +kernel
theorem dX4_second_4 : decode cX4_second 4 = .ok (.pop, 1) := by decide +kernel
theorem dX4_second_5 : decode cX4_second 5 = .ok (.iconst 0, 1) := by decide +kernel
theorem dX4_second_6 : decode cX4_second 6 = .ok (.istore_n 1, 1) := by decide +kernel
theorem dX4_second_7 : decode cX4_second 7 = .ok (.iconst 0, 1) := by decide +kernel
theorem dX4_second_8 : decode cX4_second 8 = .ok (.istore_n 2, 1) := by decide +kernel
theorem dX4_second_9 : decode cX4_second 9 = .ok (.iload_n 2, 1) := by decide +kernel
theorem dX4_second_10 : decode cX4_second 10 = .ok (.bipush 8, 2) := by decide +kernel
theorem dX4_second_12 : decode cX4_second 12 = .ok (.if_icmp .ge 27, 3) := by decide +kernel
theorem dX4_second_15 : decode cX4_second 15 = .ok (.iload_n 1, 1) := by decide +kernel
theorem dX4_second_16 : decode cX4_second 16 = .ok (.aload_n 0, 1) := by decide +kernel
theorem dX4_second_17 : decode cX4_second 17 = .ok (.iload_n 2, 1) := by decide +kernel
theorem dX4_second_18 : decode cX4_second 18 = .ok (.invokevirtual 100, 3) := by decide +kernel
theorem dX4_second_21 : decode cX4_second 21 = .ok (.ifCond .eq 9, 3) := by decide +kernel
theorem dX4_second_24 : decode cX4_second 24 = .ok (.iconst 1, 1) := by decide +kernel
theorem dX4_second_25 : decode cX4_second 25 = .ok (.iload_n 2, 1) := by decide +kernel
theorem dX4_second_26 : decode cX4_second 26 = .ok (.ishl, 1) := by decide +kernel
theorem dX4_second_27 : decode cX4_second 27 = .ok (.goto 4, 3) := by decide +kernel
theorem dX4_second_30 : decode cX4_second 30 = .ok (.iconst 0, 1) := by decide +kernel
theorem dX4_second_31 : decode cX4_second 31 = .ok (.ior, 1) := by decide +kernel
theorem dX4_second_32 : decode cX4_second 32 = .ok (.istore_n 1, 1) := by decide +kernel
theorem dX4_second_33 : decode cX4_second 33 = .ok (.iinc 2 1, 3) := by decide +kernel
theorem dX4_second_36 : decode cX4_second 36 = .ok (.goto (-27), 3) := by decide +kernel
theorem dX4_second_39 : decode cX4_second 39 = .ok (.iconst 0, 1) := by decide +kernel
theorem dX4_second_40 : decode cX4_second 40 = .ok (.istore_n 2, 1) := by decide +kernel
theorem dX4_second_41 : decode cX4_second 41 = .ok (.iload_n 2, 1) := by decide +kernel
theorem dX4_second_42 : decode cX4_second 42 = .ok (.bipush 8, 2) := by decide +kernel
theorem dX4_second_44 : decode cX4_second 44 = .ok (.if_icmp .ge 56, 3) := by decide +kernel
theorem dX4_second_47 : decode cX4_second 47 = .ok (.iload_n 1, 1) := by decide +kernel
theorem dX4_second_48 : decode cX4_second 48 = .ok (.iload_n 2, 1) := by decide +kernel
theorem dX4_second_49 : decode cX4_second 49 = .ok (.ishr, 1) := by decide +kernel
theorem dX4_second_50 : decode cX4_second 50 = .ok (.iconst 1, 1) := by decide +kernel
theorem dX4_second_51 : decode cX4_second 51 = .ok (.iand, 1) := by decide +kernel
theorem dX4_second_52 : decode cX4_second 52 = .ok (.ifCond .ne 17, 3) := by decide +kernel
theorem dX4_second_55 : decode cX4_second 55 = .ok (.aload_n 0, 1) := by decide +kernel
theorem dX4_second_56 : decode cX4_second 56 = .ok (.iload_n 2, 1) := by decide +kernel
theorem dX4_second_57 : decode cX4_second 57 = .ok (.bipush 10, 2) := by decide +kernel
theorem dX4_second_59 : decode cX4_second 59 = .ok (.invokevirtual 45, 3) := by decide +kernel
theorem dX4_second_62 : decode cX4_second 62 = .ok (.ifCond .le 7, 3) := by decide +kernel
theorem dX4_second_65 : decode cX4_second 65 = .ok (.iconst 1, 1) := by decide +kernel
theorem dX4_second_66 : decode cX4_second 66 = .ok (.goto 4, 3) := by decide +kernel
theorem dX4_second_69 : decode cX4_second 69 = .ok (.iconst 0, 1) := by decide +kernel
theorem dX4_second_70 : decode cX4_second 70 = .ok (.istore_n 3, 1) := by decide +kernel
theorem dX4_second_71 : decode cX4_second 71 = .ok (.aload_n 0, 1) := by decide +kernel
theorem dX4_second_72 : decode cX4_second 72 = .ok (.getfield 7, 3) := by decide +kernel
theorem dX4_second_75 : decode cX4_second 75 = .ok (.iload_n 2, 1) := by decide +kernel
theorem dX4_second_76 : decode cX4_second 76 = .ok (.bipush 10, 2) := by decide +kernel
theorem dX4_second_78 : decode cX4_second 78 = .ok (.invokestatic 26, 3) := by decide +kernel
theorem dX4_second_81 : decode cX4_second 81 = .ok (.dup2, 1) := by decide +kernel
theorem dX4_second_82 : decode cX4_second 82 = .ok (.iaload, 1) := by decide +kernel
theorem dX4_second_83 : decode cX4_second 83 = .ok (.iload_n 3, 1) := by decide +kernel
theorem dX4_second_84 : decode cX4_second 84 = .ok (.ifCond .eq 7, 3) := by decide +kernel
theorem dX4_second_87 : decode cX4_second 87 = .ok (.iconst 1, 1) := by decide +kernel
theorem dX4_second_88 : decode cX4_second 88 = .ok (.goto 4, 3) := by decide +kernel
theorem dX4_second_91 : decode cX4_second 91 = .ok (.iconst 0, 1) := by decide +kernel
theorem dX4_second_92 : decode cX4_second 92 = .ok (.isub, 1) := by decide +kernel
theorem dX4_second_93 : decode cX4_second 93 = .ok (.iastore, 1) := by decide +kernel
theorem dX4_second_94 : decode cX4_second 94 = .ok (.iinc 2 1, 3) := by decide +kernel
theorem dX4_second_97 : decode cX4_second 97 = .ok (.goto (-56), 3) := by decide +kernel
theorem dX4_second_100 : decode cX4_second 100 = .ok (.aload_n 0, 1) := by decide +kernel
theorem dX4_second_101 : decode cX4_second 101 = .ok (.invokevirtual 103, 3) := by decide +kernel
theorem dX4_second_104 : decode cX4_second 104 = .ok (.aload_n 0, 1) := by decide +kernel
theorem dX4_second_105 : decode cX4_second 105 = .ok (.getfield 7, 3) := by decide +kernel
theorem dX4_second_108 : decode cX4_second 108 = .ok (.bipush 11, 2) := by decide +kernel
theorem dX4_second_110 : decode cX4_second 110 = .ok (.dup2, 1) := by decide +kernel
theorem dX4_second_111 : decode cX4_second 111 = .ok (.iaload, 1) := by decide +kernel
theorem dX4_second_112 : decode cX4_second 112 = .ok (.iconst 1, 1) := by decide +kernel
theorem dX4_second_113 : decode cX4_second 113 = .ok (.iadd, 1) := by decide +kernel
theorem dX4_second_114 : decode cX4_second 114 = .ok (.iastore, 1) := by decide +kernel
theorem dX4_second_115 : decode cX4_second 115 = .ok (.return_, 1) := by decide +kernel
theorem dX4_advance_0 : decode cX4_advance 0 = .ok (.iload_n 1, 1) := by decide +kernel
theorem dX4_advance_1 : decode cX4_advance 1 = .ok (.iconst 1, 1) := by decide +kernel
theorem dX4_advance_2 : decode cX4_advance 2 = .ok (.bipush 60, 2) := by decide +kernel
theorem dX4_advance_4 : decode cX4_advance 4 = .ok (.invokestatic 30, 3) := by decide +kernel
theorem dX4_advance_7 : decode cX4_advance 7 = .ok (.ifCond .ne 6, 3) := by decide +kernel
theorem dX4_advance_10 : decode cX4_advance 10 = .ok (.bipush (-2), 2) := by decide +kernel
theorem dX4_advance_12 : decode cX4_advance 12 = .ok (.ireturn, 1) := by decide +kernel
theorem dX4_advance_13 : decode cX4_advance 13 = .ok (.aload_n 0, 1) := by decide +kernel
theorem dX4_advance_14 : decode cX4_advance 14 = .ok (.iconst 0, 1) := by decide +kernel
theorem dX4_advance_15 : decode cX4_advance 15 = .ok (.putfield 83, 3) := by decide +kernel
theorem dX4_advance_18 : decode cX4_advance 18 = .ok (.iconst 0, 1) := by decide +kernel
theorem dX4_advance_19 : decode cX4_advance 19 = .ok (.istore_n 2, 1) := by decide +kernel
theorem dX4_advance_20 : decode cX4_advance 20 = .ok (.iload_n 2, 1) := by decide +kernel
theorem dX4_advance_21 : decode cX4_advance 21 = .ok (.iload_n 1, 1) := by decide +kernel
theorem dX4_advance_22 : decode cX4_advance 22 = .ok (.if_icmp .ge 13, 3) := by decide +kernel
theorem dX4_advance_25 : decode cX4_advance 25 = .ok (.aload_n 0, 1) := by decide +kernel
theorem dX4_advance_26 : decode cX4_advance 26 = .ok (.invokevirtual 106, 3) := by decide +kernel
theorem dX4_advance_29 : decode cX4_advance 29 = .ok (.iinc 2 1, 3) := by decide +kernel
theorem dX4_advance_32 : decode cX4_advance 32 = .ok (.goto (-12), 3) := by decide +kernel
theorem dX4_advance_35 : decode cX4_advance 35 = .ok (.aload_n 0, 1) := by decide +kernel
theorem dX4_advance_36 : decode cX4_advance 36 = .ok (.getfield 83, 3) := by decide +kernel
theorem dX4_advance_39 : decode cX4_advance 39 = .ok (.ireturn, 1) := by decide +kernel
theorem dX4_clock_0 : decode cX4_clock 0 = .ok (.aload_n 0, 1) := by decide +kernel
theorem dX4_clock_1 : decode cX4_clock 1 = .ok (.getfield 7, 3) := by decide +kernel
theorem dX4_clock_4 : decode cX4_clock 4 = .ok (.bipush 11, 2) := by decide +kernel
theorem dX4_clock_6 : decode cX4_clock 6 = .ok (.iaload, 1) := by decide +kernel
theorem dX4_clock_7 : decode cX4_clock 7 = .ok (.ireturn, 1) := by decide +kernel
theorem dX4_eventCount_0 : decode cX4_eventCount 0 = .ok (.aload_n 0, 1) := by decide +kernel
theorem dX4_eventCount_1 : decode cX4_eventCount 1 = .ok (.getfield 7, 3) := by decide +kernel
theorem dX4_eventCount_4 : decode cX4_eventCount 4 = .ok (.bipush 12, 2) := by decide +kernel
theorem dX4_eventCount_6 : decode cX4_eventCount 6 = .ok (.iaload, 1) := by decide +kernel
theorem dX4_eventCount_7 : decode cX4_eventCount 7 = .ok (.ireturn, 1) := by decide +kernel
theorem dX4_ofEvent_0 : decode cX4_ofEvent 0 = .ok (.iload_n 1, 1) := by decide +kernel
theorem dX4_ofEvent_1 : decode cX4_ofEvent 1 = .ok (.iconst 0, 1) := by decide +kernel
theorem dX4_ofEvent_2 : decode cX4_ofEvent 2 = .ok (.aload_n 0, 1) := by decide +kernel
theorem dX4_ofEvent_3 : decode cX4_ofEvent 3 = .ok (.getfield 7, 3) := by decide +kernel
theorem dX4_ofEvent_6 : decode cX4_ofEvent 6 = .ok (.bipush 12, 2) := by decide +kernel
theorem dX4_ofEvent_8 : decode cX4_ofEvent 8 = .ok (.iaload, 1) := by decide +kernel
theorem dX4_ofEvent_9 : decode cX4_ofEvent 9 = .ok (.iconst 1, 1) := by decide +kernel
theorem dX4_ofEvent_10 : decode cX4_ofEvent 10 = .ok (.isub, 1) := by decide +kernel
theorem dX4_ofEvent_11 : decode cX4_ofEvent 11 = .ok (.invokestatic 30, 3) := by decide +kernel
theorem dX4_ofEvent_14 : decode cX4_ofEvent 14 = .ok (.ifCond .eq 19, 3) := by decide +kernel
theorem dX4_ofEvent_17 : decode cX4_ofEvent 17 = .ok (.aload_n 0, 1) := by decide +kernel
theorem dX4_ofEvent_18 : decode cX4_ofEvent 18 = .ok (.getfield 7, 3) := by decide +kernel
theorem dX4_ofEvent_21 : decode cX4_ofEvent 21 = .ok (.bipush 13, 2) := by decide +kernel
theorem dX4_ofEvent_23 : decode cX4_ofEvent 23 = .ok (.iconst 3, 1) := by decide +kernel
theorem dX4_ofEvent_24 : decode cX4_ofEvent 24 = .ok (.iload_n 1, 1) := by decide +kernel
theorem dX4_ofEvent_25 : decode cX4_ofEvent 25 = .ok (.imul, 1) := by decide +kernel
theorem dX4_ofEvent_26 : decode cX4_ofEvent 26 = .ok (.iadd, 1) := by decide +kernel
theorem dX4_ofEvent_27 : decode cX4_ofEvent 27 = .ok (.iload_n 2, 1) := by decide +kernel
theorem dX4_ofEvent_28 : decode cX4_ofEvent 28 = .ok (.iadd, 1) := by decide +kernel
theorem dX4_ofEvent_29 : decode cX4_ofEvent 29 = .ok (.iaload, 1) := by decide +kernel
theorem dX4_ofEvent_30 : decode cX4_ofEvent 30 = .ok (.goto 4, 3) := by decide +kernel
theorem dX4_ofEvent_33 : decode cX4_ofEvent 33 = .ok (.iconst (-1), 1) := by decide +kernel
theorem dX4_ofEvent_34 : decode cX4_ofEvent 34 = .ok (.ireturn, 1) := by decide +kernel
theorem dX4_eventTime_0 : decode cX4_eventTime 0 = .ok (.aload_n 0, 1) := by decide +kernel
theorem dX4_eventTime_1 : decode cX4_eventTime 1 = .ok (.iload_n 1, 1) := by decide +kernel
theorem dX4_eventTime_2 : decode cX4_eventTime 2 = .ok (.iconst 0, 1) := by decide +kernel
theorem dX4_eventTime_3 : decode cX4_eventTime 3 = .ok (.invokevirtual 109, 3) := by decide +kernel
theorem dX4_eventTime_6 : decode cX4_eventTime 6 = .ok (.ireturn, 1) := by decide +kernel
theorem dX4_eventPort_0 : decode cX4_eventPort 0 = .ok (.aload_n 0, 1) := by decide +kernel
theorem dX4_eventPort_1 : decode cX4_eventPort 1 = .ok (.iload_n 1, 1) := by decide +kernel
theorem dX4_eventPort_2 : decode cX4_eventPort 2 = .ok (.iconst 1, 1) := by decide +kernel
theorem dX4_eventPort_3 : decode cX4_eventPort 3 = .ok (.invokevirtual 109, 3) := by decide +kernel
theorem dX4_eventPort_6 : decode cX4_eventPort 6 = .ok (.ireturn, 1) := by decide +kernel
theorem dX4_eventKind_0 : decode cX4_eventKind 0 = .ok (.aload_n 0, 1) := by decide +kernel
theorem dX4_eventKind_1 : decode cX4_eventKind 1 = .ok (.iload_n 1, 1) := by decide +kernel
theorem dX4_eventKind_2 : decode cX4_eventKind 2 = .ok (.iconst 2, 1) := by decide +kernel
theorem dX4_eventKind_3 : decode cX4_eventKind 3 = .ok (.invokevirtual 109, 3) := by decide +kernel
theorem dX4_eventKind_6 : decode cX4_eventKind 6 = .ok (.ireturn, 1) := by decide +kernel
theorem dX4_keep_0 : decode cX4_keep 0 = .ok (.iconst 0, 1) := by decide +kernel
theorem dX4_keep_1 : decode cX4_keep 1 = .ok (.istore_n 1, 1) := by decide +kernel
theorem dX4_keep_2 : decode cX4_keep 2 = .ok (.iload_n 1, 1) := by decide +kernel
theorem dX4_keep_3 : decode cX4_keep 3 = .ok (.sipush 149, 3) := by decide +kernel
theorem dX4_keep_6 : decode cX4_keep 6 = .ok (.if_icmp .ge 21, 3) := by decide +kernel
theorem dX4_keep_9 : decode cX4_keep 9 = .ok (.aload_n 0, 1) := by decide +kernel
theorem dX4_keep_10 : decode cX4_keep 10 = .ok (.getfield 13, 3) := by decide +kernel
theorem dX4_keep_13 : decode cX4_keep 13 = .ok (.iload_n 1, 1) := by decide +kernel
theorem dX4_keep_14 : decode cX4_keep 14 = .ok (.aload_n 0, 1) := by decide +kernel
theorem dX4_keep_15 : decode cX4_keep 15 = .ok (.getfield 7, 3) := by decide +kernel
theorem dX4_keep_18 : decode cX4_keep 18 = .ok (.iload_n 1, 1) := by decide +kernel
theorem dX4_keep_19 : decode cX4_keep 19 = .ok (.iaload, 1) := by decide +kernel
theorem dX4_keep_20 : decode cX4_keep 20 = .ok (.iastore, 1) := by decide +kernel
theorem dX4_keep_21 : decode cX4_keep 21 = .ok (.iinc 1 1, 3) := by decide +kernel
theorem dX4_keep_24 : decode cX4_keep 24 = .ok (.goto (-22), 3) := by decide +kernel
theorem dX4_keep_27 : decode cX4_keep 27 = .ok (.return_, 1) := by decide +kernel
theorem dX4_putBack_0 : decode cX4_putBack 0 = .ok (.iconst 0, 1) := by decide +kernel
theorem dX4_putBack_1 : decode cX4_putBack 1 = .ok (.istore_n 1, 1) := by decide +kernel
theorem dX4_putBack_2 : decode cX4_putBack 2 = .ok (.iload_n 1, 1) := by decide +kernel
theorem dX4_putBack_3 : decode cX4_putBack 3 = .ok (.sipush 149, 3) := by decide +kernel
theorem dX4_putBack_6 : decode cX4_putBack 6 = .ok (.if_icmp .ge 21, 3) := by decide +kernel
theorem dX4_putBack_9 : decode cX4_putBack 9 = .ok (.aload_n 0, 1) := by decide +kernel
theorem dX4_putBack_10 : decode cX4_putBack 10 = .ok (.getfield 7, 3) := by decide +kernel
theorem dX4_putBack_13 : decode cX4_putBack 13 = .ok (.iload_n 1, 1) := by decide +kernel
theorem dX4_putBack_14 : decode cX4_putBack 14 = .ok (.aload_n 0, 1) := by decide +kernel
theorem dX4_putBack_15 : decode cX4_putBack 15 = .ok (.getfield 13, 3) := by decide +kernel
theorem dX4_putBack_18 : decode cX4_putBack 18 = .ok (.iload_n 1, 1) := by decide +kernel
theorem dX4_putBack_19 : decode cX4_putBack 19 = .ok (.iaload, 1) := by decide +kernel
theorem dX4_putBack_20 : decode cX4_putBack 20 = .ok (.iastore, 1) := by decide +kernel
theorem dX4_putBack_21 : decode cX4_putBack 21 = .ok (.iinc 1 1, 3) := by decide +kernel
theorem dX4_putBack_24 : decode cX4_putBack 24 = .ok (.goto (-22), 3) := by decide +kernel
theorem dX4_putBack_27 : decode cX4_putBack 27 = .ok (.return_, 1) := by decide +kernel
theorem dX4_shedIfFails_0 : decode cX4_shedIfFails 0 = .ok (.iload_n 1, 1) := by decide +kernel
theorem dX4_shedIfFails_1 : decode cX4_shedIfFails 1 = .ok (.invokestatic 34, 3) := by decide +kernel
theorem dX4_shedIfFails_4 : decode cX4_shedIfFails 4 = .ok (.ifCond .ne 5, 3) := by decide +kernel
theorem dX4_shedIfFails_7 : decode cX4_shedIfFails 7 = .ok (.iconst (-1), 1) := by decide +kernel
theorem dX4_shedIfFails_8 : decode cX4_shedIfFails 8 = .ok (.ireturn, 1) := by decide +kernel
theorem dX4_shedIfFails_9 : decode cX4_shedIfFails 9 = .ok (.aload_n 0, 1) := by decide +kernel
theorem dX4_shedIfFails_10 : decode cX4_shedIfFails 10 = .ok (.invokevirtual 112, 3) := by decide +kernel
theorem dX4_shedIfFails_13 : decode cX4_shedIfFails 13 = .ok (.aload_n 0, 1) := by decide +kernel
theorem dX4_shedIfFails_14 : decode cX4_shedIfFails 14 = .ok (.getfield 7, 3) := by decide +kernel
theorem dX4_shedIfFails_17 : decode cX4_shedIfFails 17 = .ok (.iconst 3, 1) := by decide +kernel
theorem dX4_shedIfFails_18 : decode cX4_shedIfFails 18 = .ok (.iload_n 1, 1) := by decide +kernel
theorem dX4_shedIfFails_19 : decode cX4_shedIfFails 19 = .ok (.iadd, 1) := by decide +kernel
theorem dX4_shedIfFails_20 : decode cX4_shedIfFails 20 = .ok (.iconst 0, 1) := by decide +kernel
theorem dX4_shedIfFails_21 : decode cX4_shedIfFails 21 = .ok (.iastore, 1) := by decide +kernel
theorem dX4_shedIfFails_22 : decode cX4_shedIfFails 22 = .ok (.aload_n 0, 1) := by decide +kernel
theorem dX4_shedIfFails_23 : decode cX4_shedIfFails 23 = .ok (.invokevirtual 97, 3) := by decide +kernel
theorem dX4_shedIfFails_26 : decode cX4_shedIfFails 26 = .ok (.istore_n 2, 1) := by decide +kernel
theorem dX4_shedIfFails_27 : decode cX4_shedIfFails 27 = .ok (.aload_n 0, 1) := by decide +kernel
theorem dX4_shedIfFails_28 : decode cX4_shedIfFails 28 = .ok (.invokevirtual 115, 3) := by decide +kernel
theorem dX4_shedIfFails_31 : decode cX4_shedIfFails 31 = .ok (.iload_n 2, 1) := by decide +kernel
theorem dX4_shedIfFails_32 : decode cX4_shedIfFails 32 = .ok (.ireturn, 1) := by decide +kernel
theorem dX4_fittingPorts_0 : decode cX4_fittingPorts 0 = .ok (.aload_n 0, 1) := by decide +kernel
theorem dX4_fittingPorts_1 : decode cX4_fittingPorts 1 = .ok (.invokevirtual 41, 3) := by decide +kernel
theorem dX4_fittingPorts_4 : decode cX4_fittingPorts 4 = .ok (.istore_n 1, 1) := by decide +kernel
theorem dX4_fittingPorts_5 : decode cX4_fittingPorts 5 = .ok (.iconst 0, 1) := by decide +kernel
theorem dX4_fittingPorts_6 : decode cX4_fittingPorts 6 = .ok (.istore_n 2, 1) := by decide +kernel
theorem dX4_fittingPorts_7 : decode cX4_fittingPorts 7 = .ok (.iconst 0, 1) := by decide +kernel
theorem dX4_fittingPorts_8 : decode cX4_fittingPorts 8 = .ok (.istore_n 3, 1) := by decide +kernel
theorem dX4_fittingPorts_9 : decode cX4_fittingPorts 9 = .ok (.iload_n 3, 1) := by decide +kernel
theorem dX4_fittingPorts_10 : decode cX4_fittingPorts 10 = .ok (.bipush 8, 2) := by decide +kernel
theorem dX4_fittingPorts_12 : decode cX4_fittingPorts 12 = .ok (.if_icmp .ge 55, 3) := by decide +kernel
theorem dX4_fittingPorts_15 : decode cX4_fittingPorts 15 = .ok (.aload_n 0, 1) := by decide +kernel
theorem dX4_fittingPorts_16 : decode cX4_fittingPorts 16 = .ok (.iload_n 3, 1) := by decide +kernel
theorem dX4_fittingPorts_17 : decode cX4_fittingPorts 17 = .ok (.invokevirtual 87, 3) := by decide +kernel
theorem dX4_fittingPorts_20 : decode cX4_fittingPorts 20 = .ok (.istore 4, 2) := by decide +kernel
theorem dX4_fittingPorts_22 : decode cX4_fittingPorts 22 = .ok (.aload_n 0, 1) := by decide +kernel
theorem dX4_fittingPorts_23 : decode cX4_fittingPorts 23 = .ok (.iload 4, 2) := by decide +kernel
theorem dX4_fittingPorts_25 : decode cX4_fittingPorts 25 = .ok (.invokevirtual 77, 3) := by decide +kernel
theorem dX4_fittingPorts_28 : decode cX4_fittingPorts 28 = .ok (.ifCond .eq 33, 3) := by decide +kernel
theorem dX4_fittingPorts_31 : decode cX4_fittingPorts 31 = .ok (.aload_n 0, 1) := by decide +kernel
theorem dX4_fittingPorts_32 : decode cX4_fittingPorts 32 = .ok (.iload 4, 2) := by decide +kernel
theorem dX4_fittingPorts_34 : decode cX4_fittingPorts 34 = .ok (.bipush 7, 2) := by decide +kernel
theorem dX4_fittingPorts_36 : decode cX4_fittingPorts 36 = .ok (.invokevirtual 45, 3) := by decide +kernel
theorem dX4_fittingPorts_39 : decode cX4_fittingPorts 39 = .ok (.iload_n 1, 1) := by decide +kernel
theorem dX4_fittingPorts_40 : decode cX4_fittingPorts 40 = .ok (.if_icmp .gt 21, 3) := by decide +kernel
theorem dX4_fittingPorts_43 : decode cX4_fittingPorts 43 = .ok (.iload_n 1, 1) := by decide +kernel
theorem dX4_fittingPorts_44 : decode cX4_fittingPorts 44 = .ok (.aload_n 0, 1) := by decide +kernel
theorem dX4_fittingPorts_45 : decode cX4_fittingPorts 45 = .ok (.iload 4, 2) := by decide +kernel
theorem dX4_fittingPorts_47 : decode cX4_fittingPorts 47 = .ok (.bipush 7, 2) := by decide +kernel
theorem dX4_fittingPorts_49 : decode cX4_fittingPorts 49 = .ok (.invokevirtual 45, 3) := by decide +kernel
theorem dX4_fittingPorts_52 : decode cX4_fittingPorts 52 = .ok (.isub, 1) := by decide +kernel
theorem dX4_fittingPorts_53 : decode cX4_fittingPorts 53 = .ok (.istore_n 1, 1) := by decide +kernel
theorem dX4_fittingPorts_54 : decode cX4_fittingPorts 54 = .ok (.iload_n 2, 1) := by decide +kernel
theorem dX4_fittingPorts_55 : decode cX4_fittingPorts 55 = .ok (.iconst 1, 1) := by decide +kernel
theorem dX4_fittingPorts_56 : decode cX4_fittingPorts 56 = .ok (.iload 4, 2) := by decide +kernel
theorem dX4_fittingPorts_58 : decode cX4_fittingPorts 58 = .ok (.ishl, 1) := by decide +kernel
theorem dX4_fittingPorts_59 : decode cX4_fittingPorts 59 = .ok (.ior, 1) := by decide +kernel
theorem dX4_fittingPorts_60 : decode cX4_fittingPorts 60 = .ok (.istore_n 2, 1) := by decide +kernel
theorem dX4_fittingPorts_61 : decode cX4_fittingPorts 61 = .ok (.iinc 3 1, 3) := by decide +kernel
theorem dX4_fittingPorts_64 : decode cX4_fittingPorts 64 = .ok (.goto (-55), 3) := by decide +kernel
theorem dX4_fittingPorts_67 : decode cX4_fittingPorts 67 = .ok (.iload_n 2, 1) := by decide +kernel
theorem dX4_fittingPorts_68 : decode cX4_fittingPorts 68 = .ok (.ireturn, 1) := by decide +kernel
theorem dX4_isStableSecond_0 : decode cX4_isStableSecond 0 = .ok (.iconst 0, 1) := by decide +kernel
theorem dX4_isStableSecond_1 : decode cX4_isStableSecond 1 = .ok (.istore_n 1, 1) := by decide +kernel
theorem dX4_isStableSecond_2 : decode cX4_isStableSecond 2 = .ok (.iload_n 1, 1) := by decide +kernel
theorem dX4_isStableSecond_3 : decode cX4_isStableSecond 3 = .ok (.sipush 149, 3) := by decide +kernel
theorem dX4_isStableSecond_6 : decode cX4_isStableSecond 6 = .ok (.if_icmp .ge 21, 3) := by decide +kernel
theorem dX4_isStableSecond_9 : decode cX4_isStableSecond 9 = .ok (.aload_n 0, 1) := by decide +kernel
theorem dX4_isStableSecond_10 : decode cX4_isStableSecond 10 = .ok (.getfield 23, 3) := by decide +kernel
theorem dX4_isStableSecond_13 : decode cX4_isStableSecond 13 = .ok (.iload_n 1, 1) := by decide +kernel
theorem dX4_isStableSecond_14 : decode cX4_isStableSecond 14 = .ok (.aload_n 0, 1) := by decide +kernel
theorem dX4_isStableSecond_15 : decode cX4_isStableSecond 15 = .ok (.getfield 7, 3) := by decide +kernel
theorem dX4_isStableSecond_18 : decode cX4_isStableSecond 18 = .ok (.iload_n 1, 1) := by decide +kernel
theorem dX4_isStableSecond_19 : decode cX4_isStableSecond 19 = .ok (.iaload, 1) := by decide +kernel
theorem dX4_isStableSecond_20 : decode cX4_isStableSecond 20 = .ok (.iastore, 1) := by decide +kernel
theorem dX4_isStableSecond_21 : decode cX4_isStableSecond 21 = .ok (.iinc 1 1, 3) := by decide +kernel
theorem dX4_isStableSecond_24 : decode cX4_isStableSecond 24 = .ok (.goto (-22), 3) := by decide +kernel
theorem dX4_isStableSecond_27 : decode cX4_isStableSecond 27 = .ok (.aload_n 0, 1) := by decide +kernel
theorem dX4_isStableSecond_28 : decode cX4_isStableSecond 28 = .ok (.invokevirtual 106, 3) := by decide +kernel
theorem dX4_isStableSecond_31 : decode cX4_isStableSecond 31 = .ok (.iconst 1, 1) := by decide +kernel
theorem dX4_isStableSecond_32 : decode cX4_isStableSecond 32 = .ok (.istore_n 1, 1) := by decide +kernel
theorem dX4_isStableSecond_33 : decode cX4_isStableSecond 33 = .ok (.iconst 0, 1) := by decide +kernel
theorem dX4_isStableSecond_34 : decode cX4_isStableSecond 34 = .ok (.istore_n 2, 1) := by decide +kernel
theorem dX4_isStableSecond_35 : decode cX4_isStableSecond 35 = .ok (.iload_n 2, 1) := by decide +kernel
theorem dX4_isStableSecond_36 : decode cX4_isStableSecond 36 = .ok (.sipush 149, 3) := by decide +kernel
theorem dX4_isStableSecond_39 : decode cX4_isStableSecond 39 = .ok (.if_icmp .ge 40, 3) := by decide +kernel
theorem dX4_isStableSecond_42 : decode cX4_isStableSecond 42 = .ok (.iload_n 1, 1) := by decide +kernel
theorem dX4_isStableSecond_43 : decode cX4_isStableSecond 43 = .ok (.ifCond .eq 28, 3) := by decide +kernel
theorem dX4_isStableSecond_46 : decode cX4_isStableSecond 46 = .ok (.iload_n 2, 1) := by decide +kernel
theorem dX4_isStableSecond_47 : decode cX4_isStableSecond 47 = .ok (.bipush 11, 2) := by decide +kernel
theorem dX4_isStableSecond_49 : decode cX4_isStableSecond 49 = .ok (.if_icmp .eq 18, 3) := by decide +kernel
theorem dX4_isStableSecond_52 : decode cX4_isStableSecond 52 = .ok (.aload_n 0, 1) := by decide +kernel
theorem dX4_isStableSecond_53 : decode cX4_isStableSecond 53 = .ok (.getfield 23, 3) := by decide +kernel
theorem dX4_isStableSecond_56 : decode cX4_isStableSecond 56 = .ok (.iload_n 2, 1) := by decide +kernel
theorem dX4_isStableSecond_57 : decode cX4_isStableSecond 57 = .ok (.iaload, 1) := by decide +kernel
theorem dX4_isStableSecond_58 : decode cX4_isStableSecond 58 = .ok (.aload_n 0, 1) := by decide +kernel
theorem dX4_isStableSecond_59 : decode cX4_isStableSecond 59 = .ok (.getfield 7, 3) := by decide +kernel
theorem dX4_isStableSecond_62 : decode cX4_isStableSecond 62 = .ok (.iload_n 2, 1) := by decide +kernel
theorem dX4_isStableSecond_63 : decode cX4_isStableSecond 63 = .ok (.iaload, 1) := by decide +kernel
theorem dX4_isStableSecond_64 : decode cX4_isStableSecond 64 = .ok (.if_icmp .ne 7, 3) := by decide +kernel
theorem dX4_isStableSecond_67 : decode cX4_isStableSecond 67 = .ok (.iconst 1, 1) := by decide +kernel
theorem dX4_isStableSecond_68 : decode cX4_isStableSecond 68 = .ok (.goto 4, 3) := by decide +kernel
theorem dX4_isStableSecond_71 : decode cX4_isStableSecond 71 = .ok (.iconst 0, 1) := by decide +kernel
theorem dX4_isStableSecond_72 : decode cX4_isStableSecond 72 = .ok (.istore_n 1, 1) := by decide +kernel
theorem dX4_isStableSecond_73 : decode cX4_isStableSecond 73 = .ok (.iinc 2 1, 3) := by decide +kernel
theorem dX4_isStableSecond_76 : decode cX4_isStableSecond 76 = .ok (.goto (-41), 3) := by decide +kernel
theorem dX4_isStableSecond_79 : decode cX4_isStableSecond 79 = .ok (.iload_n 1, 1) := by decide +kernel
theorem dX4_isStableSecond_80 : decode cX4_isStableSecond 80 = .ok (.ireturn, 1) := by decide +kernel
theorem dX4_findStable_0 : decode cX4_findStable 0 = .ok (.aload_n 0, 1) := by decide +kernel
theorem dX4_findStable_1 : decode cX4_findStable 1 = .ok (.invokevirtual 112, 3) := by decide +kernel
theorem dX4_findStable_4 : decode cX4_findStable 4 = .ok (.bipush (-6), 2) := by decide +kernel
theorem dX4_findStable_6 : decode cX4_findStable 6 = .ok (.istore_n 1, 1) := by decide +kernel
theorem dX4_findStable_7 : decode cX4_findStable 7 = .ok (.iconst 0, 1) := by decide +kernel
theorem dX4_findStable_8 : decode cX4_findStable 8 = .ok (.istore_n 2, 1) := by decide +kernel
theorem dX4_findStable_9 : decode cX4_findStable 9 = .ok (.iload_n 2, 1) := by decide +kernel
theorem dX4_findStable_10 : decode cX4_findStable 10 = .ok (.sipush 300, 3) := by decide +kernel
theorem dX4_findStable_13 : decode cX4_findStable 13 = .ok (.if_icmp .gt 35, 3) := by decide +kernel
theorem dX4_findStable_16 : decode cX4_findStable 16 = .ok (.iload_n 1, 1) := by decide +kernel
theorem dX4_findStable_17 : decode cX4_findStable 17 = .ok (.ifCond .ge 31, 3) := by decide +kernel
theorem dX4_findStable_20 : decode cX4_findStable 20 = .ok (.aload_n 0, 1) := by decide +kernel
theorem dX4_findStable_21 : decode cX4_findStable 21 = .ok (.aload_n 0, 1) := by decide +kernel
theorem dX4_findStable_22 : decode cX4_findStable 22 = .ok (.invokevirtual 118, 3) := by decide +kernel
theorem dX4_findStable_25 : decode cX4_findStable 25 = .ok (.putfield 121, 3) := by decide +kernel
theorem dX4_findStable_28 : decode cX4_findStable 28 = .ok (.aload_n 0, 1) := by decide +kernel
theorem dX4_findStable_29 : decode cX4_findStable 29 = .ok (.invokevirtual 124, 3) := by decide +kernel
theorem dX4_findStable_32 : decode cX4_findStable 32 = .ok (.ifCond .eq 7, 3) := by decide +kernel
theorem dX4_findStable_35 : decode cX4_findStable 35 = .ok (.iload_n 2, 1) := by decide +kernel
theorem dX4_findStable_36 : decode cX4_findStable 36 = .ok (.goto 5, 3) := by decide +kernel
theorem dX4_findStable_39 : decode cX4_findStable 39 = .ok (.bipush (-6), 2) := by decide +kernel
theorem dX4_findStable_41 : decode cX4_findStable 41 = .ok (.istore_n 1, 1) := by decide +kernel
theorem dX4_findStable_42 : decode cX4_findStable 42 = .ok (.iinc 2 1, 3) := by decide +kernel
theorem dX4_findStable_45 : decode cX4_findStable 45 = .ok (.goto (-36), 3) := by decide +kernel
theorem dX4_findStable_48 : decode cX4_findStable 48 = .ok (.aload_n 0, 1) := by decide +kernel
theorem dX4_findStable_49 : decode cX4_findStable 49 = .ok (.invokevirtual 115, 3) := by decide +kernel
theorem dX4_findStable_52 : decode cX4_findStable 52 = .ok (.iload_n 1, 1) := by decide +kernel
theorem dX4_findStable_53 : decode cX4_findStable 53 = .ok (.ireturn, 1) := by decide +kernel
theorem dX4_secondsToStable_0 : decode cX4_secondsToStable 0 = .ok (.aload_n 0, 1) := by decide +kernel
theorem dX4_secondsToStable_1 : decode cX4_secondsToStable 1 = .ok (.invokevirtual 128, 3) := by decide +kernel
theorem dX4_secondsToStable_4 : decode cX4_secondsToStable 4 = .ok (.ireturn, 1) := by decide +kernel
theorem dX4_stablePorts_0 : decode cX4_stablePorts 0 = .ok (.aload_n 0, 1) := by decide +kernel
theorem dX4_stablePorts_1 : decode cX4_stablePorts 1 = .ok (.invokevirtual 128, 3) := by decide +kernel
theorem dX4_stablePorts_4 : decode cX4_stablePorts 4 = .ok (.ifCond .ge 8, 3) := by decide +kernel
theorem dX4_stablePorts_7 : decode cX4_stablePorts 7 = .ok (.bipush (-6), 2) := by decide +kernel
theorem dX4_stablePorts_9 : decode cX4_stablePorts 9 = .ok (.goto 7, 3) := by decide +kernel
theorem dX4_stablePorts_12 : decode cX4_stablePorts 12 = .ok (.aload_n 0, 1) := by decide +kernel
theorem dX4_stablePorts_13 : decode cX4_stablePorts 13 = .ok (.getfield 121, 3) := by decide +kernel
theorem dX4_stablePorts_16 : decode cX4_stablePorts 16 = .ok (.ireturn, 1) := by decide +kernel
theorem dX4_save_0 : decode cX4_save 0 = .ok (.iload_n 1, 1) := by decide +kernel
theorem dX4_save_1 : decode cX4_save 1 = .ok (.iconst 0, 1) := by decide +kernel
theorem dX4_save_2 : decode cX4_save 2 = .ok (.iconst 1, 1) := by decide +kernel
theorem dX4_save_3 : decode cX4_save 3 = .ok (.invokestatic 30, 3) := by decide +kernel
theorem dX4_save_6 : decode cX4_save 6 = .ok (.ifCond .ne 5, 3) := by decide +kernel
theorem dX4_save_9 : decode cX4_save 9 = .ok (.iconst (-1), 1) := by decide +kernel
theorem dX4_save_10 : decode cX4_save 10 = .ok (.ireturn, 1) := by decide +kernel
theorem dX4_save_11 : decode cX4_save 11 = .ok (.iconst 0, 1) := by decide +kernel
theorem dX4_save_12 : decode cX4_save 12 = .ok (.istore_n 2, 1) := by decide +kernel
theorem dX4_save_13 : decode cX4_save 13 = .ok (.iload_n 2, 1) := by decide +kernel
theorem dX4_save_14 : decode cX4_save 14 = .ok (.sipush 149, 3) := by decide +kernel
theorem dX4_save_17 : decode cX4_save 17 = .ok (.if_icmp .ge 27, 3) := by decide +kernel
theorem dX4_save_20 : decode cX4_save 20 = .ok (.aload_n 0, 1) := by decide +kernel
theorem dX4_save_21 : decode cX4_save 21 = .ok (.getfield 16, 3) := by decide +kernel
theorem dX4_save_24 : decode cX4_save 24 = .ok (.sipush 149, 3) := by decide +kernel
theorem dX4_save_27 : decode cX4_save 27 = .ok (.iload_n 1, 1) := by decide +kernel
theorem dX4_save_28 : decode cX4_save 28 = .ok (.imul, 1) := by decide +kernel
theorem dX4_save_29 : decode cX4_save 29 = .ok (.iload_n 2, 1) := by decide +kernel
theorem dX4_save_30 : decode cX4_save 30 = .ok (.iadd, 1) := by decide +kernel
theorem dX4_save_31 : decode cX4_save 31 = .ok (.aload_n 0, 1) := by decide +kernel
theorem dX4_save_32 : decode cX4_save 32 = .ok (.getfield 7, 3) := by decide +kernel
theorem dX4_save_35 : decode cX4_save 35 = .ok (.iload_n 2, 1) := by decide +kernel
theorem dX4_save_36 : decode cX4_save 36 = .ok (.iaload, 1) := by decide +kernel
theorem dX4_save_37 : decode cX4_save 37 = .ok (.iastore, 1) := by decide +kernel
theorem dX4_save_38 : decode cX4_save 38 = .ok (.iinc 2 1, 3) := by decide +kernel
theorem dX4_save_41 : decode cX4_save 41 = .ok (.goto (-28), 3) := by decide +kernel
theorem dX4_save_44 : decode cX4_save 44 = .ok (.aload_n 0, 1) := by decide +kernel
theorem dX4_save_45 : decode cX4_save 45 = .ok (.getfield 19, 3) := by decide +kernel
theorem dX4_save_48 : decode cX4_save 48 = .ok (.iload_n 1, 1) := by decide +kernel
theorem dX4_save_49 : decode cX4_save 49 = .ok (.iconst 1, 1) := by decide +kernel
theorem dX4_save_50 : decode cX4_save 50 = .ok (.bastore, 1) := by decide +kernel
theorem dX4_save_51 : decode cX4_save 51 = .ok (.aload_n 0, 1) := by decide +kernel
theorem dX4_save_52 : decode cX4_save 52 = .ok (.getfield 7, 3) := by decide +kernel
theorem dX4_save_55 : decode cX4_save 55 = .ok (.bipush 11, 2) := by decide +kernel
theorem dX4_save_57 : decode cX4_save 57 = .ok (.iaload, 1) := by decide +kernel
theorem dX4_save_58 : decode cX4_save 58 = .ok (.ireturn, 1) := by decide +kernel
theorem dX4_restore_0 : decode cX4_restore 0 = .ok (.iload_n 1, 1) := by decide +kernel
theorem dX4_restore_1 : decode cX4_restore 1 = .ok (.iconst 0, 1) := by decide +kernel
theorem dX4_restore_2 : decode cX4_restore 2 = .ok (.iconst 1, 1) := by decide +kernel
theorem dX4_restore_3 : decode cX4_restore 3 = .ok (.invokestatic 30, 3) := by decide +kernel
theorem dX4_restore_6 : decode cX4_restore 6 = .ok (.ifCond .ne 5, 3) := by decide +kernel
theorem dX4_restore_9 : decode cX4_restore 9 = .ok (.iconst (-1), 1) := by decide +kernel
theorem dX4_restore_10 : decode cX4_restore 10 = .ok (.ireturn, 1) := by decide +kernel
theorem dX4_restore_11 : decode cX4_restore 11 = .ok (.aload_n 0, 1) := by decide +kernel
theorem dX4_restore_12 : decode cX4_restore 12 = .ok (.getfield 19, 3) := by decide +kernel
theorem dX4_restore_15 : decode cX4_restore 15 = .ok (.iload_n 1, 1) := by decide +kernel
theorem dX4_restore_16 : decode cX4_restore 16 = .ok (.baload, 1) := by decide +kernel
theorem dX4_restore_17 : decode cX4_restore 17 = .ok (.ifCond .ne 6, 3) := by decide +kernel
theorem dX4_restore_20 : decode cX4_restore 20 = .ok (.bipush (-3), 2) := by decide +kernel
theorem dX4_restore_22 : decode cX4_restore 22 = .ok (.ireturn, 1) := by decide +kernel
theorem dX4_restore_23 : decode cX4_restore 23 = .ok (.iconst 0, 1) := by decide +kernel
theorem dX4_restore_24 : decode cX4_restore 24 = .ok (.istore_n 2, 1) := by decide +kernel
theorem dX4_restore_25 : decode cX4_restore 25 = .ok (.iload_n 2, 1) := by decide +kernel
theorem dX4_restore_26 : decode cX4_restore 26 = .ok (.sipush 149, 3) := by decide +kernel
theorem dX4_restore_29 : decode cX4_restore 29 = .ok (.if_icmp .ge 27, 3) := by decide +kernel
theorem dX4_restore_32 : decode cX4_restore 32 = .ok (.aload_n 0, 1) := by decide +kernel
theorem dX4_restore_33 : decode cX4_restore 33 = .ok (.getfield 7, 3) := by decide +kernel
theorem dX4_restore_36 : decode cX4_restore 36 = .ok (.iload_n 2, 1) := by decide +kernel
theorem dX4_restore_37 : decode cX4_restore 37 = .ok (.aload_n 0, 1) := by decide +kernel
theorem dX4_restore_38 : decode cX4_restore 38 = .ok (.getfield 16, 3) := by decide +kernel
theorem dX4_restore_41 : decode cX4_restore 41 = .ok (.sipush 149, 3) := by decide +kernel
theorem dX4_restore_44 : decode cX4_restore 44 = .ok (.iload_n 1, 1) := by decide +kernel
theorem dX4_restore_45 : decode cX4_restore 45 = .ok (.imul, 1) := by decide +kernel
theorem dX4_restore_46 : decode cX4_restore 46 = .ok (.iload_n 2, 1) := by decide +kernel
theorem dX4_restore_47 : decode cX4_restore 47 = .ok (.iadd, 1) := by decide +kernel
theorem dX4_restore_48 : decode cX4_restore 48 = .ok (.iaload, 1) := by decide +kernel
theorem dX4_restore_49 : decode cX4_restore 49 = .ok (.iastore, 1) := by decide +kernel
theorem dX4_restore_50 : decode cX4_restore 50 = .ok (.iinc 2 1, 3) := by decide +kernel
theorem dX4_restore_53 : decode cX4_restore 53 = .ok (.goto (-28), 3) := by decide +kernel
theorem dX4_restore_56 : decode cX4_restore 56 = .ok (.aload_n 0, 1) := by decide +kernel
theorem dX4_restore_57 : decode cX4_restore 57 = .ok (.getfield 7, 3) := by decide +kernel
theorem dX4_restore_60 : decode cX4_restore 60 = .ok (.bipush 11, 2) := by decide +kernel
theorem dX4_restore_62 : decode cX4_restore 62 = .ok (.iaload, 1) := by decide +kernel
theorem dX4_restore_63 : decode cX4_restore 63 = .ok (.ireturn, 1) := by decide +kernel
end
section
/-! decode rows, as the task prints them -/
theorem dJ6_bitCount_0f7a4_0 : decode cJ6_bitCount_0f7a4 0 = .ok (.iload_n 0, 1) := by decide +kernel
theorem dJ6_bitCount_0f7a4_1 : decode cJ6_bitCount_0f7a4 1 = .ok (.iload_n 0, 1) := by decide +kernel
theorem dJ6_bitCount_0f7a4_2 : decode cJ6_bitCount_0f7a4 2 = .ok (.iconst 1, 1) := by decide +kernel
theorem dJ6_bitCount_0f7a4_3 : decode cJ6_bitCount_0f7a4 3 = .ok (.iushr, 1) := by decide +kernel
theorem dJ6_bitCount_0f7a4_4 : decode cJ6_bitCount_0f7a4 4 = .ok (.ldc_w 265, 3) := by decide +kernel
theorem dJ6_bitCount_0f7a4_7 : decode cJ6_bitCount_0f7a4 7 = .ok (.iand, 1) := by decide +kernel
theorem dJ6_bitCount_0f7a4_8 : decode cJ6_bitCount_0f7a4 8 = .ok (.isub, 1) := by decide +kernel
theorem dJ6_bitCount_0f7a4_9 : decode cJ6_bitCount_0f7a4 9 = .ok (.istore_n 0, 1) := by decide +kernel
theorem dJ6_bitCount_0f7a4_10 : decode cJ6_bitCount_0f7a4 10 = .ok (.iload_n 0, 1) := by decide +kernel
theorem dJ6_bitCount_0f7a4_11 : decode cJ6_bitCount_0f7a4 11 = .ok (.ldc_w 266, 3) := by decide +kernel
theorem dJ6_bitCount_0f7a4_14 : decode cJ6_bitCount_0f7a4 14 = .ok (.iand, 1) := by decide +kernel
theorem dJ6_bitCount_0f7a4_15 : decode cJ6_bitCount_0f7a4 15 = .ok (.iload_n 0, 1) := by decide +kernel
theorem dJ6_bitCount_0f7a4_16 : decode cJ6_bitCount_0f7a4 16 = .ok (.iconst 2, 1) := by decide +kernel
theorem dJ6_bitCount_0f7a4_17 : decode cJ6_bitCount_0f7a4 17 = .ok (.iushr, 1) := by decide +kernel
theorem dJ6_bitCount_0f7a4_18 : decode cJ6_bitCount_0f7a4 18 = .ok (.ldc_w 266, 3) := by decide +kernel
theorem dJ6_bitCount_0f7a4_21 : decode cJ6_bitCount_0f7a4 21 = .ok (.iand, 1) := by decide +kernel
theorem dJ6_bitCount_0f7a4_22 : decode cJ6_bitCount_0f7a4 22 = .ok (.iadd, 1) := by decide +kernel
theorem dJ6_bitCount_0f7a4_23 : decode cJ6_bitCount_0f7a4 23 = .ok (.istore_n 0, 1) := by decide +kernel
theorem dJ6_bitCount_0f7a4_24 : decode cJ6_bitCount_0f7a4 24 = .ok (.iload_n 0, 1) := by decide +kernel
theorem dJ6_bitCount_0f7a4_25 : decode cJ6_bitCount_0f7a4 25 = .ok (.iload_n 0, 1) := by decide +kernel
theorem dJ6_bitCount_0f7a4_26 : decode cJ6_bitCount_0f7a4 26 = .ok (.iconst 4, 1) := by decide +kernel
theorem dJ6_bitCount_0f7a4_27 : decode cJ6_bitCount_0f7a4 27 = .ok (.iushr, 1) := by decide +kernel
theorem dJ6_bitCount_0f7a4_28 : decode cJ6_bitCount_0f7a4 28 = .ok (.iadd, 1) := by decide +kernel
theorem dJ6_bitCount_0f7a4_29 : decode cJ6_bitCount_0f7a4 29 = .ok (.ldc_w 267, 3) := by decide +kernel
theorem dJ6_bitCount_0f7a4_32 : decode cJ6_bitCount_0f7a4 32 = .ok (.iand, 1) := by decide +kernel
theorem dJ6_bitCount_0f7a4_33 : decode cJ6_bitCount_0f7a4 33 = .ok (.istore_n 0, 1) := by decide +kernel
theorem dJ6_bitCount_0f7a4_34 : decode cJ6_bitCount_0f7a4 34 = .ok (.iload_n 0, 1) := by decide +kernel
theorem dJ6_bitCount_0f7a4_35 : decode cJ6_bitCount_0f7a4 35 = .ok (.iload_n 0, 1) := by decide +kernel
theorem dJ6_bitCount_0f7a4_36 : decode cJ6_bitCount_0f7a4 36 = .ok (.bipush 8, 2) := by decide +kernel
theorem dJ6_bitCount_0f7a4_38 : decode cJ6_bitCount_0f7a4 38 = .ok (.iushr, 1) := by decide +kernel
theorem dJ6_bitCount_0f7a4_39 : decode cJ6_bitCount_0f7a4 39 = .ok (.iadd, 1) := by decide +kernel
theorem dJ6_bitCount_0f7a4_40 : decode cJ6_bitCount_0f7a4 40 = .ok (.istore_n 0, 1) := by decide +kernel
theorem dJ6_bitCount_0f7a4_41 : decode cJ6_bitCount_0f7a4 41 = .ok (.iload_n 0, 1) := by decide +kernel
theorem dJ6_bitCount_0f7a4_42 : decode cJ6_bitCount_0f7a4 42 = .ok (.iload_n 0, 1) := by decide +kernel
theorem dJ6_bitCount_0f7a4_43 : decode cJ6_bitCount_0f7a4 43 = .ok (.bipush 16, 2) := by decide +kernel
theorem dJ6_bitCount_0f7a4_45 : decode cJ6_bitCount_0f7a4 45 = .ok (.iushr, 1) := by decide +kernel
theorem dJ6_bitCount_0f7a4_46 : decode cJ6_bitCount_0f7a4 46 = .ok (.iadd, 1) := by decide +kernel
theorem dJ6_bitCount_0f7a4_47 : decode cJ6_bitCount_0f7a4 47 = .ok (.istore_n 0, 1) := by decide +kernel
theorem dJ6_bitCount_0f7a4_48 : decode cJ6_bitCount_0f7a4 48 = .ok (.iload_n 0, 1) := by decide +kernel
theorem dJ6_bitCount_0f7a4_49 : decode cJ6_bitCount_0f7a4 49 = .ok (.bipush 63, 2) := by decide +kernel
theorem dJ6_bitCount_0f7a4_51 : decode cJ6_bitCount_0f7a4 51 = .ok (.iand, 1) := by decide +kernel
theorem dJ6_bitCount_0f7a4_52 : decode cJ6_bitCount_0f7a4 52 = .ok (.ireturn, 1) := by decide +kernel
theorem dL_law_0 : decode cL_law 0 = .ok (.new 7, 3) := by decide +kernel
theorem dL_law_3 : decode cL_law 3 = .ok (.dup, 1) := by decide +kernel
theorem dL_law_4 : decode cL_law 4 = .ok (.invokespecial 9, 3) := by decide +kernel
theorem dL_law_7 : decode cL_law 7 = .ok (.astore_n 1, 1) := by decide +kernel
theorem dL_law_8 : decode cL_law 8 = .ok (.new 10, 3) := by decide +kernel
theorem dL_law_11 : decode cL_law 11 = .ok (.dup, 1) := by decide +kernel
theorem dL_law_12 : decode cL_law 12 = .ok (.invokespecial 12, 3) := by decide +kernel
theorem dL_law_15 : decode cL_law 15 = .ok (.astore_n 2, 1) := by decide +kernel
theorem dL_law_16 : decode cL_law 16 = .ok (.iconst 0, 1) := by decide +kernel
theorem dL_law_17 : decode cL_law 17 = .ok (.istore_n 3, 1) := by decide +kernel
theorem dL_law_18 : decode cL_law 18 = .ok (.iload_n 3, 1) := by decide +kernel
theorem dL_law_19 : decode cL_law 19 = .ok (.aload_n 0, 1) := by decide +kernel
theorem dL_law_20 : decode cL_law 20 = .ok (.arraylength, 1) := by decide +kernel
theorem dL_law_21 : decode cL_law 21 = .ok (.bipush 6, 2) := by decide +kernel
theorem dL_law_23 : decode cL_law 23 = .ok (.isub, 1) := by decide +kernel
theorem dL_law_24 : decode cL_law 24 = .ok (.if_icmp .gt 936, 3) := by decide +kernel
theorem dL_law_27 : decode cL_law 27 = .ok (.aload_n 0, 1) := by decide +kernel
theorem dL_law_28 : decode cL_law 28 = .ok (.iload_n 3, 1) := by decide +kernel
theorem dL_law_29 : decode cL_law 29 = .ok (.iaload, 1) := by decide +kernel
theorem dL_law_30 : decode cL_law 30 = .ok (.bipush 31, 2) := by decide +kernel
theorem dL_law_32 : decode cL_law 32 = .ok (.iand, 1) := by decide +kernel
theorem dL_law_33 : decode cL_law 33 = .ok (.tableswitch 921 0 31 #[143, 176, 225, 248, 271, 294, 317, 330, 343, 392, 425, 488, 511, 544, 577, 600, 613, 626, 649, 672, 695, 718, 731, 744, 767, 790, 813, 836, 849, 862, 875, 898], 143) := by decide +kernel
theorem dL_law_176 : decode cL_law 176 = .ok (.aload_n 1, 1) := by decide +kernel
theorem dL_law_177 : decode cL_law 177 = .ok (.aload_n 0, 1) := by decide +kernel
theorem dL_law_178 : decode cL_law 178 = .ok (.iload_n 3, 1) := by decide +kernel
theorem dL_law_179 : decode cL_law 179 = .ok (.iconst 1, 1) := by decide +kernel
theorem dL_law_180 : decode cL_law 180 = .ok (.iadd, 1) := by decide +kernel
theorem dL_law_181 : decode cL_law 181 = .ok (.iaload, 1) := by decide +kernel
theorem dL_law_182 : decode cL_law 182 = .ok (.aload_n 0, 1) := by decide +kernel
theorem dL_law_183 : decode cL_law 183 = .ok (.iload_n 3, 1) := by decide +kernel
theorem dL_law_184 : decode cL_law 184 = .ok (.iconst 2, 1) := by decide +kernel
theorem dL_law_185 : decode cL_law 185 = .ok (.iadd, 1) := by decide +kernel
theorem dL_law_186 : decode cL_law 186 = .ok (.iaload, 1) := by decide +kernel
theorem dL_law_187 : decode cL_law 187 = .ok (.invokevirtual 13, 3) := by decide +kernel
theorem dL_law_190 : decode cL_law 190 = .ok (.aload_n 2, 1) := by decide +kernel
theorem dL_law_191 : decode cL_law 191 = .ok (.aload_n 0, 1) := by decide +kernel
theorem dL_law_192 : decode cL_law 192 = .ok (.iload_n 3, 1) := by decide +kernel
theorem dL_law_193 : decode cL_law 193 = .ok (.iconst 1, 1) := by decide +kernel
theorem dL_law_194 : decode cL_law 194 = .ok (.iadd, 1) := by decide +kernel
theorem dL_law_195 : decode cL_law 195 = .ok (.iaload, 1) := by decide +kernel
theorem dL_law_196 : decode cL_law 196 = .ok (.aload_n 0, 1) := by decide +kernel
theorem dL_law_197 : decode cL_law 197 = .ok (.iload_n 3, 1) := by decide +kernel
theorem dL_law_198 : decode cL_law 198 = .ok (.iconst 2, 1) := by decide +kernel
theorem dL_law_199 : decode cL_law 199 = .ok (.iadd, 1) := by decide +kernel
theorem dL_law_200 : decode cL_law 200 = .ok (.iaload, 1) := by decide +kernel
theorem dL_law_201 : decode cL_law 201 = .ok (.invokevirtual 17, 3) := by decide +kernel
theorem dL_law_204 : decode cL_law 204 = .ok (.if_icmp .eq 750, 3) := by decide +kernel
theorem dL_law_207 : decode cL_law 207 = .ok (.iconst 0, 1) := by decide +kernel
theorem dL_law_208 : decode cL_law 208 = .ok (.ireturn, 1) := by decide +kernel
theorem dL_law_209 : decode cL_law 209 = .ok (.aload_n 1, 1) := by decide +kernel
theorem dL_law_210 : decode cL_law 210 = .ok (.aload_n 0, 1) := by decide +kernel
theorem dL_law_211 : decode cL_law 211 = .ok (.iload_n 3, 1) := by decide +kernel
theorem dL_law_212 : decode cL_law 212 = .ok (.iconst 1, 1) := by decide +kernel
theorem dL_law_213 : decode cL_law 213 = .ok (.iadd, 1) := by decide +kernel
theorem dL_law_214 : decode cL_law 214 = .ok (.iaload, 1) := by decide +kernel
theorem dL_law_215 : decode cL_law 215 = .ok (.aload_n 0, 1) := by decide +kernel
theorem dL_law_216 : decode cL_law 216 = .ok (.iload_n 3, 1) := by decide +kernel
theorem dL_law_217 : decode cL_law 217 = .ok (.iconst 2, 1) := by decide +kernel
theorem dL_law_218 : decode cL_law 218 = .ok (.iadd, 1) := by decide +kernel
theorem dL_law_219 : decode cL_law 219 = .ok (.iaload, 1) := by decide +kernel
theorem dL_law_220 : decode cL_law 220 = .ok (.ifCond .eq 7, 3) := by decide +kernel
theorem dL_law_223 : decode cL_law 223 = .ok (.iconst 1, 1) := by decide +kernel
theorem dL_law_224 : decode cL_law 224 = .ok (.goto 4, 3) := by decide +kernel
theorem dL_law_227 : decode cL_law 227 = .ok (.iconst 0, 1) := by decide +kernel
theorem dL_law_228 : decode cL_law 228 = .ok (.invokevirtual 18, 3) := by decide +kernel
theorem dL_law_231 : decode cL_law 231 = .ok (.aload_n 2, 1) := by decide +kernel
theorem dL_law_232 : decode cL_law 232 = .ok (.aload_n 0, 1) := by decide +kernel
theorem dL_law_233 : decode cL_law 233 = .ok (.iload_n 3, 1) := by decide +kernel
theorem dL_law_234 : decode cL_law 234 = .ok (.iconst 1, 1) := by decide +kernel
theorem dL_law_235 : decode cL_law 235 = .ok (.iadd, 1) := by decide +kernel
theorem dL_law_236 : decode cL_law 236 = .ok (.iaload, 1) := by decide +kernel
theorem dL_law_237 : decode cL_law 237 = .ok (.aload_n 0, 1) := by decide +kernel
theorem dL_law_238 : decode cL_law 238 = .ok (.iload_n 3, 1) := by decide +kernel
theorem dL_law_239 : decode cL_law 239 = .ok (.iconst 2, 1) := by decide +kernel
theorem dL_law_240 : decode cL_law 240 = .ok (.iadd, 1) := by decide +kernel
theorem dL_law_241 : decode cL_law 241 = .ok (.iaload, 1) := by decide +kernel
theorem dL_law_242 : decode cL_law 242 = .ok (.ifCond .eq 7, 3) := by decide +kernel
theorem dL_law_245 : decode cL_law 245 = .ok (.iconst 1, 1) := by decide +kernel
theorem dL_law_246 : decode cL_law 246 = .ok (.goto 4, 3) := by decide +kernel
theorem dL_law_249 : decode cL_law 249 = .ok (.iconst 0, 1) := by decide +kernel
theorem dL_law_250 : decode cL_law 250 = .ok (.invokevirtual 22, 3) := by decide +kernel
theorem dL_law_253 : decode cL_law 253 = .ok (.if_icmp .eq 701, 3) := by decide +kernel
theorem dL_law_256 : decode cL_law 256 = .ok (.iconst 0, 1) := by decide +kernel
theorem dL_law_257 : decode cL_law 257 = .ok (.ireturn, 1) := by decide +kernel
theorem dL_law_258 : decode cL_law 258 = .ok (.aload_n 1, 1) := by decide +kernel
theorem dL_law_259 : decode cL_law 259 = .ok (.aload_n 0, 1) := by decide +kernel
theorem dL_law_260 : decode cL_law 260 = .ok (.iload_n 3, 1) := by decide +kernel
theorem dL_law_261 : decode cL_law 261 = .ok (.iconst 1, 1) := by decide +kernel
theorem dL_law_262 : decode cL_law 262 = .ok (.iadd, 1) := by decide +kernel
theorem dL_law_263 : decode cL_law 263 = .ok (.iaload, 1) := by decide +kernel
theorem dL_law_264 : decode cL_law 264 = .ok (.invokevirtual 23, 3) := by decide +kernel
theorem dL_law_267 : decode cL_law 267 = .ok (.aload_n 2, 1) := by decide +kernel
theorem dL_law_268 : decode cL_law 268 = .ok (.aload_n 0, 1) := by decide +kernel
theorem dL_law_269 : decode cL_law 269 = .ok (.iload_n 3, 1) := by decide +kernel
theorem dL_law_270 : decode cL_law 270 = .ok (.iconst 1, 1) := by decide +kernel
theorem dL_law_271 : decode cL_law 271 = .ok (.iadd, 1) := by decide +kernel
theorem dL_law_272 : decode cL_law 272 = .ok (.iaload, 1) := by decide +kernel
theorem dL_law_273 : decode cL_law 273 = .ok (.invokevirtual 27, 3) := by decide +kernel
theorem dL_law_276 : decode cL_law 276 = .ok (.if_icmp .eq 678, 3) := by decide +kernel
theorem dL_law_279 : decode cL_law 279 = .ok (.iconst 0, 1) := by decide +kernel
theorem dL_law_280 : decode cL_law 280 = .ok (.ireturn, 1) := by decide +kernel
theorem dL_law_281 : decode cL_law 281 = .ok (.aload_n 1, 1) := by decide +kernel
theorem dL_law_282 : decode cL_law 282 = .ok (.aload_n 0, 1) := by decide +kernel
theorem dL_law_283 : decode cL_law 283 = .ok (.iload_n 3, 1) := by decide +kernel
theorem dL_law_284 : decode cL_law 284 = .ok (.iconst 1, 1) := by decide +kernel
theorem dL_law_285 : decode cL_law 285 = .ok (.iadd, 1) := by decide +kernel
theorem dL_law_286 : decode cL_law 286 = .ok (.iaload, 1) := by decide +kernel
theorem dL_law_287 : decode cL_law 287 = .ok (.invokevirtual 28, 3) := by decide +kernel
theorem dL_law_290 : decode cL_law 290 = .ok (.aload_n 2, 1) := by decide +kernel
theorem dL_law_291 : decode cL_law 291 = .ok (.aload_n 0, 1) := by decide +kernel
theorem dL_law_292 : decode cL_law 292 = .ok (.iload_n 3, 1) := by decide +kernel
theorem dL_law_293 : decode cL_law 293 = .ok (.iconst 1, 1) := by decide +kernel
theorem dL_law_294 : decode cL_law 294 = .ok (.iadd, 1) := by decide +kernel
theorem dL_law_295 : decode cL_law 295 = .ok (.iaload, 1) := by decide +kernel
theorem dL_law_296 : decode cL_law 296 = .ok (.invokevirtual 31, 3) := by decide +kernel
theorem dL_law_299 : decode cL_law 299 = .ok (.if_icmp .eq 655, 3) := by decide +kernel
theorem dL_law_302 : decode cL_law 302 = .ok (.iconst 0, 1) := by decide +kernel
theorem dL_law_303 : decode cL_law 303 = .ok (.ireturn, 1) := by decide +kernel
theorem dL_law_304 : decode cL_law 304 = .ok (.aload_n 1, 1) := by decide +kernel
theorem dL_law_305 : decode cL_law 305 = .ok (.aload_n 0, 1) := by decide +kernel
theorem dL_law_306 : decode cL_law 306 = .ok (.iload_n 3, 1) := by decide +kernel
theorem dL_law_307 : decode cL_law 307 = .ok (.iconst 1, 1) := by decide +kernel
theorem dL_law_308 : decode cL_law 308 = .ok (.iadd, 1) := by decide +kernel
theorem dL_law_309 : decode cL_law 309 = .ok (.iaload, 1) := by decide +kernel
theorem dL_law_310 : decode cL_law 310 = .ok (.invokevirtual 32, 3) := by decide +kernel
theorem dL_law_313 : decode cL_law 313 = .ok (.aload_n 2, 1) := by decide +kernel
theorem dL_law_314 : decode cL_law 314 = .ok (.aload_n 0, 1) := by decide +kernel
theorem dL_law_315 : decode cL_law 315 = .ok (.iload_n 3, 1) := by decide +kernel
theorem dL_law_316 : decode cL_law 316 = .ok (.iconst 1, 1) := by decide +kernel
theorem dL_law_317 : decode cL_law 317 = .ok (.iadd, 1) := by decide +kernel
theorem dL_law_318 : decode cL_law 318 = .ok (.iaload, 1) := by decide +kernel
theorem dL_law_319 : decode cL_law 319 = .ok (.invokevirtual 35, 3) := by decide +kernel
theorem dL_law_322 : decode cL_law 322 = .ok (.if_icmp .eq 632, 3) := by decide +kernel
theorem dL_law_325 : decode cL_law 325 = .ok (.iconst 0, 1) := by decide +kernel
theorem dL_law_326 : decode cL_law 326 = .ok (.ireturn, 1) := by decide +kernel
theorem dL_law_327 : decode cL_law 327 = .ok (.aload_n 1, 1) := by decide +kernel
theorem dL_law_328 : decode cL_law 328 = .ok (.aload_n 0, 1) := by decide +kernel
theorem dL_law_329 : decode cL_law 329 = .ok (.iload_n 3, 1) := by decide +kernel
theorem dL_law_330 : decode cL_law 330 = .ok (.iconst 1, 1) := by decide +kernel
theorem dL_law_331 : decode cL_law 331 = .ok (.iadd, 1) := by decide +kernel
theorem dL_law_332 : decode cL_law 332 = .ok (.iaload, 1) := by decide +kernel
theorem dL_law_333 : decode cL_law 333 = .ok (.invokevirtual 36, 3) := by decide +kernel
theorem dL_law_336 : decode cL_law 336 = .ok (.aload_n 2, 1) := by decide +kernel
theorem dL_law_337 : decode cL_law 337 = .ok (.aload_n 0, 1) := by decide +kernel
theorem dL_law_338 : decode cL_law 338 = .ok (.iload_n 3, 1) := by decide +kernel
theorem dL_law_339 : decode cL_law 339 = .ok (.iconst 1, 1) := by decide +kernel
theorem dL_law_340 : decode cL_law 340 = .ok (.iadd, 1) := by decide +kernel
theorem dL_law_341 : decode cL_law 341 = .ok (.iaload, 1) := by decide +kernel
theorem dL_law_342 : decode cL_law 342 = .ok (.invokevirtual 39, 3) := by decide +kernel
theorem dL_law_345 : decode cL_law 345 = .ok (.if_icmp .eq 609, 3) := by decide +kernel
theorem dL_law_348 : decode cL_law 348 = .ok (.iconst 0, 1) := by decide +kernel
theorem dL_law_349 : decode cL_law 349 = .ok (.ireturn, 1) := by decide +kernel
theorem dL_law_350 : decode cL_law 350 = .ok (.aload_n 1, 1) := by decide +kernel
theorem dL_law_351 : decode cL_law 351 = .ok (.invokevirtual 40, 3) := by decide +kernel
theorem dL_law_354 : decode cL_law 354 = .ok (.aload_n 2, 1) := by decide +kernel
theorem dL_law_355 : decode cL_law 355 = .ok (.invokevirtual 44, 3) := by decide +kernel
theorem dL_law_358 : decode cL_law 358 = .ok (.if_icmp .eq 596, 3) := by decide +kernel
theorem dL_law_361 : decode cL_law 361 = .ok (.iconst 0, 1) := by decide +kernel
theorem dL_law_362 : decode cL_law 362 = .ok (.ireturn, 1) := by decide +kernel
theorem dL_law_363 : decode cL_law 363 = .ok (.aload_n 1, 1) := by decide +kernel
theorem dL_law_364 : decode cL_law 364 = .ok (.invokevirtual 45, 3) := by decide +kernel
theorem dL_law_367 : decode cL_law 367 = .ok (.aload_n 2, 1) := by decide +kernel
theorem dL_law_368 : decode cL_law 368 = .ok (.invokevirtual 48, 3) := by decide +kernel
theorem dL_law_371 : decode cL_law 371 = .ok (.if_icmp .eq 583, 3) := by decide +kernel
theorem dL_law_374 : decode cL_law 374 = .ok (.iconst 0, 1) := by decide +kernel
theorem dL_law_375 : decode cL_law 375 = .ok (.ireturn, 1) := by decide +kernel
theorem dL_law_376 : decode cL_law 376 = .ok (.aload_n 1, 1) := by decide +kernel
theorem dL_law_377 : decode cL_law 377 = .ok (.aload_n 0, 1) := by decide +kernel
theorem dL_law_378 : decode cL_law 378 = .ok (.iload_n 3, 1) := by decide +kernel
theorem dL_law_379 : decode cL_law 379 = .ok (.iconst 1, 1) := by decide +kernel
theorem dL_law_380 : decode cL_law 380 = .ok (.iadd, 1) := by decide +kernel
theorem dL_law_381 : decode cL_law 381 = .ok (.iaload, 1) := by decide +kernel
theorem dL_law_382 : decode cL_law 382 = .ok (.aload_n 0, 1) := by decide +kernel
theorem dL_law_383 : decode cL_law 383 = .ok (.iload_n 3, 1) := by decide +kernel
theorem dL_law_384 : decode cL_law 384 = .ok (.iconst 2, 1) := by decide +kernel
theorem dL_law_385 : decode cL_law 385 = .ok (.iadd, 1) := by decide +kernel
theorem dL_law_386 : decode cL_law 386 = .ok (.iaload, 1) := by decide +kernel
theorem dL_law_387 : decode cL_law 387 = .ok (.ifCond .eq 7, 3) := by decide +kernel
theorem dL_law_390 : decode cL_law 390 = .ok (.iconst 1, 1) := by decide +kernel
theorem dL_law_391 : decode cL_law 391 = .ok (.goto 4, 3) := by decide +kernel
theorem dL_law_394 : decode cL_law 394 = .ok (.iconst 0, 1) := by decide +kernel
theorem dL_law_395 : decode cL_law 395 = .ok (.invokevirtual 49, 3) := by decide +kernel
theorem dL_law_398 : decode cL_law 398 = .ok (.aload_n 2, 1) := by decide +kernel
theorem dL_law_399 : decode cL_law 399 = .ok (.aload_n 0, 1) := by decide +kernel
theorem dL_law_400 : decode cL_law 400 = .ok (.iload_n 3, 1) := by decide +kernel
theorem dL_law_401 : decode cL_law 401 = .ok (.iconst 1, 1) := by decide +kernel
theorem dL_law_402 : decode cL_law 402 = .ok (.iadd, 1) := by decide +kernel
theorem dL_law_403 : decode cL_law 403 = .ok (.iaload, 1) := by decide +kernel
theorem dL_law_404 : decode cL_law 404 = .ok (.aload_n 0, 1) := by decide +kernel
theorem dL_law_405 : decode cL_law 405 = .ok (.iload_n 3, 1) := by decide +kernel
theorem dL_law_406 : decode cL_law 406 = .ok (.iconst 2, 1) := by decide +kernel
theorem dL_law_407 : decode cL_law 407 = .ok (.iadd, 1) := by decide +kernel
theorem dL_law_408 : decode cL_law 408 = .ok (.iaload, 1) := by decide +kernel
theorem dL_law_409 : decode cL_law 409 = .ok (.ifCond .eq 7, 3) := by decide +kernel
theorem dL_law_412 : decode cL_law 412 = .ok (.iconst 1, 1) := by decide +kernel
theorem dL_law_413 : decode cL_law 413 = .ok (.goto 4, 3) := by decide +kernel
theorem dL_law_416 : decode cL_law 416 = .ok (.iconst 0, 1) := by decide +kernel
theorem dL_law_417 : decode cL_law 417 = .ok (.invokevirtual 52, 3) := by decide +kernel
theorem dL_law_420 : decode cL_law 420 = .ok (.if_icmp .eq 534, 3) := by decide +kernel
theorem dL_law_423 : decode cL_law 423 = .ok (.iconst 0, 1) := by decide +kernel
theorem dL_law_424 : decode cL_law 424 = .ok (.ireturn, 1) := by decide +kernel
theorem dL_law_425 : decode cL_law 425 = .ok (.aload_n 1, 1) := by decide +kernel
theorem dL_law_426 : decode cL_law 426 = .ok (.aload_n 0, 1) := by decide +kernel
theorem dL_law_427 : decode cL_law 427 = .ok (.iload_n 3, 1) := by decide +kernel
theorem dL_law_428 : decode cL_law 428 = .ok (.iconst 1, 1) := by decide +kernel
theorem dL_law_429 : decode cL_law 429 = .ok (.iadd, 1) := by decide +kernel
theorem dL_law_430 : decode cL_law 430 = .ok (.iaload, 1) := by decide +kernel
theorem dL_law_431 : decode cL_law 431 = .ok (.aload_n 0, 1) := by decide +kernel
theorem dL_law_432 : decode cL_law 432 = .ok (.iload_n 3, 1) := by decide +kernel
theorem dL_law_433 : decode cL_law 433 = .ok (.iconst 2, 1) := by decide +kernel
theorem dL_law_434 : decode cL_law 434 = .ok (.iadd, 1) := by decide +kernel
theorem dL_law_435 : decode cL_law 435 = .ok (.iaload, 1) := by decide +kernel
theorem dL_law_436 : decode cL_law 436 = .ok (.invokevirtual 53, 3) := by decide +kernel
theorem dL_law_439 : decode cL_law 439 = .ok (.aload_n 2, 1) := by decide +kernel
theorem dL_law_440 : decode cL_law 440 = .ok (.aload_n 0, 1) := by decide +kernel
theorem dL_law_441 : decode cL_law 441 = .ok (.iload_n 3, 1) := by decide +kernel
theorem dL_law_442 : decode cL_law 442 = .ok (.iconst 1, 1) := by decide +kernel
theorem dL_law_443 : decode cL_law 443 = .ok (.iadd, 1) := by decide +kernel
theorem dL_law_444 : decode cL_law 444 = .ok (.iaload, 1) := by decide +kernel
theorem dL_law_445 : decode cL_law 445 = .ok (.aload_n 0, 1) := by decide +kernel
theorem dL_law_446 : decode cL_law 446 = .ok (.iload_n 3, 1) := by decide +kernel
theorem dL_law_447 : decode cL_law 447 = .ok (.iconst 2, 1) := by decide +kernel
theorem dL_law_448 : decode cL_law 448 = .ok (.iadd, 1) := by decide +kernel
theorem dL_law_449 : decode cL_law 449 = .ok (.iaload, 1) := by decide +kernel
theorem dL_law_450 : decode cL_law 450 = .ok (.invokevirtual 56, 3) := by decide +kernel
theorem dL_law_453 : decode cL_law 453 = .ok (.if_icmp .eq 501, 3) := by decide +kernel
theorem dL_law_456 : decode cL_law 456 = .ok (.iconst 0, 1) := by decide +kernel
theorem dL_law_457 : decode cL_law 457 = .ok (.ireturn, 1) := by decide +kernel
theorem dL_law_458 : decode cL_law 458 = .ok (.aload_n 1, 1) := by decide +kernel
theorem dL_law_459 : decode cL_law 459 = .ok (.aload_n 0, 1) := by decide +kernel
theorem dL_law_460 : decode cL_law 460 = .ok (.iload_n 3, 1) := by decide +kernel
theorem dL_law_461 : decode cL_law 461 = .ok (.iconst 1, 1) := by decide +kernel
theorem dL_law_462 : decode cL_law 462 = .ok (.iadd, 1) := by decide +kernel
theorem dL_law_463 : decode cL_law 463 = .ok (.iaload, 1) := by decide +kernel
theorem dL_law_464 : decode cL_law 464 = .ok (.aload_n 0, 1) := by decide +kernel
theorem dL_law_465 : decode cL_law 465 = .ok (.iload_n 3, 1) := by decide +kernel
theorem dL_law_466 : decode cL_law 466 = .ok (.iconst 2, 1) := by decide +kernel
theorem dL_law_467 : decode cL_law 467 = .ok (.iadd, 1) := by decide +kernel
theorem dL_law_468 : decode cL_law 468 = .ok (.iaload, 1) := by decide +kernel
theorem dL_law_469 : decode cL_law 469 = .ok (.aload_n 0, 1) := by decide +kernel
theorem dL_law_470 : decode cL_law 470 = .ok (.iload_n 3, 1) := by decide +kernel
theorem dL_law_471 : decode cL_law 471 = .ok (.iconst 3, 1) := by decide +kernel
theorem dL_law_472 : decode cL_law 472 = .ok (.iadd, 1) := by decide +kernel
theorem dL_law_473 : decode cL_law 473 = .ok (.iaload, 1) := by decide +kernel
theorem dL_law_474 : decode cL_law 474 = .ok (.aload_n 0, 1) := by decide +kernel
theorem dL_law_475 : decode cL_law 475 = .ok (.iload_n 3, 1) := by decide +kernel
theorem dL_law_476 : decode cL_law 476 = .ok (.iconst 4, 1) := by decide +kernel
theorem dL_law_477 : decode cL_law 477 = .ok (.iadd, 1) := by decide +kernel
theorem dL_law_478 : decode cL_law 478 = .ok (.iaload, 1) := by decide +kernel
theorem dL_law_479 : decode cL_law 479 = .ok (.aload_n 0, 1) := by decide +kernel
theorem dL_law_480 : decode cL_law 480 = .ok (.iload_n 3, 1) := by decide +kernel
theorem dL_law_481 : decode cL_law 481 = .ok (.iconst 5, 1) := by decide +kernel
theorem dL_law_482 : decode cL_law 482 = .ok (.iadd, 1) := by decide +kernel
theorem dL_law_483 : decode cL_law 483 = .ok (.iaload, 1) := by decide +kernel
theorem dL_law_484 : decode cL_law 484 = .ok (.invokevirtual 57, 3) := by decide +kernel
theorem dL_law_487 : decode cL_law 487 = .ok (.aload_n 2, 1) := by decide +kernel
theorem dL_law_488 : decode cL_law 488 = .ok (.aload_n 0, 1) := by decide +kernel
theorem dL_law_489 : decode cL_law 489 = .ok (.iload_n 3, 1) := by decide +kernel
theorem dL_law_490 : decode cL_law 490 = .ok (.iconst 1, 1) := by decide +kernel
theorem dL_law_491 : decode cL_law 491 = .ok (.iadd, 1) := by decide +kernel
theorem dL_law_492 : decode cL_law 492 = .ok (.iaload, 1) := by decide +kernel
theorem dL_law_493 : decode cL_law 493 = .ok (.aload_n 0, 1) := by decide +kernel
theorem dL_law_494 : decode cL_law 494 = .ok (.iload_n 3, 1) := by decide +kernel
theorem dL_law_495 : decode cL_law 495 = .ok (.iconst 2, 1) := by decide +kernel
theorem dL_law_496 : decode cL_law 496 = .ok (.iadd, 1) := by decide +kernel
theorem dL_law_497 : decode cL_law 497 = .ok (.iaload, 1) := by decide +kernel
theorem dL_law_498 : decode cL_law 498 = .ok (.aload_n 0, 1) := by decide +kernel
theorem dL_law_499 : decode cL_law 499 = .ok (.iload_n 3, 1) := by decide +kernel
theorem dL_law_500 : decode cL_law 500 = .ok (.iconst 3, 1) := by decide +kernel
theorem dL_law_501 : decode cL_law 501 = .ok (.iadd, 1) := by decide +kernel
theorem dL_law_502 : decode cL_law 502 = .ok (.iaload, 1) := by decide +kernel
theorem dL_law_503 : decode cL_law 503 = .ok (.aload_n 0, 1) := by decide +kernel
theorem dL_law_504 : decode cL_law 504 = .ok (.iload_n 3, 1) := by decide +kernel
theorem dL_law_505 : decode cL_law 505 = .ok (.iconst 4, 1) := by decide +kernel
theorem dL_law_506 : decode cL_law 506 = .ok (.iadd, 1) := by decide +kernel
theorem dL_law_507 : decode cL_law 507 = .ok (.iaload, 1) := by decide +kernel
theorem dL_law_508 : decode cL_law 508 = .ok (.aload_n 0, 1) := by decide +kernel
theorem dL_law_509 : decode cL_law 509 = .ok (.iload_n 3, 1) := by decide +kernel
theorem dL_law_510 : decode cL_law 510 = .ok (.iconst 5, 1) := by decide +kernel
theorem dL_law_511 : decode cL_law 511 = .ok (.iadd, 1) := by decide +kernel
theorem dL_law_512 : decode cL_law 512 = .ok (.iaload, 1) := by decide +kernel
theorem dL_law_513 : decode cL_law 513 = .ok (.invokevirtual 61, 3) := by decide +kernel
theorem dL_law_516 : decode cL_law 516 = .ok (.if_icmp .eq 438, 3) := by decide +kernel
theorem dL_law_519 : decode cL_law 519 = .ok (.iconst 0, 1) := by decide +kernel
theorem dL_law_520 : decode cL_law 520 = .ok (.ireturn, 1) := by decide +kernel
theorem dL_law_521 : decode cL_law 521 = .ok (.aload_n 1, 1) := by decide +kernel
theorem dL_law_522 : decode cL_law 522 = .ok (.aload_n 0, 1) := by decide +kernel
theorem dL_law_523 : decode cL_law 523 = .ok (.iload_n 3, 1) := by decide +kernel
theorem dL_law_524 : decode cL_law 524 = .ok (.iconst 1, 1) := by decide +kernel
theorem dL_law_525 : decode cL_law 525 = .ok (.iadd, 1) := by decide +kernel
theorem dL_law_526 : decode cL_law 526 = .ok (.iaload, 1) := by decide +kernel
theorem dL_law_527 : decode cL_law 527 = .ok (.invokevirtual 62, 3) := by decide +kernel
theorem dL_law_530 : decode cL_law 530 = .ok (.aload_n 2, 1) := by decide +kernel
theorem dL_law_531 : decode cL_law 531 = .ok (.aload_n 0, 1) := by decide +kernel
theorem dL_law_532 : decode cL_law 532 = .ok (.iload_n 3, 1) := by decide +kernel
theorem dL_law_533 : decode cL_law 533 = .ok (.iconst 1, 1) := by decide +kernel
theorem dL_law_534 : decode cL_law 534 = .ok (.iadd, 1) := by decide +kernel
theorem dL_law_535 : decode cL_law 535 = .ok (.iaload, 1) := by decide +kernel
theorem dL_law_536 : decode cL_law 536 = .ok (.invokevirtual 65, 3) := by decide +kernel
theorem dL_law_539 : decode cL_law 539 = .ok (.if_icmp .eq 415, 3) := by decide +kernel
theorem dL_law_542 : decode cL_law 542 = .ok (.iconst 0, 1) := by decide +kernel
theorem dL_law_543 : decode cL_law 543 = .ok (.ireturn, 1) := by decide +kernel
theorem dL_law_544 : decode cL_law 544 = .ok (.aload_n 1, 1) := by decide +kernel
theorem dL_law_545 : decode cL_law 545 = .ok (.aload_n 0, 1) := by decide +kernel
theorem dL_law_546 : decode cL_law 546 = .ok (.iload_n 3, 1) := by decide +kernel
theorem dL_law_547 : decode cL_law 547 = .ok (.iconst 1, 1) := by decide +kernel
theorem dL_law_548 : decode cL_law 548 = .ok (.iadd, 1) := by decide +kernel
theorem dL_law_549 : decode cL_law 549 = .ok (.iaload, 1) := by decide +kernel
theorem dL_law_550 : decode cL_law 550 = .ok (.aload_n 0, 1) := by decide +kernel
theorem dL_law_551 : decode cL_law 551 = .ok (.iload_n 3, 1) := by decide +kernel
theorem dL_law_552 : decode cL_law 552 = .ok (.iconst 2, 1) := by decide +kernel
theorem dL_law_553 : decode cL_law 553 = .ok (.iadd, 1) := by decide +kernel
theorem dL_law_554 : decode cL_law 554 = .ok (.iaload, 1) := by decide +kernel
theorem dL_law_555 : decode cL_law 555 = .ok (.invokevirtual 66, 3) := by decide +kernel
theorem dL_law_558 : decode cL_law 558 = .ok (.aload_n 2, 1) := by decide +kernel
theorem dL_law_559 : decode cL_law 559 = .ok (.aload_n 0, 1) := by decide +kernel
theorem dL_law_560 : decode cL_law 560 = .ok (.iload_n 3, 1) := by decide +kernel
theorem dL_law_561 : decode cL_law 561 = .ok (.iconst 1, 1) := by decide +kernel
theorem dL_law_562 : decode cL_law 562 = .ok (.iadd, 1) := by decide +kernel
theorem dL_law_563 : decode cL_law 563 = .ok (.iaload, 1) := by decide +kernel
theorem dL_law_564 : decode cL_law 564 = .ok (.aload_n 0, 1) := by decide +kernel
theorem dL_law_565 : decode cL_law 565 = .ok (.iload_n 3, 1) := by decide +kernel
theorem dL_law_566 : decode cL_law 566 = .ok (.iconst 2, 1) := by decide +kernel
theorem dL_law_567 : decode cL_law 567 = .ok (.iadd, 1) := by decide +kernel
theorem dL_law_568 : decode cL_law 568 = .ok (.iaload, 1) := by decide +kernel
theorem dL_law_569 : decode cL_law 569 = .ok (.invokevirtual 69, 3) := by decide +kernel
theorem dL_law_572 : decode cL_law 572 = .ok (.if_icmp .eq 382, 3) := by decide +kernel
theorem dL_law_575 : decode cL_law 575 = .ok (.iconst 0, 1) := by decide +kernel
theorem dL_law_576 : decode cL_law 576 = .ok (.ireturn, 1) := by decide +kernel
theorem dL_law_577 : decode cL_law 577 = .ok (.aload_n 1, 1) := by decide +kernel
theorem dL_law_578 : decode cL_law 578 = .ok (.aload_n 0, 1) := by decide +kernel
theorem dL_law_579 : decode cL_law 579 = .ok (.iload_n 3, 1) := by decide +kernel
theorem dL_law_580 : decode cL_law 580 = .ok (.iconst 1, 1) := by decide +kernel
theorem dL_law_581 : decode cL_law 581 = .ok (.iadd, 1) := by decide +kernel
theorem dL_law_582 : decode cL_law 582 = .ok (.iaload, 1) := by decide +kernel
theorem dL_law_583 : decode cL_law 583 = .ok (.aload_n 0, 1) := by decide +kernel
theorem dL_law_584 : decode cL_law 584 = .ok (.iload_n 3, 1) := by decide +kernel
theorem dL_law_585 : decode cL_law 585 = .ok (.iconst 2, 1) := by decide +kernel
theorem dL_law_586 : decode cL_law 586 = .ok (.iadd, 1) := by decide +kernel
theorem dL_law_587 : decode cL_law 587 = .ok (.iaload, 1) := by decide +kernel
theorem dL_law_588 : decode cL_law 588 = .ok (.invokevirtual 70, 3) := by decide +kernel
theorem dL_law_591 : decode cL_law 591 = .ok (.aload_n 2, 1) := by decide +kernel
theorem dL_law_592 : decode cL_law 592 = .ok (.aload_n 0, 1) := by decide +kernel
theorem dL_law_593 : decode cL_law 593 = .ok (.iload_n 3, 1) := by decide +kernel
theorem dL_law_594 : decode cL_law 594 = .ok (.iconst 1, 1) := by decide +kernel
theorem dL_law_595 : decode cL_law 595 = .ok (.iadd, 1) := by decide +kernel
theorem dL_law_596 : decode cL_law 596 = .ok (.iaload, 1) := by decide +kernel
theorem dL_law_597 : decode cL_law 597 = .ok (.aload_n 0, 1) := by decide +kernel
theorem dL_law_598 : decode cL_law 598 = .ok (.iload_n 3, 1) := by decide +kernel
theorem dL_law_599 : decode cL_law 599 = .ok (.iconst 2, 1) := by decide +kernel
theorem dL_law_600 : decode cL_law 600 = .ok (.iadd, 1) := by decide +kernel
theorem dL_law_601 : decode cL_law 601 = .ok (.iaload, 1) := by decide +kernel
theorem dL_law_602 : decode cL_law 602 = .ok (.invokevirtual 73, 3) := by decide +kernel
theorem dL_law_605 : decode cL_law 605 = .ok (.if_icmp .eq 349, 3) := by decide +kernel
theorem dL_law_608 : decode cL_law 608 = .ok (.iconst 0, 1) := by decide +kernel
theorem dL_law_609 : decode cL_law 609 = .ok (.ireturn, 1) := by decide +kernel
theorem dL_law_610 : decode cL_law 610 = .ok (.aload_n 1, 1) := by decide +kernel
theorem dL_law_611 : decode cL_law 611 = .ok (.aload_n 0, 1) := by decide +kernel
theorem dL_law_612 : decode cL_law 612 = .ok (.iload_n 3, 1) := by decide +kernel
theorem dL_law_613 : decode cL_law 613 = .ok (.iconst 1, 1) := by decide +kernel
theorem dL_law_614 : decode cL_law 614 = .ok (.iadd, 1) := by decide +kernel
theorem dL_law_615 : decode cL_law 615 = .ok (.iaload, 1) := by decide +kernel
theorem dL_law_616 : decode cL_law 616 = .ok (.invokevirtual 74, 3) := by decide +kernel
theorem dL_law_619 : decode cL_law 619 = .ok (.aload_n 2, 1) := by decide +kernel
theorem dL_law_620 : decode cL_law 620 = .ok (.aload_n 0, 1) := by decide +kernel
theorem dL_law_621 : decode cL_law 621 = .ok (.iload_n 3, 1) := by decide +kernel
theorem dL_law_622 : decode cL_law 622 = .ok (.iconst 1, 1) := by decide +kernel
theorem dL_law_623 : decode cL_law 623 = .ok (.iadd, 1) := by decide +kernel
theorem dL_law_624 : decode cL_law 624 = .ok (.iaload, 1) := by decide +kernel
theorem dL_law_625 : decode cL_law 625 = .ok (.invokevirtual 77, 3) := by decide +kernel
theorem dL_law_628 : decode cL_law 628 = .ok (.if_icmp .eq 326, 3) := by decide +kernel
theorem dL_law_631 : decode cL_law 631 = .ok (.iconst 0, 1) := by decide +kernel
theorem dL_law_632 : decode cL_law 632 = .ok (.ireturn, 1) := by decide +kernel
theorem dL_law_633 : decode cL_law 633 = .ok (.aload_n 1, 1) := by decide +kernel
theorem dL_law_634 : decode cL_law 634 = .ok (.invokevirtual 78, 3) := by decide +kernel
theorem dL_law_637 : decode cL_law 637 = .ok (.aload_n 2, 1) := by decide +kernel
theorem dL_law_638 : decode cL_law 638 = .ok (.invokevirtual 81, 3) := by decide +kernel
theorem dL_law_641 : decode cL_law 641 = .ok (.if_icmp .eq 313, 3) := by decide +kernel
theorem dL_law_644 : decode cL_law 644 = .ok (.iconst 0, 1) := by decide +kernel
theorem dL_law_645 : decode cL_law 645 = .ok (.ireturn, 1) := by decide +kernel
theorem dL_law_646 : decode cL_law 646 = .ok (.aload_n 1, 1) := by decide +kernel
theorem dL_law_647 : decode cL_law 647 = .ok (.invokevirtual 82, 3) := by decide +kernel
theorem dL_law_650 : decode cL_law 650 = .ok (.aload_n 2, 1) := by decide +kernel
theorem dL_law_651 : decode cL_law 651 = .ok (.invokevirtual 85, 3) := by decide +kernel
theorem dL_law_654 : decode cL_law 654 = .ok (.if_icmp .eq 300, 3) := by decide +kernel
theorem dL_law_657 : decode cL_law 657 = .ok (.iconst 0, 1) := by decide +kernel
theorem dL_law_658 : decode cL_law 658 = .ok (.ireturn, 1) := by decide +kernel
theorem dL_law_659 : decode cL_law 659 = .ok (.aload_n 1, 1) := by decide +kernel
theorem dL_law_660 : decode cL_law 660 = .ok (.aload_n 0, 1) := by decide +kernel
theorem dL_law_661 : decode cL_law 661 = .ok (.iload_n 3, 1) := by decide +kernel
theorem dL_law_662 : decode cL_law 662 = .ok (.iconst 1, 1) := by decide +kernel
theorem dL_law_663 : decode cL_law 663 = .ok (.iadd, 1) := by decide +kernel
theorem dL_law_664 : decode cL_law 664 = .ok (.iaload, 1) := by decide +kernel
theorem dL_law_665 : decode cL_law 665 = .ok (.invokevirtual 86, 3) := by decide +kernel
theorem dL_law_668 : decode cL_law 668 = .ok (.aload_n 2, 1) := by decide +kernel
theorem dL_law_669 : decode cL_law 669 = .ok (.aload_n 0, 1) := by decide +kernel
theorem dL_law_670 : decode cL_law 670 = .ok (.iload_n 3, 1) := by decide +kernel
theorem dL_law_671 : decode cL_law 671 = .ok (.iconst 1, 1) := by decide +kernel
theorem dL_law_672 : decode cL_law 672 = .ok (.iadd, 1) := by decide +kernel
theorem dL_law_673 : decode cL_law 673 = .ok (.iaload, 1) := by decide +kernel
theorem dL_law_674 : decode cL_law 674 = .ok (.invokevirtual 89, 3) := by decide +kernel
theorem dL_law_677 : decode cL_law 677 = .ok (.if_icmp .eq 277, 3) := by decide +kernel
theorem dL_law_680 : decode cL_law 680 = .ok (.iconst 0, 1) := by decide +kernel
theorem dL_law_681 : decode cL_law 681 = .ok (.ireturn, 1) := by decide +kernel
theorem dL_law_682 : decode cL_law 682 = .ok (.aload_n 1, 1) := by decide +kernel
theorem dL_law_683 : decode cL_law 683 = .ok (.aload_n 0, 1) := by decide +kernel
theorem dL_law_684 : decode cL_law 684 = .ok (.iload_n 3, 1) := by decide +kernel
theorem dL_law_685 : decode cL_law 685 = .ok (.iconst 1, 1) := by decide +kernel
theorem dL_law_686 : decode cL_law 686 = .ok (.iadd, 1) := by decide +kernel
theorem dL_law_687 : decode cL_law 687 = .ok (.iaload, 1) := by decide +kernel
theorem dL_law_688 : decode cL_law 688 = .ok (.invokevirtual 90, 3) := by decide +kernel
theorem dL_law_691 : decode cL_law 691 = .ok (.aload_n 2, 1) := by decide +kernel
theorem dL_law_692 : decode cL_law 692 = .ok (.aload_n 0, 1) := by decide +kernel
theorem dL_law_693 : decode cL_law 693 = .ok (.iload_n 3, 1) := by decide +kernel
theorem dL_law_694 : decode cL_law 694 = .ok (.iconst 1, 1) := by decide +kernel
theorem dL_law_695 : decode cL_law 695 = .ok (.iadd, 1) := by decide +kernel
theorem dL_law_696 : decode cL_law 696 = .ok (.iaload, 1) := by decide +kernel
theorem dL_law_697 : decode cL_law 697 = .ok (.invokevirtual 93, 3) := by decide +kernel
theorem dL_law_700 : decode cL_law 700 = .ok (.if_icmp .eq 254, 3) := by decide +kernel
theorem dL_law_703 : decode cL_law 703 = .ok (.iconst 0, 1) := by decide +kernel
theorem dL_law_704 : decode cL_law 704 = .ok (.ireturn, 1) := by decide +kernel
theorem dL_law_705 : decode cL_law 705 = .ok (.aload_n 1, 1) := by decide +kernel
theorem dL_law_706 : decode cL_law 706 = .ok (.aload_n 0, 1) := by decide +kernel
theorem dL_law_707 : decode cL_law 707 = .ok (.iload_n 3, 1) := by decide +kernel
theorem dL_law_708 : decode cL_law 708 = .ok (.iconst 1, 1) := by decide +kernel
theorem dL_law_709 : decode cL_law 709 = .ok (.iadd, 1) := by decide +kernel
theorem dL_law_710 : decode cL_law 710 = .ok (.iaload, 1) := by decide +kernel
theorem dL_law_711 : decode cL_law 711 = .ok (.invokevirtual 94, 3) := by decide +kernel
theorem dL_law_714 : decode cL_law 714 = .ok (.aload_n 2, 1) := by decide +kernel
theorem dL_law_715 : decode cL_law 715 = .ok (.aload_n 0, 1) := by decide +kernel
theorem dL_law_716 : decode cL_law 716 = .ok (.iload_n 3, 1) := by decide +kernel
theorem dL_law_717 : decode cL_law 717 = .ok (.iconst 1, 1) := by decide +kernel
theorem dL_law_718 : decode cL_law 718 = .ok (.iadd, 1) := by decide +kernel
theorem dL_law_719 : decode cL_law 719 = .ok (.iaload, 1) := by decide +kernel
theorem dL_law_720 : decode cL_law 720 = .ok (.invokevirtual 97, 3) := by decide +kernel
theorem dL_law_723 : decode cL_law 723 = .ok (.if_icmp .eq 231, 3) := by decide +kernel
theorem dL_law_726 : decode cL_law 726 = .ok (.iconst 0, 1) := by decide +kernel
theorem dL_law_727 : decode cL_law 727 = .ok (.ireturn, 1) := by decide +kernel
theorem dL_law_728 : decode cL_law 728 = .ok (.aload_n 1, 1) := by decide +kernel
theorem dL_law_729 : decode cL_law 729 = .ok (.aload_n 0, 1) := by decide +kernel
theorem dL_law_730 : decode cL_law 730 = .ok (.iload_n 3, 1) := by decide +kernel
theorem dL_law_731 : decode cL_law 731 = .ok (.iconst 1, 1) := by decide +kernel
theorem dL_law_732 : decode cL_law 732 = .ok (.iadd, 1) := by decide +kernel
theorem dL_law_733 : decode cL_law 733 = .ok (.iaload, 1) := by decide +kernel
theorem dL_law_734 : decode cL_law 734 = .ok (.invokevirtual 98, 3) := by decide +kernel
theorem dL_law_737 : decode cL_law 737 = .ok (.aload_n 2, 1) := by decide +kernel
theorem dL_law_738 : decode cL_law 738 = .ok (.aload_n 0, 1) := by decide +kernel
theorem dL_law_739 : decode cL_law 739 = .ok (.iload_n 3, 1) := by decide +kernel
theorem dL_law_740 : decode cL_law 740 = .ok (.iconst 1, 1) := by decide +kernel
theorem dL_law_741 : decode cL_law 741 = .ok (.iadd, 1) := by decide +kernel
theorem dL_law_742 : decode cL_law 742 = .ok (.iaload, 1) := by decide +kernel
theorem dL_law_743 : decode cL_law 743 = .ok (.invokevirtual 101, 3) := by decide +kernel
theorem dL_law_746 : decode cL_law 746 = .ok (.if_icmp .eq 208, 3) := by decide +kernel
theorem dL_law_749 : decode cL_law 749 = .ok (.iconst 0, 1) := by decide +kernel
theorem dL_law_750 : decode cL_law 750 = .ok (.ireturn, 1) := by decide +kernel
theorem dL_law_751 : decode cL_law 751 = .ok (.aload_n 1, 1) := by decide +kernel
theorem dL_law_752 : decode cL_law 752 = .ok (.invokevirtual 102, 3) := by decide +kernel
theorem dL_law_755 : decode cL_law 755 = .ok (.aload_n 2, 1) := by decide +kernel
theorem dL_law_756 : decode cL_law 756 = .ok (.invokevirtual 105, 3) := by decide +kernel
theorem dL_law_759 : decode cL_law 759 = .ok (.if_icmp .eq 195, 3) := by decide +kernel
theorem dL_law_762 : decode cL_law 762 = .ok (.iconst 0, 1) := by decide +kernel
theorem dL_law_763 : decode cL_law 763 = .ok (.ireturn, 1) := by decide +kernel
theorem dL_law_764 : decode cL_law 764 = .ok (.aload_n 1, 1) := by decide +kernel
theorem dL_law_765 : decode cL_law 765 = .ok (.invokevirtual 106, 3) := by decide +kernel
theorem dL_law_768 : decode cL_law 768 = .ok (.aload_n 2, 1) := by decide +kernel
theorem dL_law_769 : decode cL_law 769 = .ok (.invokevirtual 109, 3) := by decide +kernel
theorem dL_law_772 : decode cL_law 772 = .ok (.if_icmp .eq 182, 3) := by decide +kernel
theorem dL_law_775 : decode cL_law 775 = .ok (.iconst 0, 1) := by decide +kernel
theorem dL_law_776 : decode cL_law 776 = .ok (.ireturn, 1) := by decide +kernel
theorem dL_law_777 : decode cL_law 777 = .ok (.aload_n 1, 1) := by decide +kernel
theorem dL_law_778 : decode cL_law 778 = .ok (.aload_n 0, 1) := by decide +kernel
theorem dL_law_779 : decode cL_law 779 = .ok (.iload_n 3, 1) := by decide +kernel
theorem dL_law_780 : decode cL_law 780 = .ok (.iconst 1, 1) := by decide +kernel
theorem dL_law_781 : decode cL_law 781 = .ok (.iadd, 1) := by decide +kernel
theorem dL_law_782 : decode cL_law 782 = .ok (.iaload, 1) := by decide +kernel
theorem dL_law_783 : decode cL_law 783 = .ok (.invokevirtual 110, 3) := by decide +kernel
theorem dL_law_786 : decode cL_law 786 = .ok (.aload_n 2, 1) := by decide +kernel
theorem dL_law_787 : decode cL_law 787 = .ok (.aload_n 0, 1) := by decide +kernel
theorem dL_law_788 : decode cL_law 788 = .ok (.iload_n 3, 1) := by decide +kernel
theorem dL_law_789 : decode cL_law 789 = .ok (.iconst 1, 1) := by decide +kernel
theorem dL_law_790 : decode cL_law 790 = .ok (.iadd, 1) := by decide +kernel
theorem dL_law_791 : decode cL_law 791 = .ok (.iaload, 1) := by decide +kernel
theorem dL_law_792 : decode cL_law 792 = .ok (.invokevirtual 113, 3) := by decide +kernel
theorem dL_law_795 : decode cL_law 795 = .ok (.if_icmp .eq 159, 3) := by decide +kernel
theorem dL_law_798 : decode cL_law 798 = .ok (.iconst 0, 1) := by decide +kernel
theorem dL_law_799 : decode cL_law 799 = .ok (.ireturn, 1) := by decide +kernel
theorem dL_law_800 : decode cL_law 800 = .ok (.aload_n 1, 1) := by decide +kernel
theorem dL_law_801 : decode cL_law 801 = .ok (.aload_n 0, 1) := by decide +kernel
theorem dL_law_802 : decode cL_law 802 = .ok (.iload_n 3, 1) := by decide +kernel
theorem dL_law_803 : decode cL_law 803 = .ok (.iconst 1, 1) := by decide +kernel
theorem dL_law_804 : decode cL_law 804 = .ok (.iadd, 1) := by decide +kernel
theorem dL_law_805 : decode cL_law 805 = .ok (.iaload, 1) := by decide +kernel
theorem dL_law_806 : decode cL_law 806 = .ok (.invokevirtual 114, 3) := by decide +kernel
theorem dL_law_809 : decode cL_law 809 = .ok (.aload_n 2, 1) := by decide +kernel
theorem dL_law_810 : decode cL_law 810 = .ok (.aload_n 0, 1) := by decide +kernel
theorem dL_law_811 : decode cL_law 811 = .ok (.iload_n 3, 1) := by decide +kernel
theorem dL_law_812 : decode cL_law 812 = .ok (.iconst 1, 1) := by decide +kernel
theorem dL_law_813 : decode cL_law 813 = .ok (.iadd, 1) := by decide +kernel
theorem dL_law_814 : decode cL_law 814 = .ok (.iaload, 1) := by decide +kernel
theorem dL_law_815 : decode cL_law 815 = .ok (.invokevirtual 117, 3) := by decide +kernel
theorem dL_law_818 : decode cL_law 818 = .ok (.if_icmp .eq 136, 3) := by decide +kernel
theorem dL_law_821 : decode cL_law 821 = .ok (.iconst 0, 1) := by decide +kernel
theorem dL_law_822 : decode cL_law 822 = .ok (.ireturn, 1) := by decide +kernel
theorem dL_law_823 : decode cL_law 823 = .ok (.aload_n 1, 1) := by decide +kernel
theorem dL_law_824 : decode cL_law 824 = .ok (.aload_n 0, 1) := by decide +kernel
theorem dL_law_825 : decode cL_law 825 = .ok (.iload_n 3, 1) := by decide +kernel
theorem dL_law_826 : decode cL_law 826 = .ok (.iconst 1, 1) := by decide +kernel
theorem dL_law_827 : decode cL_law 827 = .ok (.iadd, 1) := by decide +kernel
theorem dL_law_828 : decode cL_law 828 = .ok (.iaload, 1) := by decide +kernel
theorem dL_law_829 : decode cL_law 829 = .ok (.invokevirtual 118, 3) := by decide +kernel
theorem dL_law_832 : decode cL_law 832 = .ok (.aload_n 2, 1) := by decide +kernel
theorem dL_law_833 : decode cL_law 833 = .ok (.aload_n 0, 1) := by decide +kernel
theorem dL_law_834 : decode cL_law 834 = .ok (.iload_n 3, 1) := by decide +kernel
theorem dL_law_835 : decode cL_law 835 = .ok (.iconst 1, 1) := by decide +kernel
theorem dL_law_836 : decode cL_law 836 = .ok (.iadd, 1) := by decide +kernel
theorem dL_law_837 : decode cL_law 837 = .ok (.iaload, 1) := by decide +kernel
theorem dL_law_838 : decode cL_law 838 = .ok (.invokevirtual 121, 3) := by decide +kernel
theorem dL_law_841 : decode cL_law 841 = .ok (.if_icmp .eq 113, 3) := by decide +kernel
theorem dL_law_844 : decode cL_law 844 = .ok (.iconst 0, 1) := by decide +kernel
theorem dL_law_845 : decode cL_law 845 = .ok (.ireturn, 1) := by decide +kernel
theorem dL_law_846 : decode cL_law 846 = .ok (.aload_n 1, 1) := by decide +kernel
theorem dL_law_847 : decode cL_law 847 = .ok (.aload_n 0, 1) := by decide +kernel
theorem dL_law_848 : decode cL_law 848 = .ok (.iload_n 3, 1) := by decide +kernel
theorem dL_law_849 : decode cL_law 849 = .ok (.iconst 1, 1) := by decide +kernel
theorem dL_law_850 : decode cL_law 850 = .ok (.iadd, 1) := by decide +kernel
theorem dL_law_851 : decode cL_law 851 = .ok (.iaload, 1) := by decide +kernel
theorem dL_law_852 : decode cL_law 852 = .ok (.invokevirtual 122, 3) := by decide +kernel
theorem dL_law_855 : decode cL_law 855 = .ok (.aload_n 2, 1) := by decide +kernel
theorem dL_law_856 : decode cL_law 856 = .ok (.aload_n 0, 1) := by decide +kernel
theorem dL_law_857 : decode cL_law 857 = .ok (.iload_n 3, 1) := by decide +kernel
theorem dL_law_858 : decode cL_law 858 = .ok (.iconst 1, 1) := by decide +kernel
theorem dL_law_859 : decode cL_law 859 = .ok (.iadd, 1) := by decide +kernel
theorem dL_law_860 : decode cL_law 860 = .ok (.iaload, 1) := by decide +kernel
theorem dL_law_861 : decode cL_law 861 = .ok (.invokevirtual 125, 3) := by decide +kernel
theorem dL_law_864 : decode cL_law 864 = .ok (.if_icmp .eq 90, 3) := by decide +kernel
theorem dL_law_867 : decode cL_law 867 = .ok (.iconst 0, 1) := by decide +kernel
theorem dL_law_868 : decode cL_law 868 = .ok (.ireturn, 1) := by decide +kernel
theorem dL_law_869 : decode cL_law 869 = .ok (.aload_n 1, 1) := by decide +kernel
theorem dL_law_870 : decode cL_law 870 = .ok (.invokevirtual 126, 3) := by decide +kernel
theorem dL_law_873 : decode cL_law 873 = .ok (.aload_n 2, 1) := by decide +kernel
theorem dL_law_874 : decode cL_law 874 = .ok (.invokevirtual 129, 3) := by decide +kernel
theorem dL_law_877 : decode cL_law 877 = .ok (.if_icmp .eq 77, 3) := by decide +kernel
theorem dL_law_880 : decode cL_law 880 = .ok (.iconst 0, 1) := by decide +kernel
theorem dL_law_881 : decode cL_law 881 = .ok (.ireturn, 1) := by decide +kernel
theorem dL_law_882 : decode cL_law 882 = .ok (.aload_n 1, 1) := by decide +kernel
theorem dL_law_883 : decode cL_law 883 = .ok (.invokevirtual 130, 3) := by decide +kernel
theorem dL_law_886 : decode cL_law 886 = .ok (.aload_n 2, 1) := by decide +kernel
theorem dL_law_887 : decode cL_law 887 = .ok (.invokevirtual 133, 3) := by decide +kernel
theorem dL_law_890 : decode cL_law 890 = .ok (.if_icmp .eq 64, 3) := by decide +kernel
theorem dL_law_893 : decode cL_law 893 = .ok (.iconst 0, 1) := by decide +kernel
theorem dL_law_894 : decode cL_law 894 = .ok (.ireturn, 1) := by decide +kernel
theorem dL_law_895 : decode cL_law 895 = .ok (.aload_n 1, 1) := by decide +kernel
theorem dL_law_896 : decode cL_law 896 = .ok (.invokevirtual 134, 3) := by decide +kernel
theorem dL_law_899 : decode cL_law 899 = .ok (.aload_n 2, 1) := by decide +kernel
theorem dL_law_900 : decode cL_law 900 = .ok (.invokevirtual 137, 3) := by decide +kernel
theorem dL_law_903 : decode cL_law 903 = .ok (.if_icmp .eq 51, 3) := by decide +kernel
theorem dL_law_906 : decode cL_law 906 = .ok (.iconst 0, 1) := by decide +kernel
theorem dL_law_907 : decode cL_law 907 = .ok (.ireturn, 1) := by decide +kernel
theorem dL_law_908 : decode cL_law 908 = .ok (.aload_n 1, 1) := by decide +kernel
theorem dL_law_909 : decode cL_law 909 = .ok (.aload_n 0, 1) := by decide +kernel
theorem dL_law_910 : decode cL_law 910 = .ok (.iload_n 3, 1) := by decide +kernel
theorem dL_law_911 : decode cL_law 911 = .ok (.iconst 1, 1) := by decide +kernel
theorem dL_law_912 : decode cL_law 912 = .ok (.iadd, 1) := by decide +kernel
theorem dL_law_913 : decode cL_law 913 = .ok (.iaload, 1) := by decide +kernel
theorem dL_law_914 : decode cL_law 914 = .ok (.invokevirtual 138, 3) := by decide +kernel
theorem dL_law_917 : decode cL_law 917 = .ok (.aload_n 2, 1) := by decide +kernel
theorem dL_law_918 : decode cL_law 918 = .ok (.aload_n 0, 1) := by decide +kernel
theorem dL_law_919 : decode cL_law 919 = .ok (.iload_n 3, 1) := by decide +kernel
theorem dL_law_920 : decode cL_law 920 = .ok (.iconst 1, 1) := by decide +kernel
theorem dL_law_921 : decode cL_law 921 = .ok (.iadd, 1) := by decide +kernel
theorem dL_law_922 : decode cL_law 922 = .ok (.iaload, 1) := by decide +kernel
theorem dL_law_923 : decode cL_law 923 = .ok (.invokevirtual 141, 3) := by decide +kernel
theorem dL_law_926 : decode cL_law 926 = .ok (.if_icmp .eq 28, 3) := by decide +kernel
theorem dL_law_929 : decode cL_law 929 = .ok (.iconst 0, 1) := by decide +kernel
theorem dL_law_930 : decode cL_law 930 = .ok (.ireturn, 1) := by decide +kernel
theorem dL_law_931 : decode cL_law 931 = .ok (.aload_n 1, 1) := by decide +kernel
theorem dL_law_932 : decode cL_law 932 = .ok (.aload_n 0, 1) := by decide +kernel
theorem dL_law_933 : decode cL_law 933 = .ok (.iload_n 3, 1) := by decide +kernel
theorem dL_law_934 : decode cL_law 934 = .ok (.iconst 1, 1) := by decide +kernel
theorem dL_law_935 : decode cL_law 935 = .ok (.iadd, 1) := by decide +kernel
theorem dL_law_936 : decode cL_law 936 = .ok (.iaload, 1) := by decide +kernel
theorem dL_law_937 : decode cL_law 937 = .ok (.invokevirtual 142, 3) := by decide +kernel
theorem dL_law_940 : decode cL_law 940 = .ok (.aload_n 2, 1) := by decide +kernel
theorem dL_law_941 : decode cL_law 941 = .ok (.aload_n 0, 1) := by decide +kernel
theorem dL_law_942 : decode cL_law 942 = .ok (.iload_n 3, 1) := by decide +kernel
theorem dL_law_943 : decode cL_law 943 = .ok (.iconst 1, 1) := by decide +kernel
theorem dL_law_944 : decode cL_law 944 = .ok (.iadd, 1) := by decide +kernel
theorem dL_law_945 : decode cL_law 945 = .ok (.iaload, 1) := by decide +kernel
theorem dL_law_946 : decode cL_law 946 = .ok (.invokevirtual 145, 3) := by decide +kernel
theorem dL_law_949 : decode cL_law 949 = .ok (.if_icmp .eq 5, 3) := by decide +kernel
theorem dL_law_952 : decode cL_law 952 = .ok (.iconst 0, 1) := by decide +kernel
theorem dL_law_953 : decode cL_law 953 = .ok (.ireturn, 1) := by decide +kernel
theorem dL_law_954 : decode cL_law 954 = .ok (.iinc 3 6, 3) := by decide +kernel
theorem dL_law_957 : decode cL_law 957 = .ok (.goto (-939), 3) := by decide +kernel
theorem dL_law_960 : decode cL_law 960 = .ok (.iconst 1, 1) := by decide +kernel
theorem dL_law_961 : decode cL_law 961 = .ok (.ireturn, 1) := by decide +kernel
end
section
/-! methods, links, call sites: the words that they need, by their places -/
def MX0_init : zM := (yX0_init, cX0_init, 1, none)
theorem moX0_init : zMo MX0_init 0 := ⟨zT_mem 57 (by decide +kernel) (by decide +kernel), zT_mem 31 (by decide +kernel) (by decide +kernel), by decide +kernel, by decide +kernel⟩
def MX0_holds : zM := (yX0_holds, cX0_holds, 2, some .boolean)
theorem moX0_holds : zMo MX0_holds 1 := ⟨zT_mem 402 (by decide +kernel) (by decide +kernel), zT_mem 31 (by decide +kernel) (by decide +kernel), by decide +kernel, by decide +kernel⟩
def MX0_placeOf : zM := (yX0_placeOf, cX0_placeOf, 2, some .int)
theorem moX0_placeOf : zMo MX0_placeOf 1 := ⟨zT_mem 354 (by decide +kernel) (by decide +kernel), zT_mem 31 (by decide +kernel) (by decide +kernel), by decide +kernel, by decide +kernel⟩
def MX0_add : zM := (yX0_add, cX0_add, 5, none)
theorem moX0_add : zMo MX0_add 3 := ⟨zT_mem 350 (by decide +kernel) (by decide +kernel), zT_mem 31 (by decide +kernel) (by decide +kernel), by decide +kernel, by decide +kernel⟩
def MX0_copyFrom : zM := (yX0_copyFrom, cX0_copyFrom, 2, none)
theorem moX0_copyFrom : zMo MX0_copyFrom 1 := ⟨zT_mem 427 (by decide +kernel) (by decide +kernel), zT_mem 31 (by decide +kernel) (by decide +kernel), by decide +kernel, by decide +kernel⟩
def MX1_init : zM := (yX1_init, cX1_init, 1, none)
theorem moX1_init : zMo MX1_init 0 := ⟨zT_mem 84 (by decide +kernel) (by decide +kernel), zT_mem 32 (by decide +kernel) (by decide +kernel), by decide +kernel, by decide +kernel⟩
def MX1_isPowered : zM := (yX1_isPowered, cX1_isPowered, 1, some .boolean)
theorem moX1_isPowered : zMo MX1_isPowered 0 := ⟨zT_mem 278 (by decide +kernel) (by decide +kernel), zT_mem 32 (by decide +kernel) (by decide +kernel), by decide +kernel, by decide +kernel⟩
def MX1_isOverloaded : zM := (yX1_isOverloaded, cX1_isOverloaded, 1, some .boolean)
theorem moX1_isOverloaded : zMo MX1_isOverloaded 0 := ⟨zT_mem 362 (by decide +kernel) (by decide +kernel), zT_mem 32 (by decide +kernel) (by decide +kernel), by decide +kernel, by decide +kernel⟩
def MX1_hasRequest : zM := (yX1_hasRequest, cX1_hasRequest, 1, some .boolean)
theorem moX1_hasRequest : zMo MX1_hasRequest 0 := ⟨zT_mem 290 (by decide +kernel) (by decide +kernel), zT_mem 32 (by decide +kernel) (by decide +kernel), by decide +kernel, by decide +kernel⟩
def MX1_isEligible : zM := (yX1_isEligible, cX1_isEligible, 1, some .boolean)
theorem moX1_isEligible : zMo MX1_isEligible 0 := ⟨zT_mem 306 (by decide +kernel) (by decide +kernel), zT_mem 32 (by decide +kernel) (by decide +kernel), by decide +kernel, by decide +kernel⟩
def MX1_canPowerUp : zM := (yX1_canPowerUp, cX1_canPowerUp, 2, some .boolean)
theorem moX1_canPowerUp : zMo MX1_canPowerUp 1 := ⟨zT_mem 379 (by decide +kernel) (by decide +kernel), zT_mem 32 (by decide +kernel) (by decide +kernel), by decide +kernel, by decide +kernel⟩
def MX1_losePower : zM := (yX1_losePower, cX1_losePower, 1, none)
theorem moX1_losePower : zMo MX1_losePower 0 := ⟨zT_mem 247 (by decide +kernel) (by decide +kernel), zT_mem 32 (by decide +kernel) (by decide +kernel), by decide +kernel, by decide +kernel⟩
def MX1_reset : zM := (yX1_reset, cX1_reset, 1, none)
theorem moX1_reset : zMo MX1_reset 0 := ⟨zT_mem 243 (by decide +kernel) (by decide +kernel), zT_mem 32 (by decide +kernel) (by decide +kernel), by decide +kernel, by decide +kernel⟩
def MX1_copyFrom : zM := (yX1_copyFrom, cX1_copyFrom, 2, none)
theorem moX1_copyFrom : zMo MX1_copyFrom 1 := ⟨zT_mem 423 (by decide +kernel) (by decide +kernel), zT_mem 32 (by decide +kernel) (by decide +kernel), by decide +kernel, by decide +kernel⟩
def MX2_init : zM := (yX2_init, cX2_init, 2, none)
theorem moX2_init : zMo MX2_init 0 := ⟨zT_mem 49 (by decide +kernel) (by decide +kernel), zT_mem 30 (by decide +kernel) (by decide +kernel), by decide +kernel, by decide +kernel⟩
def MX2_copyFrom : zM := (yX2_copyFrom, cX2_copyFrom, 3, none)
theorem moX2_copyFrom : zMo MX2_copyFrom 1 := ⟨zT_mem 419 (by decide +kernel) (by decide +kernel), zT_mem 30 (by decide +kernel) (by decide +kernel), by decide +kernel, by decide +kernel⟩
def MX2_wholeBudget : zM := (yX2_wholeBudget, cX2_wholeBudget, 3, some .int)
theorem moX2_wholeBudget : zMo MX2_wholeBudget 0 := ⟨zT_mem 220 (by decide +kernel) (by decide +kernel), zT_mem 30 (by decide +kernel) (by decide +kernel), by decide +kernel, by decide +kernel⟩
def MX2_sparePower : zM := (yX2_sparePower, cX2_sparePower, 3, some .int)
theorem moX2_sparePower : zMo MX2_sparePower 0 := ⟨zT_mem 231 (by decide +kernel) (by decide +kernel), zT_mem 30 (by decide +kernel) (by decide +kernel), by decide +kernel, by decide +kernel⟩
def MX2_eligibleSet : zM := (yX2_eligibleSet, cX2_eligibleSet, 3, some .int)
theorem moX2_eligibleSet : zMo MX2_eligibleSet 0 := ⟨zT_mem 302 (by decide +kernel) (by decide +kernel), zT_mem 30 (by decide +kernel) (by decide +kernel), by decide +kernel, by decide +kernel⟩
def MX2_poweredSet : zM := (yX2_poweredSet, cX2_poweredSet, 3, some .int)
theorem moX2_poweredSet : zMo MX2_poweredSet 0 := ⟨zT_mem 315 (by decide +kernel) (by decide +kernel), zT_mem 30 (by decide +kernel) (by decide +kernel), by decide +kernel, by decide +kernel⟩
def MX2_fittingSet : zM := (yX2_fittingSet, cX2_fittingSet, 6, some .int)
theorem moX2_fittingSet : zMo MX2_fittingSet 0 := ⟨zT_mem 439 (by decide +kernel) (by decide +kernel), zT_mem 30 (by decide +kernel) (by decide +kernel), by decide +kernel, by decide +kernel⟩
def MX2_runSecond : zM := (yX2_runSecond, cX2_runSecond, 4, some .int)
theorem moX2_runSecond : zMo MX2_runSecond 0 := ⟨zT_mem 336 (by decide +kernel) (by decide +kernel), zT_mem 30 (by decide +kernel) (by decide +kernel), by decide +kernel, by decide +kernel⟩
def MX2_shedPorts : zM := (yX2_shedPorts, cX2_shedPorts, 4, some .int)
theorem moX2_shedPorts : zMo MX2_shedPorts 0 := ⟨zT_mem 340 (by decide +kernel) (by decide +kernel), zT_mem 30 (by decide +kernel) (by decide +kernel), by decide +kernel, by decide +kernel⟩
def MX2_lastPoweredPort : zM := (yX2_lastPoweredPort, cX2_lastPoweredPort, 5, some .int)
theorem moX2_lastPoweredPort : zMo MX2_lastPoweredPort 0 := ⟨zT_mem 345 (by decide +kernel) (by decide +kernel), zT_mem 30 (by decide +kernel) (by decide +kernel), by decide +kernel, by decide +kernel⟩
def MX2_cutPorts : zM := (yX2_cutPorts, cX2_cutPorts, 4, some .int)
theorem moX2_cutPorts : zMo MX2_cutPorts 0 := ⟨zT_mem 358 (by decide +kernel) (by decide +kernel), zT_mem 30 (by decide +kernel) (by decide +kernel), by decide +kernel, by decide +kernel⟩
def MX2_coolDownExcept : zM := (yX2_coolDownExcept, cX2_coolDownExcept, 4, none)
theorem moX2_coolDownExcept : zMo MX2_coolDownExcept 1 := ⟨zT_mem 367 (by decide +kernel) (by decide +kernel), zT_mem 30 (by decide +kernel) (by decide +kernel), by decide +kernel, by decide +kernel⟩
def MX2_powerUp : zM := (yX2_powerUp, cX2_powerUp, 2, some .int)
theorem moX2_powerUp : zMo MX2_powerUp 0 := ⟨zT_mem 371 (by decide +kernel) (by decide +kernel), zT_mem 30 (by decide +kernel) (by decide +kernel), by decide +kernel, by decide +kernel⟩
def MX2_firstPortToPowerUp : zM := (yX2_firstPortToPowerUp, cX2_firstPortToPowerUp, 6, some .int)
theorem moX2_firstPortToPowerUp : zMo MX2_firstPortToPowerUp 0 := ⟨zT_mem 375 (by decide +kernel) (by decide +kernel), zT_mem 30 (by decide +kernel) (by decide +kernel), by decide +kernel, by decide +kernel⟩
def MX2_isStable : zM := (yX2_isStable, cX2_isStable, 1, some .boolean)
theorem moX2_isStable : zMo MX2_isStable 0 := ⟨zT_mem 451 (by decide +kernel) (by decide +kernel), zT_mem 30 (by decide +kernel) (by decide +kernel), by decide +kernel, by decide +kernel⟩
def MX2_portsAreCalm : zM := (yX2_portsAreCalm, cX2_portsAreCalm, 3, some .boolean)
theorem moX2_portsAreCalm : zMo MX2_portsAreCalm 0 := ⟨zT_mem 455 (by decide +kernel) (by decide +kernel), zT_mem 30 (by decide +kernel) (by decide +kernel), by decide +kernel, by decide +kernel⟩
def MX3_init : zM := (yX3_init, cX3_init, 1, none)
theorem moX3_init : zMo MX3_init 0 := ⟨zT_mem 41 (by decide +kernel) (by decide +kernel), zT_mem 29 (by decide +kernel) (by decide +kernel), by decide +kernel, by decide +kernel⟩
def MX3_setCapacity : zM := (yX3_setCapacity, cX3_setCapacity, 4, some .int)
theorem moX3_setCapacity : zMo MX3_setCapacity 2 := ⟨zT_mem 186 (by decide +kernel) (by decide +kernel), zT_mem 29 (by decide +kernel) (by decide +kernel), by decide +kernel, by decide +kernel⟩
def MX3_setWorking : zM := (yX3_setWorking, cX3_setWorking, 4, some .int)
theorem moX3_setWorking : zMo MX3_setWorking 2 := ⟨zT_mem 196 (by decide +kernel) (by decide +kernel), zT_mem 29 (by decide +kernel) (by decide +kernel), by decide +kernel, by decide +kernel⟩
def MX3_setReserve : zM := (yX3_setReserve, cX3_setReserve, 3, some .int)
theorem moX3_setReserve : zMo MX3_setReserve 1 := ⟨zT_mem 200 (by decide +kernel) (by decide +kernel), zT_mem 29 (by decide +kernel) (by decide +kernel), by decide +kernel, by decide +kernel⟩
def MX3_setRestartGap : zM := (yX3_setRestartGap, cX3_setRestartGap, 3, some .int)
theorem moX3_setRestartGap : zMo MX3_setRestartGap 1 := ⟨zT_mem 204 (by decide +kernel) (by decide +kernel), zT_mem 29 (by decide +kernel) (by decide +kernel), by decide +kernel, by decide +kernel⟩
def MX3_setOverloadLimit : zM := (yX3_setOverloadLimit, cX3_setOverloadLimit, 3, some .int)
theorem moX3_setOverloadLimit : zMo MX3_setOverloadLimit 1 := ⟨zT_mem 208 (by decide +kernel) (by decide +kernel), zT_mem 29 (by decide +kernel) (by decide +kernel), by decide +kernel, by decide +kernel⟩
def MX3_setCooldownTime : zM := (yX3_setCooldownTime, cX3_setCooldownTime, 3, some .int)
theorem moX3_setCooldownTime : zMo MX3_setCooldownTime 1 := ⟨zT_mem 212 (by decide +kernel) (by decide +kernel), zT_mem 29 (by decide +kernel) (by decide +kernel), by decide +kernel, by decide +kernel⟩
def MX3_budget : zM := (yX3_budget, cX3_budget, 1, some .int)
theorem moX3_budget : zMo MX3_budget 0 := ⟨zT_mem 216 (by decide +kernel) (by decide +kernel), zT_mem 29 (by decide +kernel) (by decide +kernel), by decide +kernel, by decide +kernel⟩
def MX3_available : zM := (yX3_available, cX3_available, 1, some .int)
theorem moX3_available : zMo MX3_available 0 := ⟨zT_mem 227 (by decide +kernel) (by decide +kernel), zT_mem 29 (by decide +kernel) (by decide +kernel), by decide +kernel, by decide +kernel⟩
def MX3_setEnabled : zM := (yX3_setEnabled, cX3_setEnabled, 5, some .int)
theorem moX3_setEnabled : zMo MX3_setEnabled 2 := ⟨zT_mem 236 (by decide +kernel) (by decide +kernel), zT_mem 29 (by decide +kernel) (by decide +kernel), by decide +kernel, by decide +kernel⟩
def MX3_setPriority : zM := (yX3_setPriority, cX3_setPriority, 5, some .int)
theorem moX3_setPriority : zMo MX3_setPriority 2 := ⟨zT_mem 251 (by decide +kernel) (by decide +kernel), zT_mem 29 (by decide +kernel) (by decide +kernel), by decide +kernel, by decide +kernel⟩
def MX3_connect : zM := (yX3_connect, cX3_connect, 8, some .int)
theorem moX3_connect : zMo MX3_connect 5 := ⟨zT_mem 255 (by decide +kernel) (by decide +kernel), zT_mem 29 (by decide +kernel) (by decide +kernel), by decide +kernel, by decide +kernel⟩
def MX3_disconnect : zM := (yX3_disconnect, cX3_disconnect, 4, some .int)
theorem moX3_disconnect : zMo MX3_disconnect 1 := ⟨zT_mem 274 (by decide +kernel) (by decide +kernel), zT_mem 29 (by decide +kernel) (by decide +kernel), by decide +kernel, by decide +kernel⟩
def MX3_setLoad : zM := (yX3_setLoad, cX3_setLoad, 5, some .int)
theorem moX3_setLoad : zMo MX3_setLoad 2 := ⟨zT_mem 282 (by decide +kernel) (by decide +kernel), zT_mem 29 (by decide +kernel) (by decide +kernel), by decide +kernel, by decide +kernel⟩
def MX3_setRequest : zM := (yX3_setRequest, cX3_setRequest, 5, some .int)
theorem moX3_setRequest : zMo MX3_setRequest 2 := ⟨zT_mem 286 (by decide +kernel) (by decide +kernel), zT_mem 29 (by decide +kernel) (by decide +kernel), by decide +kernel, by decide +kernel⟩
def MX3_request : zM := (yX3_request, cX3_request, 3, some .int)
theorem moX3_request : zMo MX3_request 1 := ⟨zT_mem 294 (by decide +kernel) (by decide +kernel), zT_mem 29 (by decide +kernel) (by decide +kernel), by decide +kernel, by decide +kernel⟩
def MX3_eligiblePorts : zM := (yX3_eligiblePorts, cX3_eligiblePorts, 1, some .int)
theorem moX3_eligiblePorts : zMo MX3_eligiblePorts 0 := ⟨zT_mem 298 (by decide +kernel) (by decide +kernel), zT_mem 29 (by decide +kernel) (by decide +kernel), by decide +kernel, by decide +kernel⟩
def MX3_poweredPorts : zM := (yX3_poweredPorts, cX3_poweredPorts, 1, some .int)
theorem moX3_poweredPorts : zMo MX3_poweredPorts 0 := ⟨zT_mem 311 (by decide +kernel) (by decide +kernel), zT_mem 29 (by decide +kernel) (by decide +kernel), by decide +kernel, by decide +kernel⟩
def MX3_grant : zM := (yX3_grant, cX3_grant, 2, some .int)
theorem moX3_grant : zMo MX3_grant 1 := ⟨zT_mem 320 (by decide +kernel) (by decide +kernel), zT_mem 29 (by decide +kernel) (by decide +kernel), by decide +kernel, by decide +kernel⟩
def MX3_overload : zM := (yX3_overload, cX3_overload, 2, some .int)
theorem moX3_overload : zMo MX3_overload 1 := ⟨zT_mem 324 (by decide +kernel) (by decide +kernel), zT_mem 29 (by decide +kernel) (by decide +kernel), by decide +kernel, by decide +kernel⟩
def MX3_cooldown : zM := (yX3_cooldown, cX3_cooldown, 2, some .int)
theorem moX3_cooldown : zMo MX3_cooldown 1 := ⟨zT_mem 328 (by decide +kernel) (by decide +kernel), zT_mem 29 (by decide +kernel) (by decide +kernel), by decide +kernel, by decide +kernel⟩
def MX3_advance : zM := (yX3_advance, cX3_advance, 4, some .int)
theorem moX3_advance : zMo MX3_advance 1 := ⟨zT_mem 332 (by decide +kernel) (by decide +kernel), zT_mem 29 (by decide +kernel) (by decide +kernel), by decide +kernel, by decide +kernel⟩
def MX3_clock : zM := (yX3_clock, cX3_clock, 1, some .int)
theorem moX3_clock : zMo MX3_clock 0 := ⟨zT_mem 390 (by decide +kernel) (by decide +kernel), zT_mem 29 (by decide +kernel) (by decide +kernel), by decide +kernel, by decide +kernel⟩
def MX3_eventCount : zM := (yX3_eventCount, cX3_eventCount, 1, some .int)
theorem moX3_eventCount : zMo MX3_eventCount 0 := ⟨zT_mem 394 (by decide +kernel) (by decide +kernel), zT_mem 29 (by decide +kernel) (by decide +kernel), by decide +kernel, by decide +kernel⟩
def MX3_eventTime : zM := (yX3_eventTime, cX3_eventTime, 3, some .int)
theorem moX3_eventTime : zMo MX3_eventTime 1 := ⟨zT_mem 398 (by decide +kernel) (by decide +kernel), zT_mem 29 (by decide +kernel) (by decide +kernel), by decide +kernel, by decide +kernel⟩
def MX3_eventPort : zM := (yX3_eventPort, cX3_eventPort, 3, some .int)
theorem moX3_eventPort : zMo MX3_eventPort 1 := ⟨zT_mem 407 (by decide +kernel) (by decide +kernel), zT_mem 29 (by decide +kernel) (by decide +kernel), by decide +kernel, by decide +kernel⟩
def MX3_eventKind : zM := (yX3_eventKind, cX3_eventKind, 3, some .int)
theorem moX3_eventKind : zMo MX3_eventKind 1 := ⟨zT_mem 411 (by decide +kernel) (by decide +kernel), zT_mem 29 (by decide +kernel) (by decide +kernel), by decide +kernel, by decide +kernel⟩
def MX3_shedIfFails : zM := (yX3_shedIfFails, cX3_shedIfFails, 2, some .int)
theorem moX3_shedIfFails : zMo MX3_shedIfFails 1 := ⟨zT_mem 415 (by decide +kernel) (by decide +kernel), zT_mem 29 (by decide +kernel) (by decide +kernel), by decide +kernel, by decide +kernel⟩
def MX3_fittingPorts : zM := (yX3_fittingPorts, cX3_fittingPorts, 1, some .int)
theorem moX3_fittingPorts : zMo MX3_fittingPorts 0 := ⟨zT_mem 435 (by decide +kernel) (by decide +kernel), zT_mem 29 (by decide +kernel) (by decide +kernel), by decide +kernel, by decide +kernel⟩
def MX3_secondsToStable : zM := (yX3_secondsToStable, cX3_secondsToStable, 1, some .int)
theorem moX3_secondsToStable : zMo MX3_secondsToStable 0 := ⟨zT_mem 443 (by decide +kernel) (by decide +kernel), zT_mem 29 (by decide +kernel) (by decide +kernel), by decide +kernel, by decide +kernel⟩
def MX3_stablePorts : zM := (yX3_stablePorts, cX3_stablePorts, 1, some .int)
theorem moX3_stablePorts : zMo MX3_stablePorts 0 := ⟨zT_mem 459 (by decide +kernel) (by decide +kernel), zT_mem 29 (by decide +kernel) (by decide +kernel), by decide +kernel, by decide +kernel⟩
def MX3_save : zM := (yX3_save, cX3_save, 3, some .int)
theorem moX3_save : zMo MX3_save 1 := ⟨zT_mem 463 (by decide +kernel) (by decide +kernel), zT_mem 29 (by decide +kernel) (by decide +kernel), by decide +kernel, by decide +kernel⟩
def MX3_restore : zM := (yX3_restore, cX3_restore, 3, some .int)
theorem moX3_restore : zMo MX3_restore 1 := ⟨zT_mem 470 (by decide +kernel) (by decide +kernel), zT_mem 29 (by decide +kernel) (by decide +kernel), by decide +kernel, by decide +kernel⟩
def MX3_settlePlan : zM := (yX3_settlePlan, cX3_settlePlan, 2, some .int)
theorem moX3_settlePlan : zMo MX3_settlePlan 0 := ⟨zT_mem 447 (by decide +kernel) (by decide +kernel), zT_mem 29 (by decide +kernel) (by decide +kernel), by decide +kernel, by decide +kernel⟩
def MX3_isPort : zM := (yX3_isPort, cX3_isPort, 1, some .boolean)
theorem moX3_isPort : zMo MX3_isPort 1 := ⟨zT_mem 239 (by decide +kernel) (by decide +kernel), zT_mem 29 (by decide +kernel) (by decide +kernel), by decide +kernel, by decide +kernel⟩
def MX3_isSupply : zM := (yX3_isSupply, cX3_isSupply, 1, some .boolean)
theorem moX3_isSupply : zMo MX3_isSupply 1 := ⟨zT_mem 189 (by decide +kernel) (by decide +kernel), zT_mem 29 (by decide +kernel) (by decide +kernel), by decide +kernel, by decide +kernel⟩
def MX3_isSlot : zM := (yX3_isSlot, cX3_isSlot, 1, some .boolean)
theorem moX3_isSlot : zMo MX3_isSlot 1 := ⟨zT_mem 466 (by decide +kernel) (by decide +kernel), zT_mem 29 (by decide +kernel) (by decide +kernel), by decide +kernel, by decide +kernel⟩
def MX3_isWithin : zM := (yX3_isWithin, cX3_isWithin, 3, some .boolean)
theorem moX3_isWithin : zMo MX3_isWithin 3 := ⟨zT_mem 192 (by decide +kernel) (by decide +kernel), zT_mem 29 (by decide +kernel) (by decide +kernel), by decide +kernel, by decide +kernel⟩
def MX3_isDetected : zM := (yX3_isDetected, cX3_isDetected, 2, some .boolean)
theorem moX3_isDetected : zMo MX3_isDetected 2 := ⟨zT_mem 267 (by decide +kernel) (by decide +kernel), zT_mem 29 (by decide +kernel) (by decide +kernel), by decide +kernel, by decide +kernel⟩
def MX3_classOf : zM := (yX3_classOf, cX3_classOf, 2, some .int)
theorem moX3_classOf : zMo MX3_classOf 1 := ⟨zT_mem 258 (by decide +kernel) (by decide +kernel), zT_mem 29 (by decide +kernel) (by decide +kernel), by decide +kernel, by decide +kernel⟩
def MX3_maximumOf : zM := (yX3_maximumOf, cX3_maximumOf, 1, some .int)
theorem moX3_maximumOf : zMo MX3_maximumOf 1 := ⟨zT_mem 270 (by decide +kernel) (by decide +kernel), zT_mem 29 (by decide +kernel) (by decide +kernel), by decide +kernel, by decide +kernel⟩
def MX4_init : zM := (yX4_init, cX4_init, 2, none)
theorem moX4_init : zMo MX4_init 0 := ⟨zT_mem 475 (by decide +kernel) (by decide +kernel), zT_mem 33 (by decide +kernel) (by decide +kernel), by decide +kernel, by decide +kernel⟩
def MX4_in : zM := (yX4_in, cX4_in, 3, some .boolean)
theorem moX4_in : zMo MX4_in 3 := ⟨zT_mem 511 (by decide +kernel) (by decide +kernel), zT_mem 33 (by decide +kernel) (by decide +kernel), by decide +kernel, by decide +kernel⟩
def MX4_isPort : zM := (yX4_isPort, cX4_isPort, 1, some .boolean)
theorem moX4_isPort : zMo MX4_isPort 1 := ⟨zT_mem 555 (by decide +kernel) (by decide +kernel), zT_mem 33 (by decide +kernel) (by decide +kernel), by decide +kernel, by decide +kernel⟩
def MX4_isSupply : zM := (yX4_isSupply, cX4_isSupply, 1, some .boolean)
theorem moX4_isSupply : zMo MX4_isSupply 1 := ⟨zT_mem 508 (by decide +kernel) (by decide +kernel), zT_mem 33 (by decide +kernel) (by decide +kernel), by decide +kernel, by decide +kernel⟩
def MX4_at : zM := (yX4_at, cX4_at, 2, some .int)
theorem moX4_at : zMo MX4_at 2 := ⟨zT_mem 479 (by decide +kernel) (by decide +kernel), zT_mem 33 (by decide +kernel) (by decide +kernel), by decide +kernel, by decide +kernel⟩
def MX4_of : zM := (yX4_of, cX4_of, 3, some .int)
theorem moX4_of : zMo MX4_of 2 := ⟨zT_mem 548 (by decide +kernel) (by decide +kernel), zT_mem 33 (by decide +kernel) (by decide +kernel), by decide +kernel, by decide +kernel⟩
def MX4_set : zM := (yX4_set, cX4_set, 4, some .int)
theorem moX4_set : zMo MX4_set 2 := ⟨zT_mem 515 (by decide +kernel) (by decide +kernel), zT_mem 33 (by decide +kernel) (by decide +kernel), by decide +kernel, by decide +kernel⟩
def MX4_setCapacity : zM := (yX4_setCapacity, cX4_setCapacity, 3, some .int)
theorem moX4_setCapacity : zMo MX4_setCapacity 2 := ⟨zT_mem 505 (by decide +kernel) (by decide +kernel), zT_mem 33 (by decide +kernel) (by decide +kernel), by decide +kernel, by decide +kernel⟩
def MX4_setWorking : zM := (yX4_setWorking, cX4_setWorking, 3, some .int)
theorem moX4_setWorking : zMo MX4_setWorking 2 := ⟨zT_mem 519 (by decide +kernel) (by decide +kernel), zT_mem 33 (by decide +kernel) (by decide +kernel), by decide +kernel, by decide +kernel⟩
def MX4_setReserve : zM := (yX4_setReserve, cX4_setReserve, 2, some .int)
theorem moX4_setReserve : zMo MX4_setReserve 1 := ⟨zT_mem 523 (by decide +kernel) (by decide +kernel), zT_mem 33 (by decide +kernel) (by decide +kernel), by decide +kernel, by decide +kernel⟩
def MX4_setRestartGap : zM := (yX4_setRestartGap, cX4_setRestartGap, 2, some .int)
theorem moX4_setRestartGap : zMo MX4_setRestartGap 1 := ⟨zT_mem 527 (by decide +kernel) (by decide +kernel), zT_mem 33 (by decide +kernel) (by decide +kernel), by decide +kernel, by decide +kernel⟩
def MX4_setOverloadLimit : zM := (yX4_setOverloadLimit, cX4_setOverloadLimit, 2, some .int)
theorem moX4_setOverloadLimit : zMo MX4_setOverloadLimit 1 := ⟨zT_mem 531 (by decide +kernel) (by decide +kernel), zT_mem 33 (by decide +kernel) (by decide +kernel), by decide +kernel, by decide +kernel⟩
def MX4_setCooldownTime : zM := (yX4_setCooldownTime, cX4_setCooldownTime, 2, some .int)
theorem moX4_setCooldownTime : zMo MX4_setCooldownTime 1 := ⟨zT_mem 535 (by decide +kernel) (by decide +kernel), zT_mem 33 (by decide +kernel) (by decide +kernel), by decide +kernel, by decide +kernel⟩
def MX4_budget : zM := (yX4_budget, cX4_budget, 3, some .int)
theorem moX4_budget : zMo MX4_budget 0 := ⟨zT_mem 539 (by decide +kernel) (by decide +kernel), zT_mem 33 (by decide +kernel) (by decide +kernel), by decide +kernel, by decide +kernel⟩
def MX4_available : zM := (yX4_available, cX4_available, 3, some .int)
theorem moX4_available : zMo MX4_available 0 := ⟨zT_mem 543 (by decide +kernel) (by decide +kernel), zT_mem 33 (by decide +kernel) (by decide +kernel), by decide +kernel, by decide +kernel⟩
def MX4_losePower : zM := (yX4_losePower, cX4_losePower, 2, none)
theorem moX4_losePower : zMo MX4_losePower 1 := ⟨zT_mem 559 (by decide +kernel) (by decide +kernel), zT_mem 33 (by decide +kernel) (by decide +kernel), by decide +kernel, by decide +kernel⟩
def MX4_isPowered : zM := (yX4_isPowered, cX4_isPowered, 2, some .boolean)
theorem moX4_isPowered : zMo MX4_isPowered 1 := ⟨zT_mem 585 (by decide +kernel) (by decide +kernel), zT_mem 33 (by decide +kernel) (by decide +kernel), by decide +kernel, by decide +kernel⟩
def MX4_setEnabled : zM := (yX4_setEnabled, cX4_setEnabled, 3, some .int)
theorem moX4_setEnabled : zMo MX4_setEnabled 2 := ⟨zT_mem 552 (by decide +kernel) (by decide +kernel), zT_mem 33 (by decide +kernel) (by decide +kernel), by decide +kernel, by decide +kernel⟩
def MX4_setPriority : zM := (yX4_setPriority, cX4_setPriority, 3, some .int)
theorem moX4_setPriority : zMo MX4_setPriority 2 := ⟨zT_mem 563 (by decide +kernel) (by decide +kernel), zT_mem 33 (by decide +kernel) (by decide +kernel), by decide +kernel, by decide +kernel⟩
def MX4_classBy : zM := (yX4_classBy, cX4_classBy, 1, some .int)
theorem moX4_classBy : zMo MX4_classBy 1 := ⟨zT_mem 574 (by decide +kernel) (by decide +kernel), zT_mem 33 (by decide +kernel) (by decide +kernel), by decide +kernel, by decide +kernel⟩
def MX4_maximumOf : zM := (yX4_maximumOf, cX4_maximumOf, 1, some .int)
theorem moX4_maximumOf : zMo MX4_maximumOf 1 := ⟨zT_mem 577 (by decide +kernel) (by decide +kernel), zT_mem 33 (by decide +kernel) (by decide +kernel), by decide +kernel, by decide +kernel⟩
def MX4_isConnected : zM := (yX4_isConnected, cX4_isConnected, 2, some .boolean)
theorem moX4_isConnected : zMo MX4_isConnected 1 := ⟨zT_mem 571 (by decide +kernel) (by decide +kernel), zT_mem 33 (by decide +kernel) (by decide +kernel), by decide +kernel, by decide +kernel⟩
def MX4_classOf : zM := (yX4_classOf, cX4_classOf, 2, some .int)
theorem moX4_classOf : zMo MX4_classOf 1 := ⟨zT_mem 597 (by decide +kernel) (by decide +kernel), zT_mem 33 (by decide +kernel) (by decide +kernel), by decide +kernel, by decide +kernel⟩
def MX4_connect : zM := (yX4_connect, cX4_connect, 7, some .int)
theorem moX4_connect : zMo MX4_connect 5 := ⟨zT_mem 567 (by decide +kernel) (by decide +kernel), zT_mem 33 (by decide +kernel) (by decide +kernel), by decide +kernel, by decide +kernel⟩
def MX4_disconnect : zM := (yX4_disconnect, cX4_disconnect, 4, some .int)
theorem moX4_disconnect : zMo MX4_disconnect 1 := ⟨zT_mem 581 (by decide +kernel) (by decide +kernel), zT_mem 33 (by decide +kernel) (by decide +kernel), by decide +kernel, by decide +kernel⟩
def MX4_setLoad : zM := (yX4_setLoad, cX4_setLoad, 3, some .int)
theorem moX4_setLoad : zMo MX4_setLoad 2 := ⟨zT_mem 589 (by decide +kernel) (by decide +kernel), zT_mem 33 (by decide +kernel) (by decide +kernel), by decide +kernel, by decide +kernel⟩
def MX4_setRequest : zM := (yX4_setRequest, cX4_setRequest, 4, some .int)
theorem moX4_setRequest : zMo MX4_setRequest 2 := ⟨zT_mem 593 (by decide +kernel) (by decide +kernel), zT_mem 33 (by decide +kernel) (by decide +kernel), by decide +kernel, by decide +kernel⟩
def MX4_detects : zM := (yX4_detects, cX4_detects, 2, some .boolean)
theorem moX4_detects : zMo MX4_detects 1 := ⟨zT_mem 614 (by decide +kernel) (by decide +kernel), zT_mem 33 (by decide +kernel) (by decide +kernel), by decide +kernel, by decide +kernel⟩
def MX4_request : zM := (yX4_request, cX4_request, 2, some .int)
theorem moX4_request : zMo MX4_request 1 := ⟨zT_mem 602 (by decide +kernel) (by decide +kernel), zT_mem 33 (by decide +kernel) (by decide +kernel), by decide +kernel, by decide +kernel⟩
def MX4_isEligible : zM := (yX4_isEligible, cX4_isEligible, 2, some .boolean)
theorem moX4_isEligible : zMo MX4_isEligible 1 := ⟨zT_mem 610 (by decide +kernel) (by decide +kernel), zT_mem 33 (by decide +kernel) (by decide +kernel), by decide +kernel, by decide +kernel⟩
def MX4_eligiblePorts : zM := (yX4_eligiblePorts, cX4_eligiblePorts, 3, some .int)
theorem moX4_eligiblePorts : zMo MX4_eligiblePorts 0 := ⟨zT_mem 606 (by decide +kernel) (by decide +kernel), zT_mem 33 (by decide +kernel) (by decide +kernel), by decide +kernel, by decide +kernel⟩
def MX4_poweredPorts : zM := (yX4_poweredPorts, cX4_poweredPorts, 3, some .int)
theorem moX4_poweredPorts : zMo MX4_poweredPorts 0 := ⟨zT_mem 618 (by decide +kernel) (by decide +kernel), zT_mem 33 (by decide +kernel) (by decide +kernel), by decide +kernel, by decide +kernel⟩
def MX4_told : zM := (yX4_told, cX4_told, 3, some .int)
theorem moX4_told : zMo MX4_told 2 := ⟨zT_mem 626 (by decide +kernel) (by decide +kernel), zT_mem 33 (by decide +kernel) (by decide +kernel), by decide +kernel, by decide +kernel⟩
def MX4_grant : zM := (yX4_grant, cX4_grant, 2, some .int)
theorem moX4_grant : zMo MX4_grant 1 := ⟨zT_mem 622 (by decide +kernel) (by decide +kernel), zT_mem 33 (by decide +kernel) (by decide +kernel), by decide +kernel, by decide +kernel⟩
def MX4_overload : zM := (yX4_overload, cX4_overload, 2, some .int)
theorem moX4_overload : zMo MX4_overload 1 := ⟨zT_mem 630 (by decide +kernel) (by decide +kernel), zT_mem 33 (by decide +kernel) (by decide +kernel), by decide +kernel, by decide +kernel⟩
def MX4_cooldown : zM := (yX4_cooldown, cX4_cooldown, 2, some .int)
theorem moX4_cooldown : zMo MX4_cooldown 1 := ⟨zT_mem 634 (by decide +kernel) (by decide +kernel), zT_mem 33 (by decide +kernel) (by decide +kernel), by decide +kernel, by decide +kernel⟩
def MX4_addEvent : zM := (yX4_addEvent, cX4_addEvent, 4, none)
theorem moX4_addEvent : zMo MX4_addEvent 2 := ⟨zT_mem 654 (by decide +kernel) (by decide +kernel), zT_mem 33 (by decide +kernel) (by decide +kernel), by decide +kernel, by decide +kernel⟩
def MX4_inOrder : zM := (yX4_inOrder, cX4_inOrder, 5, some .int)
theorem moX4_inOrder : zMo MX4_inOrder 1 := ⟨zT_mem 650 (by decide +kernel) (by decide +kernel), zT_mem 33 (by decide +kernel) (by decide +kernel), by decide +kernel, by decide +kernel⟩
def MX4_shedAll : zM := (yX4_shedAll, cX4_shedAll, 4, some .int)
theorem moX4_shedAll : zMo MX4_shedAll 0 := ⟨zT_mem 646 (by decide +kernel) (by decide +kernel), zT_mem 33 (by decide +kernel) (by decide +kernel), by decide +kernel, by decide +kernel⟩
def MX4_checkOverload : zM := (yX4_checkOverload, cX4_checkOverload, 2, none)
theorem moX4_checkOverload : zMo MX4_checkOverload 1 := ⟨zT_mem 662 (by decide +kernel) (by decide +kernel), zT_mem 33 (by decide +kernel) (by decide +kernel), by decide +kernel, by decide +kernel⟩
def MX4_isCut : zM := (yX4_isCut, cX4_isCut, 2, some .boolean)
theorem moX4_isCut : zMo MX4_isCut 1 := ⟨zT_mem 658 (by decide +kernel) (by decide +kernel), zT_mem 33 (by decide +kernel) (by decide +kernel), by decide +kernel, by decide +kernel⟩
def MX4_powerUp : zM := (yX4_powerUp, cX4_powerUp, 3, none)
theorem moX4_powerUp : zMo MX4_powerUp 0 := ⟨zT_mem 666 (by decide +kernel) (by decide +kernel), zT_mem 33 (by decide +kernel) (by decide +kernel), by decide +kernel, by decide +kernel⟩
def MX4_second : zM := (yX4_second, cX4_second, 4, none)
theorem moX4_second : zMo MX4_second 0 := ⟨zT_mem 642 (by decide +kernel) (by decide +kernel), zT_mem 33 (by decide +kernel) (by decide +kernel), by decide +kernel, by decide +kernel⟩
def MX4_advance : zM := (yX4_advance, cX4_advance, 3, some .int)
theorem moX4_advance : zMo MX4_advance 1 := ⟨zT_mem 638 (by decide +kernel) (by decide +kernel), zT_mem 33 (by decide +kernel) (by decide +kernel), by decide +kernel, by decide +kernel⟩
def MX4_clock : zM := (yX4_clock, cX4_clock, 1, some .int)
theorem moX4_clock : zMo MX4_clock 0 := ⟨zT_mem 670 (by decide +kernel) (by decide +kernel), zT_mem 33 (by decide +kernel) (by decide +kernel), by decide +kernel, by decide +kernel⟩
def MX4_eventCount : zM := (yX4_eventCount, cX4_eventCount, 1, some .int)
theorem moX4_eventCount : zMo MX4_eventCount 0 := ⟨zT_mem 674 (by decide +kernel) (by decide +kernel), zT_mem 33 (by decide +kernel) (by decide +kernel), by decide +kernel, by decide +kernel⟩
def MX4_ofEvent : zM := (yX4_ofEvent, cX4_ofEvent, 3, some .int)
theorem moX4_ofEvent : zMo MX4_ofEvent 2 := ⟨zT_mem 682 (by decide +kernel) (by decide +kernel), zT_mem 33 (by decide +kernel) (by decide +kernel), by decide +kernel, by decide +kernel⟩
def MX4_eventTime : zM := (yX4_eventTime, cX4_eventTime, 2, some .int)
theorem moX4_eventTime : zMo MX4_eventTime 1 := ⟨zT_mem 678 (by decide +kernel) (by decide +kernel), zT_mem 33 (by decide +kernel) (by decide +kernel), by decide +kernel, by decide +kernel⟩
def MX4_eventPort : zM := (yX4_eventPort, cX4_eventPort, 2, some .int)
theorem moX4_eventPort : zMo MX4_eventPort 1 := ⟨zT_mem 686 (by decide +kernel) (by decide +kernel), zT_mem 33 (by decide +kernel) (by decide +kernel), by decide +kernel, by decide +kernel⟩
def MX4_eventKind : zM := (yX4_eventKind, cX4_eventKind, 2, some .int)
theorem moX4_eventKind : zMo MX4_eventKind 1 := ⟨zT_mem 690 (by decide +kernel) (by decide +kernel), zT_mem 33 (by decide +kernel) (by decide +kernel), by decide +kernel, by decide +kernel⟩
def MX4_keep : zM := (yX4_keep, cX4_keep, 2, none)
theorem moX4_keep : zMo MX4_keep 0 := ⟨zT_mem 698 (by decide +kernel) (by decide +kernel), zT_mem 33 (by decide +kernel) (by decide +kernel), by decide +kernel, by decide +kernel⟩
def MX4_putBack : zM := (yX4_putBack, cX4_putBack, 2, none)
theorem moX4_putBack : zMo MX4_putBack 0 := ⟨zT_mem 702 (by decide +kernel) (by decide +kernel), zT_mem 33 (by decide +kernel) (by decide +kernel), by decide +kernel, by decide +kernel⟩
def MX4_shedIfFails : zM := (yX4_shedIfFails, cX4_shedIfFails, 3, some .int)
theorem moX4_shedIfFails : zMo MX4_shedIfFails 1 := ⟨zT_mem 694 (by decide +kernel) (by decide +kernel), zT_mem 33 (by decide +kernel) (by decide +kernel), by decide +kernel, by decide +kernel⟩
def MX4_fittingPorts : zM := (yX4_fittingPorts, cX4_fittingPorts, 5, some .int)
theorem moX4_fittingPorts : zMo MX4_fittingPorts 0 := ⟨zT_mem 706 (by decide +kernel) (by decide +kernel), zT_mem 33 (by decide +kernel) (by decide +kernel), by decide +kernel, by decide +kernel⟩
def MX4_isStableSecond : zM := (yX4_isStableSecond, cX4_isStableSecond, 3, some .boolean)
theorem moX4_isStableSecond : zMo MX4_isStableSecond 0 := ⟨zT_mem 719 (by decide +kernel) (by decide +kernel), zT_mem 33 (by decide +kernel) (by decide +kernel), by decide +kernel, by decide +kernel⟩
def MX4_findStable : zM := (yX4_findStable, cX4_findStable, 3, some .int)
theorem moX4_findStable : zMo MX4_findStable 0 := ⟨zT_mem 714 (by decide +kernel) (by decide +kernel), zT_mem 33 (by decide +kernel) (by decide +kernel), by decide +kernel, by decide +kernel⟩
def MX4_secondsToStable : zM := (yX4_secondsToStable, cX4_secondsToStable, 1, some .int)
theorem moX4_secondsToStable : zMo MX4_secondsToStable 0 := ⟨zT_mem 710 (by decide +kernel) (by decide +kernel), zT_mem 33 (by decide +kernel) (by decide +kernel), by decide +kernel, by decide +kernel⟩
def MX4_stablePorts : zM := (yX4_stablePorts, cX4_stablePorts, 1, some .int)
theorem moX4_stablePorts : zMo MX4_stablePorts 0 := ⟨zT_mem 723 (by decide +kernel) (by decide +kernel), zT_mem 33 (by decide +kernel) (by decide +kernel), by decide +kernel, by decide +kernel⟩
def MX4_save : zM := (yX4_save, cX4_save, 3, some .int)
theorem moX4_save : zMo MX4_save 1 := ⟨zT_mem 727 (by decide +kernel) (by decide +kernel), zT_mem 33 (by decide +kernel) (by decide +kernel), by decide +kernel, by decide +kernel⟩
def MX4_restore : zM := (yX4_restore, cX4_restore, 3, some .int)
theorem moX4_restore : zMo MX4_restore 1 := ⟨zT_mem 731 (by decide +kernel) (by decide +kernel), zT_mem 33 (by decide +kernel) (by decide +kernel), by decide +kernel, by decide +kernel⟩
def MJ6_bitCount_0f7a4 : zM := (yJ6_bitCount_0f7a4, cJ6_bitCount_0f7a4, 1, some .int)
theorem moJ6_bitCount_0f7a4 : zMo MJ6_bitCount_0f7a4 1 := ⟨zT_mem 383 (by decide +kernel) (by decide +kernel), zT_mem 35 (by decide +kernel) (by decide +kernel), by decide +kernel, by decide +kernel⟩
def MJ9_max_7cf53 : zM := (yJ9_max_7cf53, cJ9_max_7cf53, 2, some .int)
theorem moJ9_max_7cf53 : zMo MJ9_max_7cf53 2 := ⟨zT_mem 223 (by decide +kernel) (by decide +kernel), zT_mem 34 (by decide +kernel) (by decide +kernel), by decide +kernel, by decide +kernel⟩
theorem flX0_9 : zFl RX0 9 0 0 := ⟨RX0, TX0, 5, rfl, by decide, zT_mem 59 (by decide +kernel) (by decide +kernel)⟩
theorem flX3_144 : zFl RX3 144 0 0 := ⟨RX0, TX0, 5, rfl, by decide, zT_mem 60 (by decide +kernel) (by decide +kernel)⟩
theorem flX0_15 : zFl RX0 15 0 1 := ⟨RX0, TX0, 5, rfl, by decide, zT_mem 61 (by decide +kernel) (by decide +kernel)⟩
theorem flX3_150 : zFl RX3 150 0 1 := ⟨RX0, TX0, 5, rfl, by decide, zT_mem 62 (by decide +kernel) (by decide +kernel)⟩
theorem flX0_18 : zFl RX0 18 0 2 := ⟨RX0, TX0, 5, rfl, by decide, zT_mem 63 (by decide +kernel) (by decide +kernel)⟩
theorem flX3_152 : zFl RX3 152 0 2 := ⟨RX0, TX0, 5, rfl, by decide, zT_mem 64 (by decide +kernel) (by decide +kernel)⟩
theorem flX0_25 : zFl RX0 25 0 3 := ⟨RX0, TX0, 5, rfl, by decide, zT_mem 65 (by decide +kernel) (by decide +kernel)⟩
theorem flX0_21 : zFl RX0 21 0 4 := ⟨RX0, TX0, 5, rfl, by decide, zT_mem 66 (by decide +kernel) (by decide +kernel)⟩
theorem flX3_136 : zFl RX3 136 0 4 := ⟨RX0, TX0, 5, rfl, by decide, zT_mem 67 (by decide +kernel) (by decide +kernel)⟩
theorem flX1_9 : zFl RX1 9 1 0 := ⟨RX1, TX1, 10, rfl, by decide, zT_mem 86 (by decide +kernel) (by decide +kernel)⟩
theorem flX3_66 : zFl RX3 66 1 0 := ⟨RX1, TX1, 10, rfl, by decide, zT_mem 87 (by decide +kernel) (by decide +kernel)⟩
theorem flX1_15 : zFl RX1 15 1 1 := ⟨RX1, TX1, 10, rfl, by decide, zT_mem 88 (by decide +kernel) (by decide +kernel)⟩
theorem flX2_79 : zFl RX2 79 1 1 := ⟨RX1, TX1, 10, rfl, by decide, zT_mem 89 (by decide +kernel) (by decide +kernel)⟩
theorem flX3_75 : zFl RX3 75 1 1 := ⟨RX1, TX1, 10, rfl, by decide, zT_mem 90 (by decide +kernel) (by decide +kernel)⟩
theorem flX1_32 : zFl RX1 32 1 2 := ⟨RX1, TX1, 10, rfl, by decide, zT_mem 91 (by decide +kernel) (by decide +kernel)⟩
theorem flX3_78 : zFl RX3 78 1 2 := ⟨RX1, TX1, 10, rfl, by decide, zT_mem 92 (by decide +kernel) (by decide +kernel)⟩
theorem flX1_35 : zFl RX1 35 1 3 := ⟨RX1, TX1, 10, rfl, by decide, zT_mem 93 (by decide +kernel) (by decide +kernel)⟩
theorem flX3_89 : zFl RX3 89 1 3 := ⟨RX1, TX1, 10, rfl, by decide, zT_mem 94 (by decide +kernel) (by decide +kernel)⟩
theorem flX1_19 : zFl RX1 19 1 4 := ⟨RX1, TX1, 10, rfl, by decide, zT_mem 95 (by decide +kernel) (by decide +kernel)⟩
theorem flX3_92 : zFl RX3 92 1 4 := ⟨RX1, TX1, 10, rfl, by decide, zT_mem 96 (by decide +kernel) (by decide +kernel)⟩
theorem flX1_29 : zFl RX1 29 1 5 := ⟨RX1, TX1, 10, rfl, by decide, zT_mem 97 (by decide +kernel) (by decide +kernel)⟩
theorem flX3_95 : zFl RX3 95 1 5 := ⟨RX1, TX1, 10, rfl, by decide, zT_mem 98 (by decide +kernel) (by decide +kernel)⟩
theorem flX1_47 : zFl RX1 47 1 6 := ⟨RX1, TX1, 10, rfl, by decide, zT_mem 99 (by decide +kernel) (by decide +kernel)⟩
theorem flX2_82 : zFl RX2 82 1 6 := ⟨RX1, TX1, 10, rfl, by decide, zT_mem 100 (by decide +kernel) (by decide +kernel)⟩
theorem flX3_101 : zFl RX3 101 1 6 := ⟨RX1, TX1, 10, rfl, by decide, zT_mem 101 (by decide +kernel) (by decide +kernel)⟩
theorem flX1_22 : zFl RX1 22 1 7 := ⟨RX1, TX1, 10, rfl, by decide, zT_mem 102 (by decide +kernel) (by decide +kernel)⟩
theorem flX2_69 : zFl RX2 69 1 7 := ⟨RX1, TX1, 10, rfl, by decide, zT_mem 103 (by decide +kernel) (by decide +kernel)⟩
theorem flX3_111 : zFl RX3 111 1 7 := ⟨RX1, TX1, 10, rfl, by decide, zT_mem 104 (by decide +kernel) (by decide +kernel)⟩
theorem flX1_50 : zFl RX1 50 1 8 := ⟨RX1, TX1, 10, rfl, by decide, zT_mem 105 (by decide +kernel) (by decide +kernel)⟩
theorem flX2_120 : zFl RX2 120 1 8 := ⟨RX1, TX1, 10, rfl, by decide, zT_mem 106 (by decide +kernel) (by decide +kernel)⟩
theorem flX3_120 : zFl RX3 120 1 8 := ⟨RX1, TX1, 10, rfl, by decide, zT_mem 107 (by decide +kernel) (by decide +kernel)⟩
theorem flX1_44 : zFl RX1 44 1 9 := ⟨RX1, TX1, 10, rfl, by decide, zT_mem 108 (by decide +kernel) (by decide +kernel)⟩
theorem flX2_123 : zFl RX2 123 1 9 := ⟨RX1, TX1, 10, rfl, by decide, zT_mem 109 (by decide +kernel) (by decide +kernel)⟩
theorem flX3_123 : zFl RX3 123 1 9 := ⟨RX1, TX1, 10, rfl, by decide, zT_mem 110 (by decide +kernel) (by decide +kernel)⟩
theorem flX2_9 : zFl RX2 9 2 0 := ⟨RX2, TX2, 10, rfl, by decide, zT_mem 132 (by decide +kernel) (by decide +kernel)⟩
theorem flX3_31 : zFl RX3 31 2 0 := ⟨RX2, TX2, 10, rfl, by decide, zT_mem 133 (by decide +kernel) (by decide +kernel)⟩
theorem flX2_15 : zFl RX2 15 2 1 := ⟨RX2, TX2, 10, rfl, by decide, zT_mem 134 (by decide +kernel) (by decide +kernel)⟩
theorem flX3_35 : zFl RX3 35 2 1 := ⟨RX2, TX2, 10, rfl, by decide, zT_mem 135 (by decide +kernel) (by decide +kernel)⟩
theorem flX2_21 : zFl RX2 21 2 2 := ⟨RX2, TX2, 10, rfl, by decide, zT_mem 136 (by decide +kernel) (by decide +kernel)⟩
theorem flX3_62 : zFl RX3 62 2 2 := ⟨RX2, TX2, 10, rfl, by decide, zT_mem 137 (by decide +kernel) (by decide +kernel)⟩
theorem flX2_28 : zFl RX2 28 2 3 := ⟨RX2, TX2, 10, rfl, by decide, zT_mem 138 (by decide +kernel) (by decide +kernel)⟩
theorem flX3_132 : zFl RX3 132 2 3 := ⟨RX2, TX2, 10, rfl, by decide, zT_mem 139 (by decide +kernel) (by decide +kernel)⟩
theorem flX2_50 : zFl RX2 50 2 4 := ⟨RX2, TX2, 10, rfl, by decide, zT_mem 140 (by decide +kernel) (by decide +kernel)⟩
theorem flX3_39 : zFl RX3 39 2 4 := ⟨RX2, TX2, 10, rfl, by decide, zT_mem 141 (by decide +kernel) (by decide +kernel)⟩
theorem flX2_32 : zFl RX2 32 2 5 := ⟨RX2, TX2, 10, rfl, by decide, zT_mem 142 (by decide +kernel) (by decide +kernel)⟩
theorem flX3_43 : zFl RX3 43 2 5 := ⟨RX2, TX2, 10, rfl, by decide, zT_mem 143 (by decide +kernel) (by decide +kernel)⟩
theorem flX2_36 : zFl RX2 36 2 6 := ⟨RX2, TX2, 10, rfl, by decide, zT_mem 144 (by decide +kernel) (by decide +kernel)⟩
theorem flX3_46 : zFl RX3 46 2 6 := ⟨RX2, TX2, 10, rfl, by decide, zT_mem 145 (by decide +kernel) (by decide +kernel)⟩
theorem flX2_39 : zFl RX2 39 2 7 := ⟨RX2, TX2, 10, rfl, by decide, zT_mem 146 (by decide +kernel) (by decide +kernel)⟩
theorem flX3_49 : zFl RX3 49 2 7 := ⟨RX2, TX2, 10, rfl, by decide, zT_mem 147 (by decide +kernel) (by decide +kernel)⟩
theorem flX2_53 : zFl RX2 53 2 8 := ⟨RX2, TX2, 10, rfl, by decide, zT_mem 148 (by decide +kernel) (by decide +kernel)⟩
theorem flX2_56 : zFl RX2 56 2 9 := ⟨RX2, TX2, 10, rfl, by decide, zT_mem 149 (by decide +kernel) (by decide +kernel)⟩
theorem flX3_129 : zFl RX3 129 2 9 := ⟨RX2, TX2, 10, rfl, by decide, zT_mem 150 (by decide +kernel) (by decide +kernel)⟩
theorem flX3_10 : zFl RX3 10 3 0 := ⟨RX3, TX3, 3, rfl, by decide, zT_mem 173 (by decide +kernel) (by decide +kernel)⟩
theorem flX3_16 : zFl RX3 16 3 1 := ⟨RX3, TX3, 3, rfl, by decide, zT_mem 174 (by decide +kernel) (by decide +kernel)⟩
theorem flX3_19 : zFl RX3 19 3 2 := ⟨RX3, TX3, 3, rfl, by decide, zT_mem 175 (by decide +kernel) (by decide +kernel)⟩
theorem slX3_174 : Cond.fieldLink RX3 174 RX3 (zsn 2) "[I" ∈ zT := zT_mem 259 (by decide +kernel) (by decide +kernel)
theorem slX3_177 : Cond.fieldLink RX3 177 RX3 (zsn 0) "[I" ∈ zT := zT_mem 261 (by decide +kernel) (by decide +kernel)
theorem slX3_180 : Cond.fieldLink RX3 180 RX3 (zsn 1) "[I" ∈ zT := zT_mem 263 (by decide +kernel) (by decide +kernel)
theorem flX4_7 : zFl RX4 7 4 0 := ⟨RX4, TX4, 7, rfl, by decide, zT_mem 480 (by decide +kernel) (by decide +kernel)⟩
theorem flX4_13 : zFl RX4 13 4 1 := ⟨RX4, TX4, 7, rfl, by decide, zT_mem 481 (by decide +kernel) (by decide +kernel)⟩
theorem flX4_16 : zFl RX4 16 4 2 := ⟨RX4, TX4, 7, rfl, by decide, zT_mem 482 (by decide +kernel) (by decide +kernel)⟩
theorem flX4_19 : zFl RX4 19 4 3 := ⟨RX4, TX4, 7, rfl, by decide, zT_mem 483 (by decide +kernel) (by decide +kernel)⟩
theorem flX4_83 : zFl RX4 83 4 4 := ⟨RX4, TX4, 7, rfl, by decide, zT_mem 484 (by decide +kernel) (by decide +kernel)⟩
theorem flX4_23 : zFl RX4 23 4 5 := ⟨RX4, TX4, 7, rfl, by decide, zT_mem 485 (by decide +kernel) (by decide +kernel)⟩
theorem flX4_121 : zFl RX4 121 4 6 := ⟨RX4, TX4, 7, rfl, by decide, zT_mem 486 (by decide +kernel) (by decide +kernel)⟩
theorem fnX0_0 : zFn 0 0 true := ⟨RX0, TX0, 5, rfl, rfl, rfl⟩
theorem fnX0_1 : zFn 0 1 true := ⟨RX0, TX0, 5, rfl, rfl, rfl⟩
theorem fnX0_2 : zFn 0 2 true := ⟨RX0, TX0, 5, rfl, rfl, rfl⟩
theorem fnX0_3 : zFn 0 3 false := ⟨RX0, TX0, 5, rfl, rfl, rfl⟩
theorem fnX0_4 : zFn 0 4 false := ⟨RX0, TX0, 5, rfl, rfl, rfl⟩
theorem fnX1_0 : zFn 1 0 false := ⟨RX1, TX1, 10, rfl, rfl, rfl⟩
theorem fnX1_1 : zFn 1 1 false := ⟨RX1, TX1, 10, rfl, rfl, rfl⟩
theorem fnX1_2 : zFn 1 2 false := ⟨RX1, TX1, 10, rfl, rfl, rfl⟩
theorem fnX1_3 : zFn 1 3 false := ⟨RX1, TX1, 10, rfl, rfl, rfl⟩
theorem fnX1_4 : zFn 1 4 false := ⟨RX1, TX1, 10, rfl, rfl, rfl⟩
theorem fnX1_5 : zFn 1 5 false := ⟨RX1, TX1, 10, rfl, rfl, rfl⟩
theorem fnX1_6 : zFn 1 6 false := ⟨RX1, TX1, 10, rfl, rfl, rfl⟩
theorem fnX1_7 : zFn 1 7 false := ⟨RX1, TX1, 10, rfl, rfl, rfl⟩
theorem fnX1_8 : zFn 1 8 false := ⟨RX1, TX1, 10, rfl, rfl, rfl⟩
theorem fnX1_9 : zFn 1 9 false := ⟨RX1, TX1, 10, rfl, rfl, rfl⟩
theorem fnX2_0 : zFn 2 0 true := ⟨RX2, TX2, 10, rfl, rfl, rfl⟩
theorem fnX2_1 : zFn 2 1 true := ⟨RX2, TX2, 10, rfl, rfl, rfl⟩
theorem fnX2_2 : zFn 2 2 true := ⟨RX2, TX2, 10, rfl, rfl, rfl⟩
theorem fnX2_3 : zFn 2 3 true := ⟨RX2, TX2, 10, rfl, rfl, rfl⟩
theorem fnX2_4 : zFn 2 4 false := ⟨RX2, TX2, 10, rfl, rfl, rfl⟩
theorem fnX2_5 : zFn 2 5 false := ⟨RX2, TX2, 10, rfl, rfl, rfl⟩
theorem fnX2_6 : zFn 2 6 false := ⟨RX2, TX2, 10, rfl, rfl, rfl⟩
theorem fnX2_7 : zFn 2 7 false := ⟨RX2, TX2, 10, rfl, rfl, rfl⟩
theorem fnX2_8 : zFn 2 8 false := ⟨RX2, TX2, 10, rfl, rfl, rfl⟩
theorem fnX2_9 : zFn 2 9 false := ⟨RX2, TX2, 10, rfl, rfl, rfl⟩
theorem fnX3_0 : zFn 3 0 true := ⟨RX3, TX3, 3, rfl, rfl, rfl⟩
theorem fnX3_1 : zFn 3 1 true := ⟨RX3, TX3, 3, rfl, rfl, rfl⟩
theorem fnX3_2 : zFn 3 2 true := ⟨RX3, TX3, 3, rfl, rfl, rfl⟩
theorem fnX4_0 : zFn 4 0 true := ⟨RX4, TX4, 7, rfl, rfl, rfl⟩
theorem fnX4_1 : zFn 4 1 true := ⟨RX4, TX4, 7, rfl, rfl, rfl⟩
theorem fnX4_2 : zFn 4 2 true := ⟨RX4, TX4, 7, rfl, rfl, rfl⟩
theorem fnX4_3 : zFn 4 3 true := ⟨RX4, TX4, 7, rfl, rfl, rfl⟩
theorem fnX4_4 : zFn 4 4 false := ⟨RX4, TX4, 7, rfl, rfl, rfl⟩
theorem fnX4_5 : zFn 4 5 true := ⟨RX4, TX4, 7, rfl, rfl, rfl⟩
theorem fnX4_6 : zFn 4 6 false := ⟨RX4, TX4, 7, rfl, rfl, rfl⟩
theorem ciL_9 : Cond.methodLink RL 9 MX3_init.1 ∈ zT ∧ Cond.instanceMethod MX3_init.1 ∈ zT := ⟨zT_mem 39 (by decide +kernel) (by decide +kernel), zT_mem 40 (by decide +kernel) (by decide +kernel)⟩
theorem oiX3_1 : Cond.methodLink RX3 1 objectInit ∈ zT ∧ Cond.instanceMethod objectInit ∈ zT ∧ Cond.code objectInit ⟨#[0xb1]⟩ 1 none ∈ zT := ⟨zT_mem 42 (by decide +kernel) (by decide +kernel), zT_mem 43 (by decide +kernel) (by decide +kernel), zT_mem 44 (by decide +kernel) (by decide +kernel)⟩
theorem ciX3_9 : Cond.methodLink RX3 9 MX2_init.1 ∈ zT ∧ Cond.instanceMethod MX2_init.1 ∈ zT := ⟨zT_mem 47 (by decide +kernel) (by decide +kernel), zT_mem 48 (by decide +kernel) (by decide +kernel)⟩
theorem oiX2_3 : Cond.methodLink RX2 3 objectInit ∈ zT ∧ Cond.instanceMethod objectInit ∈ zT ∧ Cond.code objectInit ⟨#[0xb1]⟩ 1 none ∈ zT := ⟨zT_mem 50 (by decide +kernel) (by decide +kernel), zT_mem 43 (by decide +kernel) (by decide +kernel), zT_mem 44 (by decide +kernel) (by decide +kernel)⟩
theorem ciX2_27 : Cond.methodLink RX2 27 MX0_init.1 ∈ zT ∧ Cond.instanceMethod MX0_init.1 ∈ zT := ⟨zT_mem 55 (by decide +kernel) (by decide +kernel), zT_mem 56 (by decide +kernel) (by decide +kernel)⟩
theorem oiX0_3 : Cond.methodLink RX0 3 objectInit ∈ zT ∧ Cond.instanceMethod objectInit ∈ zT ∧ Cond.code objectInit ⟨#[0xb1]⟩ 1 none ∈ zT := ⟨zT_mem 58 (by decide +kernel) (by decide +kernel), zT_mem 43 (by decide +kernel) (by decide +kernel), zT_mem 44 (by decide +kernel) (by decide +kernel)⟩
theorem ciX2_42 : Cond.methodLink RX2 42 MX1_init.1 ∈ zT ∧ Cond.instanceMethod MX1_init.1 ∈ zT := ⟨zT_mem 82 (by decide +kernel) (by decide +kernel), zT_mem 83 (by decide +kernel) (by decide +kernel)⟩
theorem oiX1_3 : Cond.methodLink RX1 3 objectInit ∈ zT ∧ Cond.instanceMethod objectInit ∈ zT ∧ Cond.code objectInit ⟨#[0xb1]⟩ 1 none ∈ zT := ⟨zT_mem 85 (by decide +kernel) (by decide +kernel), zT_mem 43 (by decide +kernel) (by decide +kernel), zT_mem 44 (by decide +kernel) (by decide +kernel)⟩
theorem cvL_13 : Cond.methodLink RL 13 MX3_setCapacity.1 ∈ zT ∧ Cond.instanceMethod MX3_setCapacity.1 ∈ zT ∧ Cond.selects MX3_setCapacity.1.cls MX3_setCapacity.1 MX3_setCapacity.1 ∈ zT := ⟨zT_mem 183 (by decide +kernel) (by decide +kernel), zT_mem 184 (by decide +kernel) (by decide +kernel), zT_mem 185 (by decide +kernel) (by decide +kernel)⟩
theorem csX3_23 : Cond.methodLink RX3 23 MX3_isSupply.1 ∈ zT ∧ Cond.static MX3_isSupply.1 ∈ zT := ⟨zT_mem 187 (by decide +kernel) (by decide +kernel), zT_mem 188 (by decide +kernel) (by decide +kernel)⟩
theorem csX3_27 : Cond.methodLink RX3 27 MX3_isWithin.1 ∈ zT ∧ Cond.static MX3_isWithin.1 ∈ zT := ⟨zT_mem 190 (by decide +kernel) (by decide +kernel), zT_mem 191 (by decide +kernel) (by decide +kernel)⟩
theorem cvL_18 : Cond.methodLink RL 18 MX3_setWorking.1 ∈ zT ∧ Cond.instanceMethod MX3_setWorking.1 ∈ zT ∧ Cond.selects MX3_setWorking.1.cls MX3_setWorking.1 MX3_setWorking.1 ∈ zT := ⟨zT_mem 193 (by decide +kernel) (by decide +kernel), zT_mem 194 (by decide +kernel) (by decide +kernel), zT_mem 195 (by decide +kernel) (by decide +kernel)⟩
theorem cvL_23 : Cond.methodLink RL 23 MX3_setReserve.1 ∈ zT ∧ Cond.instanceMethod MX3_setReserve.1 ∈ zT ∧ Cond.selects MX3_setReserve.1.cls MX3_setReserve.1 MX3_setReserve.1 ∈ zT := ⟨zT_mem 197 (by decide +kernel) (by decide +kernel), zT_mem 198 (by decide +kernel) (by decide +kernel), zT_mem 199 (by decide +kernel) (by decide +kernel)⟩
theorem cvL_28 : Cond.methodLink RL 28 MX3_setRestartGap.1 ∈ zT ∧ Cond.instanceMethod MX3_setRestartGap.1 ∈ zT ∧ Cond.selects MX3_setRestartGap.1.cls MX3_setRestartGap.1 MX3_setRestartGap.1 ∈ zT := ⟨zT_mem 201 (by decide +kernel) (by decide +kernel), zT_mem 202 (by decide +kernel) (by decide +kernel), zT_mem 203 (by decide +kernel) (by decide +kernel)⟩
theorem cvL_32 : Cond.methodLink RL 32 MX3_setOverloadLimit.1 ∈ zT ∧ Cond.instanceMethod MX3_setOverloadLimit.1 ∈ zT ∧ Cond.selects MX3_setOverloadLimit.1.cls MX3_setOverloadLimit.1 MX3_setOverloadLimit.1 ∈ zT := ⟨zT_mem 205 (by decide +kernel) (by decide +kernel), zT_mem 206 (by decide +kernel) (by decide +kernel), zT_mem 207 (by decide +kernel) (by decide +kernel)⟩
theorem cvL_36 : Cond.methodLink RL 36 MX3_setCooldownTime.1 ∈ zT ∧ Cond.instanceMethod MX3_setCooldownTime.1 ∈ zT ∧ Cond.selects MX3_setCooldownTime.1.cls MX3_setCooldownTime.1 MX3_setCooldownTime.1 ∈ zT := ⟨zT_mem 209 (by decide +kernel) (by decide +kernel), zT_mem 210 (by decide +kernel) (by decide +kernel), zT_mem 211 (by decide +kernel) (by decide +kernel)⟩
theorem cvL_40 : Cond.methodLink RL 40 MX3_budget.1 ∈ zT ∧ Cond.instanceMethod MX3_budget.1 ∈ zT ∧ Cond.selects MX3_budget.1.cls MX3_budget.1 MX3_budget.1 ∈ zT := ⟨zT_mem 213 (by decide +kernel) (by decide +kernel), zT_mem 214 (by decide +kernel) (by decide +kernel), zT_mem 215 (by decide +kernel) (by decide +kernel)⟩
theorem cvX3_52 : Cond.methodLink RX3 52 MX2_wholeBudget.1 ∈ zT ∧ Cond.instanceMethod MX2_wholeBudget.1 ∈ zT ∧ Cond.selects MX2_wholeBudget.1.cls MX2_wholeBudget.1 MX2_wholeBudget.1 ∈ zT := ⟨zT_mem 217 (by decide +kernel) (by decide +kernel), zT_mem 218 (by decide +kernel) (by decide +kernel), zT_mem 219 (by decide +kernel) (by decide +kernel)⟩
theorem mxX2_59 : Cond.methodLink RX2 59 Lib.Math.max.name ∈ zT ∧ Cond.static Lib.Math.max.name ∈ zT ∧ Cond.initialized "java/lang/Math" ∈ zT ∧ Cond.code Lib.Math.max.name Lib.Math.max.code 2 (some .int) ∈ zT := ⟨zT_mem 221 (by decide +kernel) (by decide +kernel), zT_mem 222 (by decide +kernel) (by decide +kernel), zT_mem 34 (by decide +kernel) (by decide +kernel), zT_mem 223 (by decide +kernel) (by decide +kernel)⟩
theorem cvL_45 : Cond.methodLink RL 45 MX3_available.1 ∈ zT ∧ Cond.instanceMethod MX3_available.1 ∈ zT ∧ Cond.selects MX3_available.1.cls MX3_available.1 MX3_available.1 ∈ zT := ⟨zT_mem 224 (by decide +kernel) (by decide +kernel), zT_mem 225 (by decide +kernel) (by decide +kernel), zT_mem 226 (by decide +kernel) (by decide +kernel)⟩
theorem cvX3_56 : Cond.methodLink RX3 56 MX2_sparePower.1 ∈ zT ∧ Cond.instanceMethod MX2_sparePower.1 ∈ zT ∧ Cond.selects MX2_sparePower.1.cls MX2_sparePower.1 MX2_sparePower.1 ∈ zT := ⟨zT_mem 228 (by decide +kernel) (by decide +kernel), zT_mem 229 (by decide +kernel) (by decide +kernel), zT_mem 230 (by decide +kernel) (by decide +kernel)⟩
theorem cvX2_65 : Cond.methodLink RX2 65 MX2_wholeBudget.1 ∈ zT ∧ Cond.instanceMethod MX2_wholeBudget.1 ∈ zT ∧ Cond.selects MX2_wholeBudget.1.cls MX2_wholeBudget.1 MX2_wholeBudget.1 ∈ zT := ⟨zT_mem 232 (by decide +kernel) (by decide +kernel), zT_mem 218 (by decide +kernel) (by decide +kernel), zT_mem 219 (by decide +kernel) (by decide +kernel)⟩
theorem cvL_49 : Cond.methodLink RL 49 MX3_setEnabled.1 ∈ zT ∧ Cond.instanceMethod MX3_setEnabled.1 ∈ zT ∧ Cond.selects MX3_setEnabled.1.cls MX3_setEnabled.1 MX3_setEnabled.1 ∈ zT := ⟨zT_mem 233 (by decide +kernel) (by decide +kernel), zT_mem 234 (by decide +kernel) (by decide +kernel), zT_mem 235 (by decide +kernel) (by decide +kernel)⟩
theorem csX3_59 : Cond.methodLink RX3 59 MX3_isPort.1 ∈ zT ∧ Cond.static MX3_isPort.1 ∈ zT := ⟨zT_mem 237 (by decide +kernel) (by decide +kernel), zT_mem 238 (by decide +kernel) (by decide +kernel)⟩
theorem cvX3_72 : Cond.methodLink RX3 72 MX1_reset.1 ∈ zT ∧ Cond.instanceMethod MX1_reset.1 ∈ zT ∧ Cond.selects MX1_reset.1.cls MX1_reset.1 MX1_reset.1 ∈ zT := ⟨zT_mem 240 (by decide +kernel) (by decide +kernel), zT_mem 241 (by decide +kernel) (by decide +kernel), zT_mem 242 (by decide +kernel) (by decide +kernel)⟩
theorem cvX1_53 : Cond.methodLink RX1 53 MX1_losePower.1 ∈ zT ∧ Cond.instanceMethod MX1_losePower.1 ∈ zT ∧ Cond.selects MX1_losePower.1.cls MX1_losePower.1 MX1_losePower.1 ∈ zT := ⟨zT_mem 244 (by decide +kernel) (by decide +kernel), zT_mem 245 (by decide +kernel) (by decide +kernel), zT_mem 246 (by decide +kernel) (by decide +kernel)⟩
theorem cvL_53 : Cond.methodLink RL 53 MX3_setPriority.1 ∈ zT ∧ Cond.instanceMethod MX3_setPriority.1 ∈ zT ∧ Cond.selects MX3_setPriority.1.cls MX3_setPriority.1 MX3_setPriority.1 ∈ zT := ⟨zT_mem 248 (by decide +kernel) (by decide +kernel), zT_mem 249 (by decide +kernel) (by decide +kernel), zT_mem 250 (by decide +kernel) (by decide +kernel)⟩
theorem cvL_57 : Cond.methodLink RL 57 MX3_connect.1 ∈ zT ∧ Cond.instanceMethod MX3_connect.1 ∈ zT ∧ Cond.selects MX3_connect.1.cls MX3_connect.1 MX3_connect.1 ∈ zT := ⟨zT_mem 252 (by decide +kernel) (by decide +kernel), zT_mem 253 (by decide +kernel) (by decide +kernel), zT_mem 254 (by decide +kernel) (by decide +kernel)⟩
theorem csX3_81 : Cond.methodLink RX3 81 MX3_classOf.1 ∈ zT ∧ Cond.static MX3_classOf.1 ∈ zT := ⟨zT_mem 256 (by decide +kernel) (by decide +kernel), zT_mem 257 (by decide +kernel) (by decide +kernel)⟩
theorem csX3_85 : Cond.methodLink RX3 85 MX3_isDetected.1 ∈ zT ∧ Cond.static MX3_isDetected.1 ∈ zT := ⟨zT_mem 265 (by decide +kernel) (by decide +kernel), zT_mem 266 (by decide +kernel) (by decide +kernel)⟩
theorem csX3_98 : Cond.methodLink RX3 98 MX3_maximumOf.1 ∈ zT ∧ Cond.static MX3_maximumOf.1 ∈ zT := ⟨zT_mem 268 (by decide +kernel) (by decide +kernel), zT_mem 269 (by decide +kernel) (by decide +kernel)⟩
theorem cvL_62 : Cond.methodLink RL 62 MX3_disconnect.1 ∈ zT ∧ Cond.instanceMethod MX3_disconnect.1 ∈ zT ∧ Cond.selects MX3_disconnect.1.cls MX3_disconnect.1 MX3_disconnect.1 ∈ zT := ⟨zT_mem 271 (by decide +kernel) (by decide +kernel), zT_mem 272 (by decide +kernel) (by decide +kernel), zT_mem 273 (by decide +kernel) (by decide +kernel)⟩
theorem cvX3_104 : Cond.methodLink RX3 104 MX1_isPowered.1 ∈ zT ∧ Cond.instanceMethod MX1_isPowered.1 ∈ zT ∧ Cond.selects MX1_isPowered.1.cls MX1_isPowered.1 MX1_isPowered.1 ∈ zT := ⟨zT_mem 275 (by decide +kernel) (by decide +kernel), zT_mem 276 (by decide +kernel) (by decide +kernel), zT_mem 277 (by decide +kernel) (by decide +kernel)⟩
theorem cvL_66 : Cond.methodLink RL 66 MX3_setLoad.1 ∈ zT ∧ Cond.instanceMethod MX3_setLoad.1 ∈ zT ∧ Cond.selects MX3_setLoad.1.cls MX3_setLoad.1 MX3_setLoad.1 ∈ zT := ⟨zT_mem 279 (by decide +kernel) (by decide +kernel), zT_mem 280 (by decide +kernel) (by decide +kernel), zT_mem 281 (by decide +kernel) (by decide +kernel)⟩
theorem cvL_70 : Cond.methodLink RL 70 MX3_setRequest.1 ∈ zT ∧ Cond.instanceMethod MX3_setRequest.1 ∈ zT ∧ Cond.selects MX3_setRequest.1.cls MX3_setRequest.1 MX3_setRequest.1 ∈ zT := ⟨zT_mem 283 (by decide +kernel) (by decide +kernel), zT_mem 284 (by decide +kernel) (by decide +kernel), zT_mem 285 (by decide +kernel) (by decide +kernel)⟩
theorem cvX3_108 : Cond.methodLink RX3 108 MX1_hasRequest.1 ∈ zT ∧ Cond.instanceMethod MX1_hasRequest.1 ∈ zT ∧ Cond.selects MX1_hasRequest.1.cls MX1_hasRequest.1 MX1_hasRequest.1 ∈ zT := ⟨zT_mem 287 (by decide +kernel) (by decide +kernel), zT_mem 288 (by decide +kernel) (by decide +kernel), zT_mem 289 (by decide +kernel) (by decide +kernel)⟩
theorem cvL_74 : Cond.methodLink RL 74 MX3_request.1 ∈ zT ∧ Cond.instanceMethod MX3_request.1 ∈ zT ∧ Cond.selects MX3_request.1.cls MX3_request.1 MX3_request.1 ∈ zT := ⟨zT_mem 291 (by decide +kernel) (by decide +kernel), zT_mem 292 (by decide +kernel) (by decide +kernel), zT_mem 293 (by decide +kernel) (by decide +kernel)⟩
theorem cvL_78 : Cond.methodLink RL 78 MX3_eligiblePorts.1 ∈ zT ∧ Cond.instanceMethod MX3_eligiblePorts.1 ∈ zT ∧ Cond.selects MX3_eligiblePorts.1.cls MX3_eligiblePorts.1 MX3_eligiblePorts.1 ∈ zT := ⟨zT_mem 295 (by decide +kernel) (by decide +kernel), zT_mem 296 (by decide +kernel) (by decide +kernel), zT_mem 297 (by decide +kernel) (by decide +kernel)⟩
theorem cvX3_114 : Cond.methodLink RX3 114 MX2_eligibleSet.1 ∈ zT ∧ Cond.instanceMethod MX2_eligibleSet.1 ∈ zT ∧ Cond.selects MX2_eligibleSet.1.cls MX2_eligibleSet.1 MX2_eligibleSet.1 ∈ zT := ⟨zT_mem 299 (by decide +kernel) (by decide +kernel), zT_mem 300 (by decide +kernel) (by decide +kernel), zT_mem 301 (by decide +kernel) (by decide +kernel)⟩
theorem cvX2_72 : Cond.methodLink RX2 72 MX1_isEligible.1 ∈ zT ∧ Cond.instanceMethod MX1_isEligible.1 ∈ zT ∧ Cond.selects MX1_isEligible.1.cls MX1_isEligible.1 MX1_isEligible.1 ∈ zT := ⟨zT_mem 303 (by decide +kernel) (by decide +kernel), zT_mem 304 (by decide +kernel) (by decide +kernel), zT_mem 305 (by decide +kernel) (by decide +kernel)⟩
theorem cvX1_38 : Cond.methodLink RX1 38 MX1_hasRequest.1 ∈ zT ∧ Cond.instanceMethod MX1_hasRequest.1 ∈ zT ∧ Cond.selects MX1_hasRequest.1.cls MX1_hasRequest.1 MX1_hasRequest.1 ∈ zT := ⟨zT_mem 307 (by decide +kernel) (by decide +kernel), zT_mem 288 (by decide +kernel) (by decide +kernel), zT_mem 289 (by decide +kernel) (by decide +kernel)⟩
theorem cvL_82 : Cond.methodLink RL 82 MX3_poweredPorts.1 ∈ zT ∧ Cond.instanceMethod MX3_poweredPorts.1 ∈ zT ∧ Cond.selects MX3_poweredPorts.1.cls MX3_poweredPorts.1 MX3_poweredPorts.1 ∈ zT := ⟨zT_mem 308 (by decide +kernel) (by decide +kernel), zT_mem 309 (by decide +kernel) (by decide +kernel), zT_mem 310 (by decide +kernel) (by decide +kernel)⟩
theorem cvX3_117 : Cond.methodLink RX3 117 MX2_poweredSet.1 ∈ zT ∧ Cond.instanceMethod MX2_poweredSet.1 ∈ zT ∧ Cond.selects MX2_poweredSet.1.cls MX2_poweredSet.1 MX2_poweredSet.1 ∈ zT := ⟨zT_mem 312 (by decide +kernel) (by decide +kernel), zT_mem 313 (by decide +kernel) (by decide +kernel), zT_mem 314 (by decide +kernel) (by decide +kernel)⟩
theorem cvX2_76 : Cond.methodLink RX2 76 MX1_isPowered.1 ∈ zT ∧ Cond.instanceMethod MX1_isPowered.1 ∈ zT ∧ Cond.selects MX1_isPowered.1.cls MX1_isPowered.1 MX1_isPowered.1 ∈ zT := ⟨zT_mem 316 (by decide +kernel) (by decide +kernel), zT_mem 276 (by decide +kernel) (by decide +kernel), zT_mem 277 (by decide +kernel) (by decide +kernel)⟩
theorem cvL_86 : Cond.methodLink RL 86 MX3_grant.1 ∈ zT ∧ Cond.instanceMethod MX3_grant.1 ∈ zT ∧ Cond.selects MX3_grant.1.cls MX3_grant.1 MX3_grant.1 ∈ zT := ⟨zT_mem 317 (by decide +kernel) (by decide +kernel), zT_mem 318 (by decide +kernel) (by decide +kernel), zT_mem 319 (by decide +kernel) (by decide +kernel)⟩
theorem cvL_90 : Cond.methodLink RL 90 MX3_overload.1 ∈ zT ∧ Cond.instanceMethod MX3_overload.1 ∈ zT ∧ Cond.selects MX3_overload.1.cls MX3_overload.1 MX3_overload.1 ∈ zT := ⟨zT_mem 321 (by decide +kernel) (by decide +kernel), zT_mem 322 (by decide +kernel) (by decide +kernel), zT_mem 323 (by decide +kernel) (by decide +kernel)⟩
theorem cvL_94 : Cond.methodLink RL 94 MX3_cooldown.1 ∈ zT ∧ Cond.instanceMethod MX3_cooldown.1 ∈ zT ∧ Cond.selects MX3_cooldown.1.cls MX3_cooldown.1 MX3_cooldown.1 ∈ zT := ⟨zT_mem 325 (by decide +kernel) (by decide +kernel), zT_mem 326 (by decide +kernel) (by decide +kernel), zT_mem 327 (by decide +kernel) (by decide +kernel)⟩
theorem cvL_98 : Cond.methodLink RL 98 MX3_advance.1 ∈ zT ∧ Cond.instanceMethod MX3_advance.1 ∈ zT ∧ Cond.selects MX3_advance.1.cls MX3_advance.1 MX3_advance.1 ∈ zT := ⟨zT_mem 329 (by decide +kernel) (by decide +kernel), zT_mem 330 (by decide +kernel) (by decide +kernel), zT_mem 331 (by decide +kernel) (by decide +kernel)⟩
theorem cvX3_126 : Cond.methodLink RX3 126 MX2_runSecond.1 ∈ zT ∧ Cond.instanceMethod MX2_runSecond.1 ∈ zT ∧ Cond.selects MX2_runSecond.1.cls MX2_runSecond.1 MX2_runSecond.1 ∈ zT := ⟨zT_mem 333 (by decide +kernel) (by decide +kernel), zT_mem 334 (by decide +kernel) (by decide +kernel), zT_mem 335 (by decide +kernel) (by decide +kernel)⟩
theorem cvX2_85 : Cond.methodLink RX2 85 MX2_shedPorts.1 ∈ zT ∧ Cond.instanceMethod MX2_shedPorts.1 ∈ zT ∧ Cond.selects MX2_shedPorts.1.cls MX2_shedPorts.1 MX2_shedPorts.1 ∈ zT := ⟨zT_mem 337 (by decide +kernel) (by decide +kernel), zT_mem 338 (by decide +kernel) (by decide +kernel), zT_mem 339 (by decide +kernel) (by decide +kernel)⟩
theorem cvX2_104 : Cond.methodLink RX2 104 MX2_sparePower.1 ∈ zT ∧ Cond.instanceMethod MX2_sparePower.1 ∈ zT ∧ Cond.selects MX2_sparePower.1.cls MX2_sparePower.1 MX2_sparePower.1 ∈ zT := ⟨zT_mem 341 (by decide +kernel) (by decide +kernel), zT_mem 229 (by decide +kernel) (by decide +kernel), zT_mem 230 (by decide +kernel) (by decide +kernel)⟩
theorem cvX2_107 : Cond.methodLink RX2 107 MX2_lastPoweredPort.1 ∈ zT ∧ Cond.instanceMethod MX2_lastPoweredPort.1 ∈ zT ∧ Cond.selects MX2_lastPoweredPort.1.cls MX2_lastPoweredPort.1 MX2_lastPoweredPort.1 ∈ zT := ⟨zT_mem 342 (by decide +kernel) (by decide +kernel), zT_mem 344 (by decide +kernel) (by decide +kernel), zT_mem 0 (by decide +kernel) (by decide +kernel)⟩
theorem cvX2_110 : Cond.methodLink RX2 110 MX1_losePower.1 ∈ zT ∧ Cond.instanceMethod MX1_losePower.1 ∈ zT ∧ Cond.selects MX1_losePower.1.cls MX1_losePower.1 MX1_losePower.1 ∈ zT := ⟨zT_mem 346 (by decide +kernel) (by decide +kernel), zT_mem 245 (by decide +kernel) (by decide +kernel), zT_mem 246 (by decide +kernel) (by decide +kernel)⟩
theorem cvX2_113 : Cond.methodLink RX2 113 MX0_add.1 ∈ zT ∧ Cond.instanceMethod MX0_add.1 ∈ zT ∧ Cond.selects MX0_add.1.cls MX0_add.1 MX0_add.1 ∈ zT := ⟨zT_mem 347 (by decide +kernel) (by decide +kernel), zT_mem 348 (by decide +kernel) (by decide +kernel), zT_mem 349 (by decide +kernel) (by decide +kernel)⟩
theorem cvX0_28 : Cond.methodLink RX0 28 MX0_placeOf.1 ∈ zT ∧ Cond.instanceMethod MX0_placeOf.1 ∈ zT ∧ Cond.selects MX0_placeOf.1.cls MX0_placeOf.1 MX0_placeOf.1 ∈ zT := ⟨zT_mem 351 (by decide +kernel) (by decide +kernel), zT_mem 352 (by decide +kernel) (by decide +kernel), zT_mem 353 (by decide +kernel) (by decide +kernel)⟩
theorem cvX2_88 : Cond.methodLink RX2 88 MX2_cutPorts.1 ∈ zT ∧ Cond.instanceMethod MX2_cutPorts.1 ∈ zT ∧ Cond.selects MX2_cutPorts.1.cls MX2_cutPorts.1 MX2_cutPorts.1 ∈ zT := ⟨zT_mem 355 (by decide +kernel) (by decide +kernel), zT_mem 357 (by decide +kernel) (by decide +kernel), zT_mem 1 (by decide +kernel) (by decide +kernel)⟩
theorem cvX2_117 : Cond.methodLink RX2 117 MX1_isOverloaded.1 ∈ zT ∧ Cond.instanceMethod MX1_isOverloaded.1 ∈ zT ∧ Cond.selects MX1_isOverloaded.1.cls MX1_isOverloaded.1 MX1_isOverloaded.1 ∈ zT := ⟨zT_mem 359 (by decide +kernel) (by decide +kernel), zT_mem 360 (by decide +kernel) (by decide +kernel), zT_mem 361 (by decide +kernel) (by decide +kernel)⟩
theorem cvX1_25 : Cond.methodLink RX1 25 MX1_isPowered.1 ∈ zT ∧ Cond.instanceMethod MX1_isPowered.1 ∈ zT ∧ Cond.selects MX1_isPowered.1.cls MX1_isPowered.1 MX1_isPowered.1 ∈ zT := ⟨zT_mem 363 (by decide +kernel) (by decide +kernel), zT_mem 276 (by decide +kernel) (by decide +kernel), zT_mem 277 (by decide +kernel) (by decide +kernel)⟩
theorem cvX2_91 : Cond.methodLink RX2 91 MX2_coolDownExcept.1 ∈ zT ∧ Cond.instanceMethod MX2_coolDownExcept.1 ∈ zT ∧ Cond.selects MX2_coolDownExcept.1.cls MX2_coolDownExcept.1 MX2_coolDownExcept.1 ∈ zT := ⟨zT_mem 364 (by decide +kernel) (by decide +kernel), zT_mem 366 (by decide +kernel) (by decide +kernel), zT_mem 2 (by decide +kernel) (by decide +kernel)⟩
theorem cvX2_95 : Cond.methodLink RX2 95 MX2_powerUp.1 ∈ zT ∧ Cond.instanceMethod MX2_powerUp.1 ∈ zT ∧ Cond.selects MX2_powerUp.1.cls MX2_powerUp.1 MX2_powerUp.1 ∈ zT := ⟨zT_mem 368 (by decide +kernel) (by decide +kernel), zT_mem 370 (by decide +kernel) (by decide +kernel), zT_mem 3 (by decide +kernel) (by decide +kernel)⟩
theorem cvX2_126 : Cond.methodLink RX2 126 MX2_firstPortToPowerUp.1 ∈ zT ∧ Cond.instanceMethod MX2_firstPortToPowerUp.1 ∈ zT ∧ Cond.selects MX2_firstPortToPowerUp.1.cls MX2_firstPortToPowerUp.1 MX2_firstPortToPowerUp.1 ∈ zT := ⟨zT_mem 372 (by decide +kernel) (by decide +kernel), zT_mem 374 (by decide +kernel) (by decide +kernel), zT_mem 4 (by decide +kernel) (by decide +kernel)⟩
theorem cvX2_129 : Cond.methodLink RX2 129 MX1_canPowerUp.1 ∈ zT ∧ Cond.instanceMethod MX1_canPowerUp.1 ∈ zT ∧ Cond.selects MX1_canPowerUp.1.cls MX1_canPowerUp.1 MX1_canPowerUp.1 ∈ zT := ⟨zT_mem 376 (by decide +kernel) (by decide +kernel), zT_mem 377 (by decide +kernel) (by decide +kernel), zT_mem 378 (by decide +kernel) (by decide +kernel)⟩
theorem cvX1_41 : Cond.methodLink RX1 41 MX1_isEligible.1 ∈ zT ∧ Cond.instanceMethod MX1_isEligible.1 ∈ zT ∧ Cond.selects MX1_isEligible.1.cls MX1_isEligible.1 MX1_isEligible.1 ∈ zT := ⟨zT_mem 380 (by decide +kernel) (by decide +kernel), zT_mem 304 (by decide +kernel) (by decide +kernel), zT_mem 305 (by decide +kernel) (by decide +kernel)⟩
theorem csX2_98 : Cond.methodLink RX2 98 MJ6_bitCount_0f7a4.1 ∈ zT ∧ Cond.static MJ6_bitCount_0f7a4.1 ∈ zT := ⟨zT_mem 381 (by decide +kernel) (by decide +kernel), zT_mem 382 (by decide +kernel) (by decide +kernel)⟩
theorem cvL_102 : Cond.methodLink RL 102 MX3_clock.1 ∈ zT ∧ Cond.instanceMethod MX3_clock.1 ∈ zT ∧ Cond.selects MX3_clock.1.cls MX3_clock.1 MX3_clock.1 ∈ zT := ⟨zT_mem 387 (by decide +kernel) (by decide +kernel), zT_mem 388 (by decide +kernel) (by decide +kernel), zT_mem 389 (by decide +kernel) (by decide +kernel)⟩
theorem cvL_106 : Cond.methodLink RL 106 MX3_eventCount.1 ∈ zT ∧ Cond.instanceMethod MX3_eventCount.1 ∈ zT ∧ Cond.selects MX3_eventCount.1.cls MX3_eventCount.1 MX3_eventCount.1 ∈ zT := ⟨zT_mem 391 (by decide +kernel) (by decide +kernel), zT_mem 392 (by decide +kernel) (by decide +kernel), zT_mem 393 (by decide +kernel) (by decide +kernel)⟩
theorem cvL_110 : Cond.methodLink RL 110 MX3_eventTime.1 ∈ zT ∧ Cond.instanceMethod MX3_eventTime.1 ∈ zT ∧ Cond.selects MX3_eventTime.1.cls MX3_eventTime.1 MX3_eventTime.1 ∈ zT := ⟨zT_mem 395 (by decide +kernel) (by decide +kernel), zT_mem 396 (by decide +kernel) (by decide +kernel), zT_mem 397 (by decide +kernel) (by decide +kernel)⟩
theorem cvX3_141 : Cond.methodLink RX3 141 MX0_holds.1 ∈ zT ∧ Cond.instanceMethod MX0_holds.1 ∈ zT ∧ Cond.selects MX0_holds.1.cls MX0_holds.1 MX0_holds.1 ∈ zT := ⟨zT_mem 399 (by decide +kernel) (by decide +kernel), zT_mem 400 (by decide +kernel) (by decide +kernel), zT_mem 401 (by decide +kernel) (by decide +kernel)⟩
theorem cvX3_147 : Cond.methodLink RX3 147 MX0_placeOf.1 ∈ zT ∧ Cond.instanceMethod MX0_placeOf.1 ∈ zT ∧ Cond.selects MX0_placeOf.1.cls MX0_placeOf.1 MX0_placeOf.1 ∈ zT := ⟨zT_mem 403 (by decide +kernel) (by decide +kernel), zT_mem 352 (by decide +kernel) (by decide +kernel), zT_mem 353 (by decide +kernel) (by decide +kernel)⟩
theorem cvL_114 : Cond.methodLink RL 114 MX3_eventPort.1 ∈ zT ∧ Cond.instanceMethod MX3_eventPort.1 ∈ zT ∧ Cond.selects MX3_eventPort.1.cls MX3_eventPort.1 MX3_eventPort.1 ∈ zT := ⟨zT_mem 404 (by decide +kernel) (by decide +kernel), zT_mem 405 (by decide +kernel) (by decide +kernel), zT_mem 406 (by decide +kernel) (by decide +kernel)⟩
theorem cvL_118 : Cond.methodLink RL 118 MX3_eventKind.1 ∈ zT ∧ Cond.instanceMethod MX3_eventKind.1 ∈ zT ∧ Cond.selects MX3_eventKind.1.cls MX3_eventKind.1 MX3_eventKind.1 ∈ zT := ⟨zT_mem 408 (by decide +kernel) (by decide +kernel), zT_mem 409 (by decide +kernel) (by decide +kernel), zT_mem 410 (by decide +kernel) (by decide +kernel)⟩
theorem cvL_122 : Cond.methodLink RL 122 MX3_shedIfFails.1 ∈ zT ∧ Cond.instanceMethod MX3_shedIfFails.1 ∈ zT ∧ Cond.selects MX3_shedIfFails.1.cls MX3_shedIfFails.1 MX3_shedIfFails.1 ∈ zT := ⟨zT_mem 412 (by decide +kernel) (by decide +kernel), zT_mem 413 (by decide +kernel) (by decide +kernel), zT_mem 414 (by decide +kernel) (by decide +kernel)⟩
theorem cvX3_155 : Cond.methodLink RX3 155 MX2_copyFrom.1 ∈ zT ∧ Cond.instanceMethod MX2_copyFrom.1 ∈ zT ∧ Cond.selects MX2_copyFrom.1.cls MX2_copyFrom.1 MX2_copyFrom.1 ∈ zT := ⟨zT_mem 416 (by decide +kernel) (by decide +kernel), zT_mem 417 (by decide +kernel) (by decide +kernel), zT_mem 418 (by decide +kernel) (by decide +kernel)⟩
theorem cvX2_43 : Cond.methodLink RX2 43 MX1_copyFrom.1 ∈ zT ∧ Cond.instanceMethod MX1_copyFrom.1 ∈ zT ∧ Cond.selects MX1_copyFrom.1.cls MX1_copyFrom.1 MX1_copyFrom.1 ∈ zT := ⟨zT_mem 420 (by decide +kernel) (by decide +kernel), zT_mem 421 (by decide +kernel) (by decide +kernel), zT_mem 422 (by decide +kernel) (by decide +kernel)⟩
theorem cvX2_47 : Cond.methodLink RX2 47 MX0_copyFrom.1 ∈ zT ∧ Cond.instanceMethod MX0_copyFrom.1 ∈ zT ∧ Cond.selects MX0_copyFrom.1.cls MX0_copyFrom.1 MX0_copyFrom.1 ∈ zT := ⟨zT_mem 424 (by decide +kernel) (by decide +kernel), zT_mem 425 (by decide +kernel) (by decide +kernel), zT_mem 426 (by decide +kernel) (by decide +kernel)⟩
theorem acX0_32 : Cond.methodLink RX0 32 arraycopyName ∈ zT ∧ Cond.native arraycopyName ∈ zT ∧ Cond.static arraycopyName ∈ zT ∧ Cond.initialized "java/lang/System" ∈ zT := ⟨zT_mem 428 (by decide +kernel) (by decide +kernel), zT_mem 430 (by decide +kernel) (by decide +kernel), zT_mem 429 (by decide +kernel) (by decide +kernel), zT_mem 36 (by decide +kernel) (by decide +kernel)⟩
theorem cvX3_159 : Cond.methodLink RX3 159 MX2_shedPorts.1 ∈ zT ∧ Cond.instanceMethod MX2_shedPorts.1 ∈ zT ∧ Cond.selects MX2_shedPorts.1.cls MX2_shedPorts.1 MX2_shedPorts.1 ∈ zT := ⟨zT_mem 431 (by decide +kernel) (by decide +kernel), zT_mem 338 (by decide +kernel) (by decide +kernel), zT_mem 339 (by decide +kernel) (by decide +kernel)⟩
theorem cvL_126 : Cond.methodLink RL 126 MX3_fittingPorts.1 ∈ zT ∧ Cond.instanceMethod MX3_fittingPorts.1 ∈ zT ∧ Cond.selects MX3_fittingPorts.1.cls MX3_fittingPorts.1 MX3_fittingPorts.1 ∈ zT := ⟨zT_mem 432 (by decide +kernel) (by decide +kernel), zT_mem 433 (by decide +kernel) (by decide +kernel), zT_mem 434 (by decide +kernel) (by decide +kernel)⟩
theorem cvX3_162 : Cond.methodLink RX3 162 MX2_fittingSet.1 ∈ zT ∧ Cond.instanceMethod MX2_fittingSet.1 ∈ zT ∧ Cond.selects MX2_fittingSet.1.cls MX2_fittingSet.1 MX2_fittingSet.1 ∈ zT := ⟨zT_mem 436 (by decide +kernel) (by decide +kernel), zT_mem 437 (by decide +kernel) (by decide +kernel), zT_mem 438 (by decide +kernel) (by decide +kernel)⟩
theorem cvL_130 : Cond.methodLink RL 130 MX3_secondsToStable.1 ∈ zT ∧ Cond.instanceMethod MX3_secondsToStable.1 ∈ zT ∧ Cond.selects MX3_secondsToStable.1.cls MX3_secondsToStable.1 MX3_secondsToStable.1 ∈ zT := ⟨zT_mem 440 (by decide +kernel) (by decide +kernel), zT_mem 441 (by decide +kernel) (by decide +kernel), zT_mem 442 (by decide +kernel) (by decide +kernel)⟩
theorem cvX3_165 : Cond.methodLink RX3 165 MX3_settlePlan.1 ∈ zT ∧ Cond.instanceMethod MX3_settlePlan.1 ∈ zT ∧ Cond.selects MX3_settlePlan.1.cls MX3_settlePlan.1 MX3_settlePlan.1 ∈ zT := ⟨zT_mem 444 (by decide +kernel) (by decide +kernel), zT_mem 446 (by decide +kernel) (by decide +kernel), zT_mem 5 (by decide +kernel) (by decide +kernel)⟩
theorem cvX3_171 : Cond.methodLink RX3 171 MX2_isStable.1 ∈ zT ∧ Cond.instanceMethod MX2_isStable.1 ∈ zT ∧ Cond.selects MX2_isStable.1.cls MX2_isStable.1 MX2_isStable.1 ∈ zT := ⟨zT_mem 448 (by decide +kernel) (by decide +kernel), zT_mem 449 (by decide +kernel) (by decide +kernel), zT_mem 450 (by decide +kernel) (by decide +kernel)⟩
theorem cvX2_133 : Cond.methodLink RX2 133 MX2_portsAreCalm.1 ∈ zT ∧ Cond.instanceMethod MX2_portsAreCalm.1 ∈ zT ∧ Cond.selects MX2_portsAreCalm.1.cls MX2_portsAreCalm.1 MX2_portsAreCalm.1 ∈ zT := ⟨zT_mem 452 (by decide +kernel) (by decide +kernel), zT_mem 454 (by decide +kernel) (by decide +kernel), zT_mem 6 (by decide +kernel) (by decide +kernel)⟩
theorem cvL_134 : Cond.methodLink RL 134 MX3_stablePorts.1 ∈ zT ∧ Cond.instanceMethod MX3_stablePorts.1 ∈ zT ∧ Cond.selects MX3_stablePorts.1.cls MX3_stablePorts.1 MX3_stablePorts.1 ∈ zT := ⟨zT_mem 456 (by decide +kernel) (by decide +kernel), zT_mem 457 (by decide +kernel) (by decide +kernel), zT_mem 458 (by decide +kernel) (by decide +kernel)⟩
theorem cvL_138 : Cond.methodLink RL 138 MX3_save.1 ∈ zT ∧ Cond.instanceMethod MX3_save.1 ∈ zT ∧ Cond.selects MX3_save.1.cls MX3_save.1 MX3_save.1 ∈ zT := ⟨zT_mem 460 (by decide +kernel) (by decide +kernel), zT_mem 461 (by decide +kernel) (by decide +kernel), zT_mem 462 (by decide +kernel) (by decide +kernel)⟩
theorem csX3_168 : Cond.methodLink RX3 168 MX3_isSlot.1 ∈ zT ∧ Cond.static MX3_isSlot.1 ∈ zT := ⟨zT_mem 464 (by decide +kernel) (by decide +kernel), zT_mem 465 (by decide +kernel) (by decide +kernel)⟩
theorem cvL_142 : Cond.methodLink RL 142 MX3_restore.1 ∈ zT ∧ Cond.instanceMethod MX3_restore.1 ∈ zT ∧ Cond.selects MX3_restore.1.cls MX3_restore.1 MX3_restore.1 ∈ zT := ⟨zT_mem 467 (by decide +kernel) (by decide +kernel), zT_mem 468 (by decide +kernel) (by decide +kernel), zT_mem 469 (by decide +kernel) (by decide +kernel)⟩
theorem ciL_12 : Cond.methodLink RL 12 MX4_init.1 ∈ zT ∧ Cond.instanceMethod MX4_init.1 ∈ zT := ⟨zT_mem 473 (by decide +kernel) (by decide +kernel), zT_mem 474 (by decide +kernel) (by decide +kernel)⟩
theorem oiX4_1 : Cond.methodLink RX4 1 objectInit ∈ zT ∧ Cond.instanceMethod objectInit ∈ zT ∧ Cond.code objectInit ⟨#[0xb1]⟩ 1 none ∈ zT := ⟨zT_mem 476 (by decide +kernel) (by decide +kernel), zT_mem 43 (by decide +kernel) (by decide +kernel), zT_mem 44 (by decide +kernel) (by decide +kernel)⟩
theorem csX4_26 : Cond.methodLink RX4 26 MX4_at.1 ∈ zT ∧ Cond.static MX4_at.1 ∈ zT := ⟨zT_mem 477 (by decide +kernel) (by decide +kernel), zT_mem 478 (by decide +kernel) (by decide +kernel)⟩
theorem cvL_17 : Cond.methodLink RL 17 MX4_setCapacity.1 ∈ zT ∧ Cond.instanceMethod MX4_setCapacity.1 ∈ zT ∧ Cond.selects MX4_setCapacity.1.cls MX4_setCapacity.1 MX4_setCapacity.1 ∈ zT := ⟨zT_mem 502 (by decide +kernel) (by decide +kernel), zT_mem 503 (by decide +kernel) (by decide +kernel), zT_mem 504 (by decide +kernel) (by decide +kernel)⟩
theorem csX4_34 : Cond.methodLink RX4 34 MX4_isSupply.1 ∈ zT ∧ Cond.static MX4_isSupply.1 ∈ zT := ⟨zT_mem 506 (by decide +kernel) (by decide +kernel), zT_mem 507 (by decide +kernel) (by decide +kernel)⟩
theorem csX4_30 : Cond.methodLink RX4 30 MX4_in.1 ∈ zT ∧ Cond.static MX4_in.1 ∈ zT := ⟨zT_mem 509 (by decide +kernel) (by decide +kernel), zT_mem 510 (by decide +kernel) (by decide +kernel)⟩
theorem cvX4_38 : Cond.methodLink RX4 38 MX4_set.1 ∈ zT ∧ Cond.instanceMethod MX4_set.1 ∈ zT ∧ Cond.selects MX4_set.1.cls MX4_set.1 MX4_set.1 ∈ zT := ⟨zT_mem 512 (by decide +kernel) (by decide +kernel), zT_mem 514 (by decide +kernel) (by decide +kernel), zT_mem 7 (by decide +kernel) (by decide +kernel)⟩
theorem cvL_22 : Cond.methodLink RL 22 MX4_setWorking.1 ∈ zT ∧ Cond.instanceMethod MX4_setWorking.1 ∈ zT ∧ Cond.selects MX4_setWorking.1.cls MX4_setWorking.1 MX4_setWorking.1 ∈ zT := ⟨zT_mem 516 (by decide +kernel) (by decide +kernel), zT_mem 517 (by decide +kernel) (by decide +kernel), zT_mem 518 (by decide +kernel) (by decide +kernel)⟩
theorem cvL_27 : Cond.methodLink RL 27 MX4_setReserve.1 ∈ zT ∧ Cond.instanceMethod MX4_setReserve.1 ∈ zT ∧ Cond.selects MX4_setReserve.1.cls MX4_setReserve.1 MX4_setReserve.1 ∈ zT := ⟨zT_mem 520 (by decide +kernel) (by decide +kernel), zT_mem 521 (by decide +kernel) (by decide +kernel), zT_mem 522 (by decide +kernel) (by decide +kernel)⟩
theorem cvL_31 : Cond.methodLink RL 31 MX4_setRestartGap.1 ∈ zT ∧ Cond.instanceMethod MX4_setRestartGap.1 ∈ zT ∧ Cond.selects MX4_setRestartGap.1.cls MX4_setRestartGap.1 MX4_setRestartGap.1 ∈ zT := ⟨zT_mem 524 (by decide +kernel) (by decide +kernel), zT_mem 525 (by decide +kernel) (by decide +kernel), zT_mem 526 (by decide +kernel) (by decide +kernel)⟩
theorem cvL_35 : Cond.methodLink RL 35 MX4_setOverloadLimit.1 ∈ zT ∧ Cond.instanceMethod MX4_setOverloadLimit.1 ∈ zT ∧ Cond.selects MX4_setOverloadLimit.1.cls MX4_setOverloadLimit.1 MX4_setOverloadLimit.1 ∈ zT := ⟨zT_mem 528 (by decide +kernel) (by decide +kernel), zT_mem 529 (by decide +kernel) (by decide +kernel), zT_mem 530 (by decide +kernel) (by decide +kernel)⟩
theorem cvL_39 : Cond.methodLink RL 39 MX4_setCooldownTime.1 ∈ zT ∧ Cond.instanceMethod MX4_setCooldownTime.1 ∈ zT ∧ Cond.selects MX4_setCooldownTime.1.cls MX4_setCooldownTime.1 MX4_setCooldownTime.1 ∈ zT := ⟨zT_mem 532 (by decide +kernel) (by decide +kernel), zT_mem 533 (by decide +kernel) (by decide +kernel), zT_mem 534 (by decide +kernel) (by decide +kernel)⟩
theorem cvL_44 : Cond.methodLink RL 44 MX4_budget.1 ∈ zT ∧ Cond.instanceMethod MX4_budget.1 ∈ zT ∧ Cond.selects MX4_budget.1.cls MX4_budget.1 MX4_budget.1 ∈ zT := ⟨zT_mem 536 (by decide +kernel) (by decide +kernel), zT_mem 537 (by decide +kernel) (by decide +kernel), zT_mem 538 (by decide +kernel) (by decide +kernel)⟩
theorem cvL_48 : Cond.methodLink RL 48 MX4_available.1 ∈ zT ∧ Cond.instanceMethod MX4_available.1 ∈ zT ∧ Cond.selects MX4_available.1.cls MX4_available.1 MX4_available.1 ∈ zT := ⟨zT_mem 540 (by decide +kernel) (by decide +kernel), zT_mem 541 (by decide +kernel) (by decide +kernel), zT_mem 542 (by decide +kernel) (by decide +kernel)⟩
theorem cvX4_41 : Cond.methodLink RX4 41 MX4_budget.1 ∈ zT ∧ Cond.instanceMethod MX4_budget.1 ∈ zT ∧ Cond.selects MX4_budget.1.cls MX4_budget.1 MX4_budget.1 ∈ zT := ⟨zT_mem 544 (by decide +kernel) (by decide +kernel), zT_mem 537 (by decide +kernel) (by decide +kernel), zT_mem 538 (by decide +kernel) (by decide +kernel)⟩
theorem cvX4_45 : Cond.methodLink RX4 45 MX4_of.1 ∈ zT ∧ Cond.instanceMethod MX4_of.1 ∈ zT ∧ Cond.selects MX4_of.1.cls MX4_of.1 MX4_of.1 ∈ zT := ⟨zT_mem 545 (by decide +kernel) (by decide +kernel), zT_mem 547 (by decide +kernel) (by decide +kernel), zT_mem 8 (by decide +kernel) (by decide +kernel)⟩
theorem cvL_52 : Cond.methodLink RL 52 MX4_setEnabled.1 ∈ zT ∧ Cond.instanceMethod MX4_setEnabled.1 ∈ zT ∧ Cond.selects MX4_setEnabled.1.cls MX4_setEnabled.1 MX4_setEnabled.1 ∈ zT := ⟨zT_mem 549 (by decide +kernel) (by decide +kernel), zT_mem 550 (by decide +kernel) (by decide +kernel), zT_mem 551 (by decide +kernel) (by decide +kernel)⟩
theorem csX4_48 : Cond.methodLink RX4 48 MX4_isPort.1 ∈ zT ∧ Cond.static MX4_isPort.1 ∈ zT := ⟨zT_mem 553 (by decide +kernel) (by decide +kernel), zT_mem 554 (by decide +kernel) (by decide +kernel)⟩
theorem cvX4_51 : Cond.methodLink RX4 51 MX4_losePower.1 ∈ zT ∧ Cond.instanceMethod MX4_losePower.1 ∈ zT ∧ Cond.selects MX4_losePower.1.cls MX4_losePower.1 MX4_losePower.1 ∈ zT := ⟨zT_mem 556 (by decide +kernel) (by decide +kernel), zT_mem 558 (by decide +kernel) (by decide +kernel), zT_mem 9 (by decide +kernel) (by decide +kernel)⟩
theorem cvL_56 : Cond.methodLink RL 56 MX4_setPriority.1 ∈ zT ∧ Cond.instanceMethod MX4_setPriority.1 ∈ zT ∧ Cond.selects MX4_setPriority.1.cls MX4_setPriority.1 MX4_setPriority.1 ∈ zT := ⟨zT_mem 560 (by decide +kernel) (by decide +kernel), zT_mem 561 (by decide +kernel) (by decide +kernel), zT_mem 562 (by decide +kernel) (by decide +kernel)⟩
theorem cvL_61 : Cond.methodLink RL 61 MX4_connect.1 ∈ zT ∧ Cond.instanceMethod MX4_connect.1 ∈ zT ∧ Cond.selects MX4_connect.1.cls MX4_connect.1 MX4_connect.1 ∈ zT := ⟨zT_mem 564 (by decide +kernel) (by decide +kernel), zT_mem 565 (by decide +kernel) (by decide +kernel), zT_mem 566 (by decide +kernel) (by decide +kernel)⟩
theorem cvX4_55 : Cond.methodLink RX4 55 MX4_isConnected.1 ∈ zT ∧ Cond.instanceMethod MX4_isConnected.1 ∈ zT ∧ Cond.selects MX4_isConnected.1.cls MX4_isConnected.1 MX4_isConnected.1 ∈ zT := ⟨zT_mem 568 (by decide +kernel) (by decide +kernel), zT_mem 570 (by decide +kernel) (by decide +kernel), zT_mem 10 (by decide +kernel) (by decide +kernel)⟩
theorem csX4_58 : Cond.methodLink RX4 58 MX4_classBy.1 ∈ zT ∧ Cond.static MX4_classBy.1 ∈ zT := ⟨zT_mem 572 (by decide +kernel) (by decide +kernel), zT_mem 573 (by decide +kernel) (by decide +kernel)⟩
theorem csX4_62 : Cond.methodLink RX4 62 MX4_maximumOf.1 ∈ zT ∧ Cond.static MX4_maximumOf.1 ∈ zT := ⟨zT_mem 575 (by decide +kernel) (by decide +kernel), zT_mem 576 (by decide +kernel) (by decide +kernel)⟩
theorem cvL_65 : Cond.methodLink RL 65 MX4_disconnect.1 ∈ zT ∧ Cond.instanceMethod MX4_disconnect.1 ∈ zT ∧ Cond.selects MX4_disconnect.1.cls MX4_disconnect.1 MX4_disconnect.1 ∈ zT := ⟨zT_mem 578 (by decide +kernel) (by decide +kernel), zT_mem 579 (by decide +kernel) (by decide +kernel), zT_mem 580 (by decide +kernel) (by decide +kernel)⟩
theorem cvX4_65 : Cond.methodLink RX4 65 MX4_isPowered.1 ∈ zT ∧ Cond.instanceMethod MX4_isPowered.1 ∈ zT ∧ Cond.selects MX4_isPowered.1.cls MX4_isPowered.1 MX4_isPowered.1 ∈ zT := ⟨zT_mem 582 (by decide +kernel) (by decide +kernel), zT_mem 584 (by decide +kernel) (by decide +kernel), zT_mem 11 (by decide +kernel) (by decide +kernel)⟩
theorem cvL_69 : Cond.methodLink RL 69 MX4_setLoad.1 ∈ zT ∧ Cond.instanceMethod MX4_setLoad.1 ∈ zT ∧ Cond.selects MX4_setLoad.1.cls MX4_setLoad.1 MX4_setLoad.1 ∈ zT := ⟨zT_mem 586 (by decide +kernel) (by decide +kernel), zT_mem 587 (by decide +kernel) (by decide +kernel), zT_mem 588 (by decide +kernel) (by decide +kernel)⟩
theorem cvL_73 : Cond.methodLink RL 73 MX4_setRequest.1 ∈ zT ∧ Cond.instanceMethod MX4_setRequest.1 ∈ zT ∧ Cond.selects MX4_setRequest.1.cls MX4_setRequest.1 MX4_setRequest.1 ∈ zT := ⟨zT_mem 590 (by decide +kernel) (by decide +kernel), zT_mem 591 (by decide +kernel) (by decide +kernel), zT_mem 592 (by decide +kernel) (by decide +kernel)⟩
theorem cvX4_68 : Cond.methodLink RX4 68 MX4_classOf.1 ∈ zT ∧ Cond.instanceMethod MX4_classOf.1 ∈ zT ∧ Cond.selects MX4_classOf.1.cls MX4_classOf.1 MX4_classOf.1 ∈ zT := ⟨zT_mem 594 (by decide +kernel) (by decide +kernel), zT_mem 596 (by decide +kernel) (by decide +kernel), zT_mem 12 (by decide +kernel) (by decide +kernel)⟩
theorem cvX4_71 : Cond.methodLink RX4 71 MX4_available.1 ∈ zT ∧ Cond.instanceMethod MX4_available.1 ∈ zT ∧ Cond.selects MX4_available.1.cls MX4_available.1 MX4_available.1 ∈ zT := ⟨zT_mem 598 (by decide +kernel) (by decide +kernel), zT_mem 541 (by decide +kernel) (by decide +kernel), zT_mem 542 (by decide +kernel) (by decide +kernel)⟩
theorem cvL_77 : Cond.methodLink RL 77 MX4_request.1 ∈ zT ∧ Cond.instanceMethod MX4_request.1 ∈ zT ∧ Cond.selects MX4_request.1.cls MX4_request.1 MX4_request.1 ∈ zT := ⟨zT_mem 599 (by decide +kernel) (by decide +kernel), zT_mem 600 (by decide +kernel) (by decide +kernel), zT_mem 601 (by decide +kernel) (by decide +kernel)⟩
theorem cvL_81 : Cond.methodLink RL 81 MX4_eligiblePorts.1 ∈ zT ∧ Cond.instanceMethod MX4_eligiblePorts.1 ∈ zT ∧ Cond.selects MX4_eligiblePorts.1.cls MX4_eligiblePorts.1 MX4_eligiblePorts.1 ∈ zT := ⟨zT_mem 603 (by decide +kernel) (by decide +kernel), zT_mem 604 (by decide +kernel) (by decide +kernel), zT_mem 605 (by decide +kernel) (by decide +kernel)⟩
theorem cvX4_77 : Cond.methodLink RX4 77 MX4_isEligible.1 ∈ zT ∧ Cond.instanceMethod MX4_isEligible.1 ∈ zT ∧ Cond.selects MX4_isEligible.1.cls MX4_isEligible.1 MX4_isEligible.1 ∈ zT := ⟨zT_mem 607 (by decide +kernel) (by decide +kernel), zT_mem 609 (by decide +kernel) (by decide +kernel), zT_mem 13 (by decide +kernel) (by decide +kernel)⟩
theorem cvX4_74 : Cond.methodLink RX4 74 MX4_detects.1 ∈ zT ∧ Cond.instanceMethod MX4_detects.1 ∈ zT ∧ Cond.selects MX4_detects.1.cls MX4_detects.1 MX4_detects.1 ∈ zT := ⟨zT_mem 611 (by decide +kernel) (by decide +kernel), zT_mem 613 (by decide +kernel) (by decide +kernel), zT_mem 14 (by decide +kernel) (by decide +kernel)⟩
theorem cvL_85 : Cond.methodLink RL 85 MX4_poweredPorts.1 ∈ zT ∧ Cond.instanceMethod MX4_poweredPorts.1 ∈ zT ∧ Cond.selects MX4_poweredPorts.1.cls MX4_poweredPorts.1 MX4_poweredPorts.1 ∈ zT := ⟨zT_mem 615 (by decide +kernel) (by decide +kernel), zT_mem 616 (by decide +kernel) (by decide +kernel), zT_mem 617 (by decide +kernel) (by decide +kernel)⟩
theorem cvL_89 : Cond.methodLink RL 89 MX4_grant.1 ∈ zT ∧ Cond.instanceMethod MX4_grant.1 ∈ zT ∧ Cond.selects MX4_grant.1.cls MX4_grant.1 MX4_grant.1 ∈ zT := ⟨zT_mem 619 (by decide +kernel) (by decide +kernel), zT_mem 620 (by decide +kernel) (by decide +kernel), zT_mem 621 (by decide +kernel) (by decide +kernel)⟩
theorem cvX4_80 : Cond.methodLink RX4 80 MX4_told.1 ∈ zT ∧ Cond.instanceMethod MX4_told.1 ∈ zT ∧ Cond.selects MX4_told.1.cls MX4_told.1 MX4_told.1 ∈ zT := ⟨zT_mem 623 (by decide +kernel) (by decide +kernel), zT_mem 625 (by decide +kernel) (by decide +kernel), zT_mem 15 (by decide +kernel) (by decide +kernel)⟩
theorem cvL_93 : Cond.methodLink RL 93 MX4_overload.1 ∈ zT ∧ Cond.instanceMethod MX4_overload.1 ∈ zT ∧ Cond.selects MX4_overload.1.cls MX4_overload.1 MX4_overload.1 ∈ zT := ⟨zT_mem 627 (by decide +kernel) (by decide +kernel), zT_mem 628 (by decide +kernel) (by decide +kernel), zT_mem 629 (by decide +kernel) (by decide +kernel)⟩
theorem cvL_97 : Cond.methodLink RL 97 MX4_cooldown.1 ∈ zT ∧ Cond.instanceMethod MX4_cooldown.1 ∈ zT ∧ Cond.selects MX4_cooldown.1.cls MX4_cooldown.1 MX4_cooldown.1 ∈ zT := ⟨zT_mem 631 (by decide +kernel) (by decide +kernel), zT_mem 632 (by decide +kernel) (by decide +kernel), zT_mem 633 (by decide +kernel) (by decide +kernel)⟩
theorem cvL_101 : Cond.methodLink RL 101 MX4_advance.1 ∈ zT ∧ Cond.instanceMethod MX4_advance.1 ∈ zT ∧ Cond.selects MX4_advance.1.cls MX4_advance.1 MX4_advance.1 ∈ zT := ⟨zT_mem 635 (by decide +kernel) (by decide +kernel), zT_mem 636 (by decide +kernel) (by decide +kernel), zT_mem 637 (by decide +kernel) (by decide +kernel)⟩
theorem cvX4_106 : Cond.methodLink RX4 106 MX4_second.1 ∈ zT ∧ Cond.instanceMethod MX4_second.1 ∈ zT ∧ Cond.selects MX4_second.1.cls MX4_second.1 MX4_second.1 ∈ zT := ⟨zT_mem 639 (by decide +kernel) (by decide +kernel), zT_mem 641 (by decide +kernel) (by decide +kernel), zT_mem 16 (by decide +kernel) (by decide +kernel)⟩
theorem cvX4_97 : Cond.methodLink RX4 97 MX4_shedAll.1 ∈ zT ∧ Cond.instanceMethod MX4_shedAll.1 ∈ zT ∧ Cond.selects MX4_shedAll.1.cls MX4_shedAll.1 MX4_shedAll.1 ∈ zT := ⟨zT_mem 643 (by decide +kernel) (by decide +kernel), zT_mem 645 (by decide +kernel) (by decide +kernel), zT_mem 17 (by decide +kernel) (by decide +kernel)⟩
theorem cvX4_87 : Cond.methodLink RX4 87 MX4_inOrder.1 ∈ zT ∧ Cond.instanceMethod MX4_inOrder.1 ∈ zT ∧ Cond.selects MX4_inOrder.1.cls MX4_inOrder.1 MX4_inOrder.1 ∈ zT := ⟨zT_mem 647 (by decide +kernel) (by decide +kernel), zT_mem 649 (by decide +kernel) (by decide +kernel), zT_mem 18 (by decide +kernel) (by decide +kernel)⟩
theorem cvX4_90 : Cond.methodLink RX4 90 MX4_addEvent.1 ∈ zT ∧ Cond.instanceMethod MX4_addEvent.1 ∈ zT ∧ Cond.selects MX4_addEvent.1.cls MX4_addEvent.1 MX4_addEvent.1 ∈ zT := ⟨zT_mem 651 (by decide +kernel) (by decide +kernel), zT_mem 653 (by decide +kernel) (by decide +kernel), zT_mem 19 (by decide +kernel) (by decide +kernel)⟩
theorem cvX4_100 : Cond.methodLink RX4 100 MX4_isCut.1 ∈ zT ∧ Cond.instanceMethod MX4_isCut.1 ∈ zT ∧ Cond.selects MX4_isCut.1.cls MX4_isCut.1 MX4_isCut.1 ∈ zT := ⟨zT_mem 655 (by decide +kernel) (by decide +kernel), zT_mem 657 (by decide +kernel) (by decide +kernel), zT_mem 20 (by decide +kernel) (by decide +kernel)⟩
theorem cvX4_94 : Cond.methodLink RX4 94 MX4_checkOverload.1 ∈ zT ∧ Cond.instanceMethod MX4_checkOverload.1 ∈ zT ∧ Cond.selects MX4_checkOverload.1.cls MX4_checkOverload.1 MX4_checkOverload.1 ∈ zT := ⟨zT_mem 659 (by decide +kernel) (by decide +kernel), zT_mem 661 (by decide +kernel) (by decide +kernel), zT_mem 21 (by decide +kernel) (by decide +kernel)⟩
theorem cvX4_103 : Cond.methodLink RX4 103 MX4_powerUp.1 ∈ zT ∧ Cond.instanceMethod MX4_powerUp.1 ∈ zT ∧ Cond.selects MX4_powerUp.1.cls MX4_powerUp.1 MX4_powerUp.1 ∈ zT := ⟨zT_mem 663 (by decide +kernel) (by decide +kernel), zT_mem 665 (by decide +kernel) (by decide +kernel), zT_mem 22 (by decide +kernel) (by decide +kernel)⟩
theorem cvL_105 : Cond.methodLink RL 105 MX4_clock.1 ∈ zT ∧ Cond.instanceMethod MX4_clock.1 ∈ zT ∧ Cond.selects MX4_clock.1.cls MX4_clock.1 MX4_clock.1 ∈ zT := ⟨zT_mem 667 (by decide +kernel) (by decide +kernel), zT_mem 668 (by decide +kernel) (by decide +kernel), zT_mem 669 (by decide +kernel) (by decide +kernel)⟩
theorem cvL_109 : Cond.methodLink RL 109 MX4_eventCount.1 ∈ zT ∧ Cond.instanceMethod MX4_eventCount.1 ∈ zT ∧ Cond.selects MX4_eventCount.1.cls MX4_eventCount.1 MX4_eventCount.1 ∈ zT := ⟨zT_mem 671 (by decide +kernel) (by decide +kernel), zT_mem 672 (by decide +kernel) (by decide +kernel), zT_mem 673 (by decide +kernel) (by decide +kernel)⟩
theorem cvL_113 : Cond.methodLink RL 113 MX4_eventTime.1 ∈ zT ∧ Cond.instanceMethod MX4_eventTime.1 ∈ zT ∧ Cond.selects MX4_eventTime.1.cls MX4_eventTime.1 MX4_eventTime.1 ∈ zT := ⟨zT_mem 675 (by decide +kernel) (by decide +kernel), zT_mem 676 (by decide +kernel) (by decide +kernel), zT_mem 677 (by decide +kernel) (by decide +kernel)⟩
theorem cvX4_109 : Cond.methodLink RX4 109 MX4_ofEvent.1 ∈ zT ∧ Cond.instanceMethod MX4_ofEvent.1 ∈ zT ∧ Cond.selects MX4_ofEvent.1.cls MX4_ofEvent.1 MX4_ofEvent.1 ∈ zT := ⟨zT_mem 679 (by decide +kernel) (by decide +kernel), zT_mem 681 (by decide +kernel) (by decide +kernel), zT_mem 23 (by decide +kernel) (by decide +kernel)⟩
theorem cvL_117 : Cond.methodLink RL 117 MX4_eventPort.1 ∈ zT ∧ Cond.instanceMethod MX4_eventPort.1 ∈ zT ∧ Cond.selects MX4_eventPort.1.cls MX4_eventPort.1 MX4_eventPort.1 ∈ zT := ⟨zT_mem 683 (by decide +kernel) (by decide +kernel), zT_mem 684 (by decide +kernel) (by decide +kernel), zT_mem 685 (by decide +kernel) (by decide +kernel)⟩
theorem cvL_121 : Cond.methodLink RL 121 MX4_eventKind.1 ∈ zT ∧ Cond.instanceMethod MX4_eventKind.1 ∈ zT ∧ Cond.selects MX4_eventKind.1.cls MX4_eventKind.1 MX4_eventKind.1 ∈ zT := ⟨zT_mem 687 (by decide +kernel) (by decide +kernel), zT_mem 688 (by decide +kernel) (by decide +kernel), zT_mem 689 (by decide +kernel) (by decide +kernel)⟩
theorem cvL_125 : Cond.methodLink RL 125 MX4_shedIfFails.1 ∈ zT ∧ Cond.instanceMethod MX4_shedIfFails.1 ∈ zT ∧ Cond.selects MX4_shedIfFails.1.cls MX4_shedIfFails.1 MX4_shedIfFails.1 ∈ zT := ⟨zT_mem 691 (by decide +kernel) (by decide +kernel), zT_mem 692 (by decide +kernel) (by decide +kernel), zT_mem 693 (by decide +kernel) (by decide +kernel)⟩
theorem cvX4_112 : Cond.methodLink RX4 112 MX4_keep.1 ∈ zT ∧ Cond.instanceMethod MX4_keep.1 ∈ zT ∧ Cond.selects MX4_keep.1.cls MX4_keep.1 MX4_keep.1 ∈ zT := ⟨zT_mem 695 (by decide +kernel) (by decide +kernel), zT_mem 697 (by decide +kernel) (by decide +kernel), zT_mem 24 (by decide +kernel) (by decide +kernel)⟩
theorem cvX4_115 : Cond.methodLink RX4 115 MX4_putBack.1 ∈ zT ∧ Cond.instanceMethod MX4_putBack.1 ∈ zT ∧ Cond.selects MX4_putBack.1.cls MX4_putBack.1 MX4_putBack.1 ∈ zT := ⟨zT_mem 699 (by decide +kernel) (by decide +kernel), zT_mem 701 (by decide +kernel) (by decide +kernel), zT_mem 25 (by decide +kernel) (by decide +kernel)⟩
theorem cvL_129 : Cond.methodLink RL 129 MX4_fittingPorts.1 ∈ zT ∧ Cond.instanceMethod MX4_fittingPorts.1 ∈ zT ∧ Cond.selects MX4_fittingPorts.1.cls MX4_fittingPorts.1 MX4_fittingPorts.1 ∈ zT := ⟨zT_mem 703 (by decide +kernel) (by decide +kernel), zT_mem 704 (by decide +kernel) (by decide +kernel), zT_mem 705 (by decide +kernel) (by decide +kernel)⟩
theorem cvL_133 : Cond.methodLink RL 133 MX4_secondsToStable.1 ∈ zT ∧ Cond.instanceMethod MX4_secondsToStable.1 ∈ zT ∧ Cond.selects MX4_secondsToStable.1.cls MX4_secondsToStable.1 MX4_secondsToStable.1 ∈ zT := ⟨zT_mem 707 (by decide +kernel) (by decide +kernel), zT_mem 708 (by decide +kernel) (by decide +kernel), zT_mem 709 (by decide +kernel) (by decide +kernel)⟩
theorem cvX4_128 : Cond.methodLink RX4 128 MX4_findStable.1 ∈ zT ∧ Cond.instanceMethod MX4_findStable.1 ∈ zT ∧ Cond.selects MX4_findStable.1.cls MX4_findStable.1 MX4_findStable.1 ∈ zT := ⟨zT_mem 711 (by decide +kernel) (by decide +kernel), zT_mem 713 (by decide +kernel) (by decide +kernel), zT_mem 26 (by decide +kernel) (by decide +kernel)⟩
theorem cvX4_118 : Cond.methodLink RX4 118 MX4_poweredPorts.1 ∈ zT ∧ Cond.instanceMethod MX4_poweredPorts.1 ∈ zT ∧ Cond.selects MX4_poweredPorts.1.cls MX4_poweredPorts.1 MX4_poweredPorts.1 ∈ zT := ⟨zT_mem 715 (by decide +kernel) (by decide +kernel), zT_mem 616 (by decide +kernel) (by decide +kernel), zT_mem 617 (by decide +kernel) (by decide +kernel)⟩
theorem cvX4_124 : Cond.methodLink RX4 124 MX4_isStableSecond.1 ∈ zT ∧ Cond.instanceMethod MX4_isStableSecond.1 ∈ zT ∧ Cond.selects MX4_isStableSecond.1.cls MX4_isStableSecond.1 MX4_isStableSecond.1 ∈ zT := ⟨zT_mem 716 (by decide +kernel) (by decide +kernel), zT_mem 718 (by decide +kernel) (by decide +kernel), zT_mem 27 (by decide +kernel) (by decide +kernel)⟩
theorem cvL_137 : Cond.methodLink RL 137 MX4_stablePorts.1 ∈ zT ∧ Cond.instanceMethod MX4_stablePorts.1 ∈ zT ∧ Cond.selects MX4_stablePorts.1.cls MX4_stablePorts.1 MX4_stablePorts.1 ∈ zT := ⟨zT_mem 720 (by decide +kernel) (by decide +kernel), zT_mem 721 (by decide +kernel) (by decide +kernel), zT_mem 722 (by decide +kernel) (by decide +kernel)⟩
theorem cvL_141 : Cond.methodLink RL 141 MX4_save.1 ∈ zT ∧ Cond.instanceMethod MX4_save.1 ∈ zT ∧ Cond.selects MX4_save.1.cls MX4_save.1 MX4_save.1 ∈ zT := ⟨zT_mem 724 (by decide +kernel) (by decide +kernel), zT_mem 725 (by decide +kernel) (by decide +kernel), zT_mem 726 (by decide +kernel) (by decide +kernel)⟩
theorem cvL_145 : Cond.methodLink RL 145 MX4_restore.1 ∈ zT ∧ Cond.instanceMethod MX4_restore.1 ∈ zT ∧ Cond.selects MX4_restore.1.cls MX4_restore.1 MX4_restore.1 ∈ zT := ⟨zT_mem 728 (by decide +kernel) (by decide +kernel), zT_mem 729 (by decide +kernel) (by decide +kernel), zT_mem 730 (by decide +kernel) (by decide +kernel)⟩
theorem clL_7 : Cond.classLink RL 7 RX3 ∈ zT ∧ Cond.instantiable RX3 3 ∈ zT ∧ Cond.initialized RX3 ∈ zT := ⟨zT_mem 37 (by decide +kernel) (by decide +kernel), zT_mem 38 (by decide +kernel) (by decide +kernel), zT_mem 29 (by decide +kernel) (by decide +kernel)⟩
theorem clX3_7 : Cond.classLink RX3 7 RX2 ∈ zT ∧ Cond.instantiable RX2 10 ∈ zT ∧ Cond.initialized RX2 ∈ zT := ⟨zT_mem 45 (by decide +kernel) (by decide +kernel), zT_mem 46 (by decide +kernel) (by decide +kernel), zT_mem 30 (by decide +kernel) (by decide +kernel)⟩
theorem clX2_19 : Cond.classLink RX2 19 RX1 ∈ zT ∧ Cond.instantiable RX1 10 ∈ zT ∧ Cond.initialized RX1 ∈ zT := ⟨zT_mem 51 (by decide +kernel) (by decide +kernel), zT_mem 81 (by decide +kernel) (by decide +kernel), zT_mem 32 (by decide +kernel) (by decide +kernel)⟩
theorem clX2_25 : Cond.classLink RX2 25 RX0 ∈ zT ∧ Cond.instantiable RX0 5 ∈ zT ∧ Cond.initialized RX0 ∈ zT := ⟨zT_mem 53 (by decide +kernel) (by decide +kernel), zT_mem 54 (by decide +kernel) (by decide +kernel), zT_mem 31 (by decide +kernel) (by decide +kernel)⟩
theorem clL_10 : Cond.classLink RL 10 RX4 ∈ zT ∧ Cond.instantiable RX4 7 ∈ zT ∧ Cond.initialized RX4 ∈ zT := ⟨zT_mem 471 (by decide +kernel) (by decide +kernel), zT_mem 472 (by decide +kernel) (by decide +kernel), zT_mem 33 (by decide +kernel) (by decide +kernel)⟩
theorem kcJ6_265 : Cond.constant RJ6 265 1431655765 ∈ zT := zT_mem 384 (by decide +kernel) (by decide +kernel)
theorem kcJ6_266 : Cond.constant RJ6 266 858993459 ∈ zT := zT_mem 385 (by decide +kernel) (by decide +kernel)
theorem kcJ6_267 : Cond.constant RJ6 267 252645135 ∈ zT := zT_mem 386 (by decide +kernel) (by decide +kernel)
theorem arr_int : Cond.arrayClass .int ∈ zT := zT_mem 79 (by decide +kernel) (by decide +kernel)
theorem arr_boolean : Cond.arrayClass .boolean ∈ zT := zT_mem 80 (by decide +kernel) (by decide +kernel)
end
section
/-! helpers for the walks -/
def zcat : List Value → Prop
  | [] => True
  | v :: l => v.category = 1 ∧ zcat l
theorem zcat_mem : ∀ {As : List Value}, zcat As → ∀ v ∈ As, v.category = 1
  | [], _, v, h => by cases h
  | w :: l, hc, v, h => by
    rcases List.mem_cons.mp h with h | h
    · subst h; exact hc.1
    · exact zcat_mem hc.2 v h
theorem Con.go {γ : zG} {l : Launch} {n C S : Nat} {M : zM} {As : List Value} {h : zH} {r : Option Value} {h' : zH} (hy : plainName M.1.cls = true) (hlen : (lg_sl As).length ≤ M.2.2.1) (hcat : zcat As)
    (hgo : Go (γ, l, n, (C, S), M, zF γ C S r h') 0 0 0 (zent As M.2.2.1) [] h) : Con γ l n C S M As h r h' := Con.of hy hlen (zcat_mem hcat) hgo
section ZC
variable {E : zE} {cs sl pc : Nat} {lv : zLv} {st : List Value} {h : zH}
theorem go_callVi {idx np n' b ci : Nat} {M : zM} {As rest fs : List Value} {v : Int32} {h1 : zH} {q : vw_C} (hd : decode (zb E) pc = .ok (.invokevirtual idx, 3)) (hm : zMo M np)
    (hw : Cond.methodLink (zo E) idx M.1 ∈ zT ∧ Cond.instanceMethod M.1 ∈ zT ∧ Cond.selects M.1.cls M.1 M.1 ∈ zT) (hc : zcl[ci]? = some q ∧ q.1 = M.1.cls)
    (hcon : Con (zg E) (zl E) n' 0 0 M (.ref b :: As) h (some (.int v)) h1) (hh : h.1 b = some (.inr (ci, fs))) (hst : st = As.reverse ++ .ref b :: rest) (hnp : As.length = np) (hn : n' + 1 ≤ zn E) (hcs : cs ≤ zcc E) (hsl : sl ≤ zcs E) (hrs : (rest.map fun v => v.category).sum ≤ 8)
    (kk : Go E cs sl (pc + 3) lv (.int v :: rest) h1) : Go E cs sl pc lv st h := go_callV hd hm hw hc hcon hh hst hnp hn hcs hsl hrs kk
theorem go_callVv {idx np n' b ci : Nat} {M : zM} {As rest fs : List Value} {h1 : zH} {q : vw_C} (hd : decode (zb E) pc = .ok (.invokevirtual idx, 3)) (hm : zMo M np)
    (hw : Cond.methodLink (zo E) idx M.1 ∈ zT ∧ Cond.instanceMethod M.1 ∈ zT ∧ Cond.selects M.1.cls M.1 M.1 ∈ zT) (hc : zcl[ci]? = some q ∧ q.1 = M.1.cls)
    (hcon : Con (zg E) (zl E) n' 0 0 M (.ref b :: As) h none h1) (hh : h.1 b = some (.inr (ci, fs))) (hst : st = As.reverse ++ .ref b :: rest) (hnp : As.length = np) (hn : n' + 1 ≤ zn E) (hcs : cs ≤ zcc E) (hsl : sl ≤ zcs E) (hrs : (rest.map fun v => v.category).sum ≤ 8)
    (kk : Go E cs sl (pc + 3) lv rest h1) : Go E cs sl pc lv st h := go_callV hd hm hw hc hcon hh hst hnp hn hcs hsl hrs kk
theorem go_callSi {idx np n' : Nat} {M : zM} {As rest : List Value} {v : Int32} {h1 : zH} (hd : decode (zb E) pc = .ok (.invokestatic idx, 3)) (hm : zMo M np)
    (hw : Cond.methodLink (zo E) idx M.1 ∈ zT ∧ Cond.static M.1 ∈ zT)
    (hcon : Con (zg E) (zl E) n' 0 0 M As h (some (.int v)) h1) (hst : st = As.reverse ++ rest) (hnp : As.length = np) (hn : n' + 1 ≤ zn E) (hcs : cs ≤ zcc E) (hsl : sl ≤ zcs E) (hrs : (rest.map fun v => v.category).sum ≤ 8)
    (kk : Go E cs sl (pc + 3) lv (.int v :: rest) h1) : Go E cs sl pc lv st h := go_callS hd hm hw hcon hst hnp hn hcs hsl hrs kk
theorem go_callIv {idx np n' C' S' b : Nat} {M : zM} {As rest : List Value} {h1 : zH} (hd : decode (zb E) pc = .ok (.invokespecial idx, 3)) (hm : zMo M np)
    (hw : Cond.methodLink (zo E) idx M.1 ∈ zT ∧ Cond.instanceMethod M.1 ∈ zT) (hi : M.1.name = "<init>" ∧ M.2.2.2 = none)
    (hcon : Con (zg E) (zl E) n' C' S' M (.ref b :: As) h none h1) (hst : st = As.reverse ++ .ref b :: rest) (hnp : As.length = np) (hn : n' + 1 ≤ zn E) (hcs : cs + C' ≤ zcc E) (hsl : sl + S' ≤ zcs E) (hrs : (rest.map fun v => v.category).sum ≤ 8)
    (kk : Go E (cs + C') (sl + S') (pc + 3) lv rest h1) : Go E cs sl pc lv st h := go_callI hd hm hw hi hcon hst hnp hn hcs hsl hrs kk
end ZC
/-- a yes or a no -/
def zi (p : Prop) [Decidable p] : Int32 := if p then 1 else 0
theorem zi_0 {p : Prop} [Decidable p] : zi p = 0 ↔ ¬ p := by
  unfold zi
  by_cases h : p <;> simp [h]
theorem zi_t {p : Prop} [Decidable p] (h : p) : zi p = 1 := by simp [zi, h]
theorem zi_f {p : Prop} [Decidable p] (h : ¬ p) : zi p = 0 := by simp [zi, h]
theorem zi_n {p : Prop} [Decidable p] : narrow .boolean (.int (zi p)) = .int (zi p) := by
  unfold zi
  by_cases h : p <;> simp [h] <;> rfl
theorem zi_a {p : Prop} [Decidable p] : zi p &&& 1 = zi p := by
  unfold zi
  by_cases h : p <;> simp [h] <;> rfl
theorem zi_iff {p q : Prop} [Decidable p] [Decidable q] (h : p ↔ q) : zi p = zi q := by
  unfold zi
  by_cases hp : p
  · simp [hp, h.mp hp]
  · have hq : ¬ q := fun x => hp (h.mpr x)
    simp [hp, hq]
theorem zrt {p : Prop} [Decidable p] (h : p) : some (Value.int (zi p)) = some (Value.int 1) := by rw [zi_t h]
theorem zrf {p : Prop} [Decidable p] (h : ¬ p) : some (Value.int (zi p)) = some (Value.int 0) := by rw [zi_f h]
/-! a block of cells -/
def zIs (h : zH) (b n : Nat) (c : Nat → va_E) : Prop := ∀ k, k < n → h.1 (b + k) = some (c k)
def zput (h : zH) (b n : Nat) (c : Nat → va_E) : zH := (fun x => if b ≤ x ∧ x < b + n then some (c (x - b)) else h.1 x, h.2)
theorem zput_is (h : zH) (b n : Nat) (c : Nat → va_E) : zIs (zput h b n c) b n c := fun k hk => by
  have h1 : b ≤ b + k ∧ b + k < b + n := by omega
  simp [zput, h1, hk]
theorem zput_out {h : zH} {b n x : Nat} {c : Nat → va_E} (hx : x < b ∨ b + n ≤ x) : (zput h b n c).1 x = h.1 x := by
  have h1 : ¬ (b ≤ x ∧ x < b + n) := by omega
  show (if b ≤ x ∧ x < b + n then some (c (x - b)) else h.1 x) = h.1 x
  rw [if_neg h1]
theorem zput_zput (h : zH) (b n : Nat) (c c' : Nat → va_E) : zput (zput h b n c) b n c' = zput h b n c' := by
  refine Prod.ext ?_ rfl
  funext x
  show (if b ≤ x ∧ x < b + n then some (c' (x - b)) else (zput h b n c).1 x) = (if b ≤ x ∧ x < b + n then some (c' (x - b)) else h.1 x)
  by_cases h1 : b ≤ x ∧ x < b + n
  · rw [if_pos h1, if_pos h1]
  · rw [if_neg h1, if_neg h1]
    exact zput_out (by omega)
theorem zput_id {h : zH} {b n : Nat} {c : Nat → va_E} (hs : zIs h b n c) : zput h b n c = h := by
  refine Prod.ext ?_ rfl
  funext x
  show (if b ≤ x ∧ x < b + n then some (c (x - b)) else h.1 x) = h.1 x
  by_cases h1 : b ≤ x ∧ x < b + n
  · rw [if_pos h1, ← hs (x - b) (by omega)]
    exact congrArg h.1 (show b + (x - b) = x by omega)
  · rw [if_neg h1]
theorem zput_congr {h : zH} {b n : Nat} {c c' : Nat → va_E} (hc : ∀ k, k < n → c k = c' k) : zput h b n c = zput h b n c' := by
  refine Prod.ext ?_ rfl
  funext x
  show (if b ≤ x ∧ x < b + n then some (c (x - b)) else h.1 x) = (if b ≤ x ∧ x < b + n then some (c' (x - b)) else h.1 x)
  by_cases h1 : b ≤ x ∧ x < b + n
  · rw [if_pos h1, if_pos h1, hc (x - b) (by omega)]
  · rw [if_neg h1, if_neg h1]
theorem zu_zput {h : zH} {b n k a : Nat} {c c' : Nat → va_E} {e : va_E} (hs : zIs h b n c) (hk : k < n) (ha : a = b + k) (h1 : ∀ j, j < n → j ≠ k → c' j = c j) (h2 : c' k = e) : zu h a e = zput h b n c' := by
  subst ha
  refine Prod.ext ?_ rfl
  funext x
  show (if x = b + k then some e else h.1 x) = (if b ≤ x ∧ x < b + n then some (c' (x - b)) else h.1 x)
  by_cases hx : x = b + k
  · subst hx
    rw [if_pos rfl, if_pos (by omega), show b + k - b = k by omega, h2]
  · rw [if_neg hx]
    by_cases hb : b ≤ x ∧ x < b + n
    · rw [if_pos hb, h1 (x - b) (by omega) (by omega), ← hs (x - b) (by omega)]
      exact (congrArg h.1 (show b + (x - b) = x by omega)).symm
    · rw [if_neg hb]
theorem zIs.out {h : zH} {b n b2 n2 : Nat} {c c2 : Nat → va_E} (hs : zIs h b n c) (hd : b + n ≤ b2 ∨ b2 + n2 ≤ b) : zIs (zput h b2 n2 c2) b n c := fun k hk => by
  rw [zput_out (by omega)]
  exact hs k hk
theorem zIs.zu {h : zH} {b n a : Nat} {c : Nat → va_E} {e : va_E} (hs : zIs h b n c) (hd : a < b ∨ b + n ≤ a) : zIs (zu h a e) b n c := fun k hk => by
  rw [zu_n (by omega)]
  exact hs k hk
/-- numbers -/
theorem zrem_n {a : Nat} (ha : a < 2 ^ 31) : nI a - nI a / 16 * 16 = nI (a % 16) := pk_rem (d := 16) ha (by decide) (by decide)
theorem zix {i : Int32} {n j : Nat} (h : i = nI j) (hj : j < n) (hn : n < 2 ^ 31) : vp_in i n ∧ i.toNatClampNeg = j := by
  subst h
  exact ⟨vp_in_nI hj hn, nI_clamp (by omega)⟩
def zB (x : Int32) : Prop := x = 0 ∨ x = 1
theorem znb {x : Int32} (h : zB x) : narrow .boolean (.int x) = .int x := by rcases h with h | h <;> subst h <;> rfl
theorem zfb {x : Int32} (h : zB x) : fits .boolean (.int x) = true := by rcases h with h | h <;> subst h <;> rfl
theorem zab {x : Int32} (h : zB x) : x &&& 1 = x := by rcases h with h | h <;> subst h <;> rfl
theorem zi_B {p : Prop} [Decidable p] : zB (zi p) := by
  unfold zi zB
  by_cases h : p <;> simp [h]
theorem zle {a b : Int32} : a ≤ b ↔ ¬ b < a := Int32.not_lt.symm
theorem go_vl {E : zE} {cs sl pc : Nat} {lv lv' : zLv} {st : List Value} {h : zH} (k : Go E cs sl pc lv' st h) (hs : zsub lv 0 lv') : Go E cs sl pc lv st h := go_lv hs k
end
section
/-! Port -/
def zpo (f : Nat → Int32) : va_E := .inr (1, [.int (f 0), .int (f 1), .int (f 2), .int (f 3), .int (f 4), .int (f 5), .int (f 6), .int (f 7), .int (f 8), .int (f 9)])
def zbo (f : Nat → Int32) : Prop := zB (f 0) ∧ zB (f 2) ∧ zB (f 3)
set_option maxRecDepth 4000 in
theorem kX1_isPowered (γ : zG) (l : Launch) (n : Nat) (h : zH) (a : Nat) (f : Nat → Int32) (hp : h.1 a = some (zpo f)) : Con γ l (n) 0 0 MX1_isPowered [.ref a] h (some (.int (zi (0 < f 7)))) h := by
  refine Con.go (by decide +kernel) (Nat.le_of_ble_eq_true rfl) ⟨rfl, trivial⟩ ?_
  show Go _ 0 0 0 [some (.ref a)] [] _
  refine go_aload_n dX1_isPowered_0 rfl ?_
  refine go_getf dX1_isPowered_1 flX1_22 (by exact hp) rfl ?_
  refine go_if_le (tgt := 11) dX1_isPowered_4 (by decide) (fun c4 => ?_) (fun c4 => ?_)
  · refine go_iconst (v := 0) dX1_isPowered_11 (by decide) ?_
    refine go_zret dX1_isPowered_12 rfl (by first | rfl | exact zi_n) ?_ ?_ (Nat.zero_le _) (Nat.zero_le _)
    · first | rfl | exact zrt (by simp_all [-Int32.not_lt, -Int32.not_le, zle, zi_0]) | exact zrf (by simp_all [-Int32.not_lt, -Int32.not_le, zle, zi_0])
    · rfl
  · refine go_iconst (v := 1) dX1_isPowered_7 (by decide) ?_
    refine go_goto (tgt := 12) dX1_isPowered_8 (by decide) ?_
    refine go_zret dX1_isPowered_12 rfl (by first | rfl | exact zi_n) ?_ ?_ (Nat.zero_le _) (Nat.zero_le _)
    · first | rfl | exact zrt (by simp_all [-Int32.not_lt, -Int32.not_le, zle, zi_0]) | exact zrf (by simp_all [-Int32.not_lt, -Int32.not_le, zle, zi_0])
    · rfl
set_option maxRecDepth 4000 in
theorem kX1_isOverloaded (γ : zG) (l : Launch) (n : Nat) (h : zH) (a : Nat) (f : Nat → Int32) (hp : h.1 a = some (zpo f)) : Con γ l (n + 1) 0 0 MX1_isOverloaded [.ref a] h (some (.int (zi (0 < f 7 ∧ f 7 < f 5)))) h := by
  refine Con.go (by decide +kernel) (Nat.le_of_ble_eq_true rfl) ⟨rfl, trivial⟩ ?_
  show Go _ 0 0 0 [some (.ref a)] [] _
  refine go_aload_n dX1_isOverloaded_0 rfl ?_
  refine go_callVi (ci := 1) dX1_isOverloaded_1 moX1_isPowered cvX1_25 ⟨rfl, rfl⟩ (kX1_isPowered γ l _ h a f hp) (by exact hp) rfl rfl (Nat.le_refl _) (Nat.zero_le _) (Nat.zero_le _) (Nat.le_of_ble_eq_true rfl) ?_
  refine go_if_eq (tgt := 22) dX1_isOverloaded_4 (by decide) (fun c4 => ?_) (fun c4 => ?_)
  · refine go_iconst (v := 0) dX1_isOverloaded_22 (by decide) ?_
    refine go_zret dX1_isOverloaded_23 rfl (by first | rfl | exact zi_n) ?_ ?_ (Nat.zero_le _) (Nat.zero_le _)
    · first | rfl | exact zrt (by simp_all [-Int32.not_lt, -Int32.not_le, zle, zi_0]) | exact zrf (by simp_all [-Int32.not_lt, -Int32.not_le, zle, zi_0])
    · rfl
  · refine go_aload_n dX1_isOverloaded_7 rfl ?_
    refine go_getf dX1_isOverloaded_8 flX1_29 (by exact hp) rfl ?_
    refine go_aload_n dX1_isOverloaded_11 rfl ?_
    refine go_getf dX1_isOverloaded_12 flX1_22 (by exact hp) rfl ?_
    refine go_icmp_le (tgt := 22) dX1_isOverloaded_15 (by decide) (fun c15 => ?_) (fun c15 => ?_)
    · refine go_iconst (v := 0) dX1_isOverloaded_22 (by decide) ?_
      refine go_zret dX1_isOverloaded_23 rfl (by first | rfl | exact zi_n) ?_ ?_ (Nat.zero_le _) (Nat.zero_le _)
      · first | rfl | exact zrt (by simp_all [-Int32.not_lt, -Int32.not_le, zle, zi_0]) | exact zrf (by simp_all [-Int32.not_lt, -Int32.not_le, zle, zi_0])
      · rfl
    · refine go_iconst (v := 1) dX1_isOverloaded_18 (by decide) ?_
      refine go_goto (tgt := 23) dX1_isOverloaded_19 (by decide) ?_
      refine go_zret dX1_isOverloaded_23 rfl (by first | rfl | exact zi_n) ?_ ?_ (Nat.zero_le _) (Nat.zero_le _)
      · first | rfl | exact zrt (by simp_all [-Int32.not_lt, -Int32.not_le, zle, zi_0]) | exact zrf (by simp_all [-Int32.not_lt, -Int32.not_le, zle, zi_0])
      · rfl
set_option maxRecDepth 4000 in
theorem kX1_hasRequest (γ : zG) (l : Launch) (n : Nat) (h : zH) (a : Nat) (f : Nat → Int32) (hp : h.1 a = some (zpo f)) : Con γ l (n) 0 0 MX1_hasRequest [.ref a] h (some (.int (zi (¬ f 2 = 0 ∧ ¬ f 4 = -6)))) h := by
  refine Con.go (by decide +kernel) (Nat.le_of_ble_eq_true rfl) ⟨rfl, trivial⟩ ?_
  show Go _ 0 0 0 [some (.ref a)] [] _
  refine go_aload_n dX1_hasRequest_0 rfl ?_
  refine go_getf dX1_hasRequest_1 flX1_32 (by exact hp) rfl ?_
  refine go_if_eq (tgt := 20) dX1_hasRequest_4 (by decide) (fun c4 => ?_) (fun c4 => ?_)
  · refine go_iconst (v := 0) dX1_hasRequest_20 (by decide) ?_
    refine go_zret dX1_hasRequest_21 rfl (by first | rfl | exact zi_n) ?_ ?_ (Nat.zero_le _) (Nat.zero_le _)
    · first | rfl | exact zrt (by simp_all [-Int32.not_lt, -Int32.not_le, zle, zi_0]) | exact zrf (by simp_all [-Int32.not_lt, -Int32.not_le, zle, zi_0])
    · rfl
  · refine go_aload_n dX1_hasRequest_7 rfl ?_
    refine go_getf dX1_hasRequest_8 flX1_19 (by exact hp) rfl ?_
    refine go_bipush (v := (-6)) dX1_hasRequest_11 (by decide) ?_
    refine go_icmp_eq (tgt := 20) dX1_hasRequest_13 (by decide) (fun c13 => ?_) (fun c13 => ?_)
    · refine go_iconst (v := 0) dX1_hasRequest_20 (by decide) ?_
      refine go_zret dX1_hasRequest_21 rfl (by first | rfl | exact zi_n) ?_ ?_ (Nat.zero_le _) (Nat.zero_le _)
      · first | rfl | exact zrt (by simp_all [-Int32.not_lt, -Int32.not_le, zle, zi_0]) | exact zrf (by simp_all [-Int32.not_lt, -Int32.not_le, zle, zi_0])
      · rfl
    · refine go_iconst (v := 1) dX1_hasRequest_16 (by decide) ?_
      refine go_goto (tgt := 21) dX1_hasRequest_17 (by decide) ?_
      refine go_zret dX1_hasRequest_21 rfl (by first | rfl | exact zi_n) ?_ ?_ (Nat.zero_le _) (Nat.zero_le _)
      · first | rfl | exact zrt (by simp_all [-Int32.not_lt, -Int32.not_le, zle, zi_0]) | exact zrf (by simp_all [-Int32.not_lt, -Int32.not_le, zle, zi_0])
      · rfl
set_option maxRecDepth 4000 in
theorem kX1_isEligible (γ : zG) (l : Launch) (n : Nat) (h : zH) (a : Nat) (f : Nat → Int32) (hp : h.1 a = some (zpo f)) : Con γ l (n + 1) 0 0 MX1_isEligible [.ref a] h (some (.int (zi (¬ f 0 = 0 ∧ ¬ f 3 = 0 ∧ ¬ f 2 = 0 ∧ ¬ f 4 = -6)))) h := by
  refine Con.go (by decide +kernel) (Nat.le_of_ble_eq_true rfl) ⟨rfl, trivial⟩ ?_
  show Go _ 0 0 0 [some (.ref a)] [] _
  refine go_aload_n dX1_isEligible_0 rfl ?_
  refine go_getf dX1_isEligible_1 flX1_9 (by exact hp) rfl ?_
  refine go_if_eq (tgt := 25) dX1_isEligible_4 (by decide) (fun c4 => ?_) (fun c4 => ?_)
  · refine go_iconst (v := 0) dX1_isEligible_25 (by decide) ?_
    refine go_zret dX1_isEligible_26 rfl (by first | rfl | exact zi_n) ?_ ?_ (Nat.zero_le _) (Nat.zero_le _)
    · first | rfl | exact zrt (by simp_all [-Int32.not_lt, -Int32.not_le, zle, zi_0]) | exact zrf (by simp_all [-Int32.not_lt, -Int32.not_le, zle, zi_0])
    · rfl
  · refine go_aload_n dX1_isEligible_7 rfl ?_
    refine go_getf dX1_isEligible_8 flX1_35 (by exact hp) rfl ?_
    refine go_if_eq (tgt := 25) dX1_isEligible_11 (by decide) (fun c11 => ?_) (fun c11 => ?_)
    · refine go_iconst (v := 0) dX1_isEligible_25 (by decide) ?_
      refine go_zret dX1_isEligible_26 rfl (by first | rfl | exact zi_n) ?_ ?_ (Nat.zero_le _) (Nat.zero_le _)
      · first | rfl | exact zrt (by simp_all [-Int32.not_lt, -Int32.not_le, zle, zi_0]) | exact zrf (by simp_all [-Int32.not_lt, -Int32.not_le, zle, zi_0])
      · rfl
    · refine go_aload_n dX1_isEligible_14 rfl ?_
      refine go_callVi (ci := 1) dX1_isEligible_15 moX1_hasRequest cvX1_38 ⟨rfl, rfl⟩ (kX1_hasRequest γ l _ h a f hp) (by exact hp) rfl rfl (Nat.le_refl _) (Nat.zero_le _) (Nat.zero_le _) (Nat.le_of_ble_eq_true rfl) ?_
      refine go_if_eq (tgt := 25) dX1_isEligible_18 (by decide) (fun c18 => ?_) (fun c18 => ?_)
      · refine go_iconst (v := 0) dX1_isEligible_25 (by decide) ?_
        refine go_zret dX1_isEligible_26 rfl (by first | rfl | exact zi_n) ?_ ?_ (Nat.zero_le _) (Nat.zero_le _)
        · first | rfl | exact zrt (by simp_all [-Int32.not_lt, -Int32.not_le, zle, zi_0]) | exact zrf (by simp_all [-Int32.not_lt, -Int32.not_le, zle, zi_0])
        · rfl
      · refine go_iconst (v := 1) dX1_isEligible_21 (by decide) ?_
        refine go_goto (tgt := 26) dX1_isEligible_22 (by decide) ?_
        refine go_zret dX1_isEligible_26 rfl (by first | rfl | exact zi_n) ?_ ?_ (Nat.zero_le _) (Nat.zero_le _)
        · first | rfl | exact zrt (by simp_all [-Int32.not_lt, -Int32.not_le, zle, zi_0]) | exact zrf (by simp_all [-Int32.not_lt, -Int32.not_le, zle, zi_0])
        · rfl
set_option maxRecDepth 4000 in
theorem kX1_canPowerUp (γ : zG) (l : Launch) (n : Nat) (h : zH) (a : Nat) (f : Nat → Int32) (hp : h.1 a = some (zpo f)) (x : Int32) : Con γ l (n + 2) 0 0 MX1_canPowerUp [.ref a, .int x] h (some (.int (zi ((¬ f 0 = 0 ∧ ¬ f 3 = 0 ∧ ¬ f 2 = 0 ∧ ¬ f 4 = -6) ∧ ¬ 0 < f 7 ∧ f 9 = 0 ∧ f 6 ≤ x)))) h := by
  refine Con.go (by decide +kernel) (Nat.le_of_ble_eq_true rfl) ⟨rfl, rfl, trivial⟩ ?_
  show Go _ 0 0 0 [some (.ref a), some (.int x)] [] _
  refine go_aload_n dX1_canPowerUp_0 rfl ?_
  refine go_callVi (ci := 1) dX1_canPowerUp_1 moX1_isEligible cvX1_41 ⟨rfl, rfl⟩ (kX1_isEligible γ l _ h a f hp) (by exact hp) rfl rfl (Nat.le_refl _) (Nat.zero_le _) (Nat.zero_le _) (Nat.le_of_ble_eq_true rfl) ?_
  refine go_if_eq (tgt := 33) dX1_canPowerUp_4 (by decide) (fun c4 => ?_) (fun c4 => ?_)
  · refine go_iconst (v := 0) dX1_canPowerUp_33 (by decide) ?_
    refine go_zret dX1_canPowerUp_34 rfl (by first | rfl | exact zi_n) ?_ ?_ (Nat.zero_le _) (Nat.zero_le _)
    · first | rfl | exact zrt (by simp_all [-Int32.not_lt, -Int32.not_le, zle, zi_0]) | exact zrf (by simp_all [-Int32.not_lt, -Int32.not_le, zle, zi_0])
    · rfl
  · refine go_aload_n dX1_canPowerUp_7 rfl ?_
    refine go_callVi (ci := 1) dX1_canPowerUp_8 moX1_isPowered cvX1_25 ⟨rfl, rfl⟩ (kX1_isPowered γ l _ h a f hp) (by exact hp) rfl rfl (Nat.le_refl _) (Nat.zero_le _) (Nat.zero_le _) (Nat.le_of_ble_eq_true rfl) ?_
    refine go_if_ne (tgt := 33) dX1_canPowerUp_11 (by decide) (fun c11 => ?_) (fun c11 => ?_)
    · refine go_iconst (v := 0) dX1_canPowerUp_33 (by decide) ?_
      refine go_zret dX1_canPowerUp_34 rfl (by first | rfl | exact zi_n) ?_ ?_ (Nat.zero_le _) (Nat.zero_le _)
      · first | rfl | exact zrt (by simp_all [-Int32.not_lt, -Int32.not_le, zle, zi_0]) | exact zrf (by simp_all [-Int32.not_lt, -Int32.not_le, zle, zi_0])
      · rfl
    · refine go_aload_n dX1_canPowerUp_14 rfl ?_
      refine go_getf dX1_canPowerUp_15 flX1_44 (by exact hp) rfl ?_
      refine go_if_ne (tgt := 33) dX1_canPowerUp_18 (by decide) (fun c18 => ?_) (fun c18 => ?_)
      · refine go_iconst (v := 0) dX1_canPowerUp_33 (by decide) ?_
        refine go_zret dX1_canPowerUp_34 rfl (by first | rfl | exact zi_n) ?_ ?_ (Nat.zero_le _) (Nat.zero_le _)
        · first | rfl | exact zrt (by simp_all [-Int32.not_lt, -Int32.not_le, zle, zi_0]) | exact zrf (by simp_all [-Int32.not_lt, -Int32.not_le, zle, zi_0])
        · rfl
      · refine go_aload_n dX1_canPowerUp_21 rfl ?_
        refine go_getf dX1_canPowerUp_22 flX1_47 (by exact hp) rfl ?_
        refine go_iload_n dX1_canPowerUp_25 rfl ?_
        refine go_icmp_gt (tgt := 33) dX1_canPowerUp_26 (by decide) (fun c26 => ?_) (fun c26 => ?_)
        · refine go_iconst (v := 0) dX1_canPowerUp_33 (by decide) ?_
          refine go_zret dX1_canPowerUp_34 rfl (by first | rfl | exact zi_n) ?_ ?_ (Nat.zero_le _) (Nat.zero_le _)
          · first | rfl | exact zrt (by simp_all [-Int32.not_lt, -Int32.not_le, zle, zi_0]) | exact zrf (by simp_all [-Int32.not_lt, -Int32.not_le, zle, zi_0])
          · rfl
        · refine go_iconst (v := 1) dX1_canPowerUp_29 (by decide) ?_
          refine go_goto (tgt := 34) dX1_canPowerUp_30 (by decide) ?_
          refine go_zret dX1_canPowerUp_34 rfl (by first | rfl | exact zi_n) ?_ ?_ (Nat.zero_le _) (Nat.zero_le _)
          · first | rfl | exact zrt (by simp_all [-Int32.not_lt, -Int32.not_le, zle, zi_0]) | exact zrf (by simp_all [-Int32.not_lt, -Int32.not_le, zle, zi_0])
          · rfl
set_option maxRecDepth 4000 in
theorem kX1_losePower (γ : zG) (l : Launch) (n : Nat) (h : zH) (a : Nat) (f : Nat → Int32) (hp : h.1 a = some (zpo f)) : Con γ l (n) 0 0 MX1_losePower [.ref a] h none (zu h a (zpo (upd (upd f 7 0) 8 0))) := by
  refine Con.go (by decide +kernel) (Nat.le_of_ble_eq_true rfl) ⟨rfl, trivial⟩ ?_
  show Go _ 0 0 0 [some (.ref a)] [] _
  refine go_aload_n dX1_losePower_0 rfl ?_
  refine go_iconst (v := 0) dX1_losePower_1 (by decide) ?_
  refine go_putf dX1_losePower_2 flX1_22 fnX1_7 (by first | exact zu_s _ _ _ | exact hp) rfl rfl (Nat.le_of_ble_eq_true rfl) ?_
  refine go_aload_n dX1_losePower_5 rfl ?_
  refine go_iconst (v := 0) dX1_losePower_6 (by decide) ?_
  refine go_putf dX1_losePower_7 flX1_50 fnX1_8 (by first | exact zu_s _ _ _ | exact hp) rfl rfl (Nat.le_of_ble_eq_true rfl) ?_
  refine go_vret dX1_losePower_10 rfl rfl ?_ (Nat.zero_le _) (Nat.zero_le _)
  · simp only [zu_zu]; rfl
set_option maxRecDepth 4000 in
theorem kX1_reset (γ : zG) (l : Launch) (n : Nat) (h : zH) (a : Nat) (f : Nat → Int32) (hp : h.1 a = some (zpo f)) : Con γ l (n + 1) 0 0 MX1_reset [.ref a] h none (zu h a (zpo (upd (upd (upd f 7 0) 8 0) 9 0))) := by
  refine Con.go (by decide +kernel) (Nat.le_of_ble_eq_true rfl) ⟨rfl, trivial⟩ ?_
  show Go _ 0 0 0 [some (.ref a)] [] _
  refine go_aload_n dX1_reset_0 rfl ?_
  refine go_callVv (ci := 1) dX1_reset_1 moX1_losePower cvX1_53 ⟨rfl, rfl⟩ (kX1_losePower γ l _ h a f hp) (by exact hp) rfl rfl (Nat.le_refl _) (Nat.zero_le _) (Nat.zero_le _) (Nat.le_of_ble_eq_true rfl) ?_
  refine go_aload_n dX1_reset_4 rfl ?_
  refine go_iconst (v := 0) dX1_reset_5 (by decide) ?_
  refine go_putf dX1_reset_6 flX1_44 fnX1_9 (by exact zu_s _ _ _) rfl rfl (Nat.le_of_ble_eq_true rfl) ?_
  refine go_vret dX1_reset_9 rfl rfl ?_ (Nat.zero_le _) (Nat.zero_le _)
  · simp only [zu_zu]; rfl
set_option maxRecDepth 4000 in
theorem kX1_init (γ : zG) (l : Launch) (n : Nat) (h : zH) (a : Nat) (f : Nat → Int32) (hp : h.1 a = some (zpo f)) : Con γ l (n + 1) 0 0 MX1_init [.ref a] h none (zu h a (zpo (upd (upd (upd f 0 1) 1 2) 4 (-6)))) := by
  refine Con.go (by decide +kernel) (Nat.le_of_ble_eq_true rfl) ⟨rfl, trivial⟩ ?_
  show Go _ 0 0 0 [some (.ref a)] [] _
  refine go_aload_n dX1_init_0 rfl ?_
  refine go_objInit dX1_init_1 oiX1_3 (by show 1 ≤ _ + 1; omega) ?_
  refine go_aload_n dX1_init_4 rfl ?_
  refine go_iconst (v := 1) dX1_init_5 (by decide) ?_
  refine go_putf dX1_init_6 flX1_9 fnX1_0 (by first | exact zu_s _ _ _ | exact hp) (znb (by first | exact Or.inl rfl | exact Or.inr rfl | exact zi_B)) (zfb (by first | exact Or.inl rfl | exact Or.inr rfl | exact zi_B)) (Nat.le_of_ble_eq_true rfl) ?_
  refine go_aload_n dX1_init_9 rfl ?_
  refine go_iconst (v := 2) dX1_init_10 (by decide) ?_
  refine go_putf dX1_init_11 flX1_15 fnX1_1 (by first | exact zu_s _ _ _ | exact hp) rfl rfl (Nat.le_of_ble_eq_true rfl) ?_
  refine go_aload_n dX1_init_14 rfl ?_
  refine go_bipush (v := (-6)) dX1_init_15 (by decide) ?_
  refine go_putf dX1_init_17 flX1_19 fnX1_4 (by first | exact zu_s _ _ _ | exact hp) rfl rfl (Nat.le_of_ble_eq_true rfl) ?_
  refine go_vret dX1_init_20 rfl rfl ?_ (Nat.zero_le _) (Nat.zero_le _)
  · simp only [zu_zu]; rfl
set_option maxRecDepth 4000 in
theorem kX1_copyFrom (γ : zG) (l : Launch) (n : Nat) (h : zH) (a : Nat) (f : Nat → Int32) (hp : h.1 a = some (zpo f)) (b : Nat) (g : Nat → Int32) (hq : h.1 b = some (zpo g)) (hne : b ≠ a) (hb : zbo g) : Con γ l (n) 0 0 MX1_copyFrom [.ref a, .ref b] h none (zu h a (zpo g)) := by
  refine Con.go (by decide +kernel) (Nat.le_of_ble_eq_true rfl) ⟨rfl, rfl, trivial⟩ ?_
  show Go _ 0 0 0 [some (.ref a), some (.ref b)] [] _
  refine go_aload_n dX1_copyFrom_0 rfl ?_
  refine go_aload_n dX1_copyFrom_1 rfl ?_
  refine go_getf dX1_copyFrom_2 flX1_9 (by first | exact hq | exact zu_s _ _ _ | exact hp | ((repeat refine (zu_n hne).trans ?_); exact hq)) rfl ?_
  refine go_putf dX1_copyFrom_5 flX1_9 fnX1_0 (by first | exact hq | exact zu_s _ _ _ | exact hp | ((repeat refine (zu_n hne).trans ?_); exact hq)) (znb (by first | exact hb.1 | exact hb.2.1 | exact hb.2.2)) (zfb (by first | exact hb.1 | exact hb.2.1 | exact hb.2.2)) (Nat.le_of_ble_eq_true rfl) ?_
  refine go_aload_n dX1_copyFrom_8 rfl ?_
  refine go_aload_n dX1_copyFrom_9 rfl ?_
  refine go_getf dX1_copyFrom_10 flX1_15 (by first | exact hq | exact zu_s _ _ _ | exact hp | ((repeat refine (zu_n hne).trans ?_); exact hq)) rfl ?_
  refine go_putf dX1_copyFrom_13 flX1_15 fnX1_1 (by first | exact hq | exact zu_s _ _ _ | exact hp | ((repeat refine (zu_n hne).trans ?_); exact hq)) rfl rfl (Nat.le_of_ble_eq_true rfl) ?_
  refine go_aload_n dX1_copyFrom_16 rfl ?_
  refine go_aload_n dX1_copyFrom_17 rfl ?_
  refine go_getf dX1_copyFrom_18 flX1_32 (by first | exact hq | exact zu_s _ _ _ | exact hp | ((repeat refine (zu_n hne).trans ?_); exact hq)) rfl ?_
  refine go_putf dX1_copyFrom_21 flX1_32 fnX1_2 (by first | exact hq | exact zu_s _ _ _ | exact hp | ((repeat refine (zu_n hne).trans ?_); exact hq)) (znb (by first | exact hb.1 | exact hb.2.1 | exact hb.2.2)) (zfb (by first | exact hb.1 | exact hb.2.1 | exact hb.2.2)) (Nat.le_of_ble_eq_true rfl) ?_
  refine go_aload_n dX1_copyFrom_24 rfl ?_
  refine go_aload_n dX1_copyFrom_25 rfl ?_
  refine go_getf dX1_copyFrom_26 flX1_35 (by first | exact hq | exact zu_s _ _ _ | exact hp | ((repeat refine (zu_n hne).trans ?_); exact hq)) rfl ?_
  refine go_putf dX1_copyFrom_29 flX1_35 fnX1_3 (by first | exact hq | exact zu_s _ _ _ | exact hp | ((repeat refine (zu_n hne).trans ?_); exact hq)) (znb (by first | exact hb.1 | exact hb.2.1 | exact hb.2.2)) (zfb (by first | exact hb.1 | exact hb.2.1 | exact hb.2.2)) (Nat.le_of_ble_eq_true rfl) ?_
  refine go_aload_n dX1_copyFrom_32 rfl ?_
  refine go_aload_n dX1_copyFrom_33 rfl ?_
  refine go_getf dX1_copyFrom_34 flX1_19 (by first | exact hq | exact zu_s _ _ _ | exact hp | ((repeat refine (zu_n hne).trans ?_); exact hq)) rfl ?_
  refine go_putf dX1_copyFrom_37 flX1_19 fnX1_4 (by first | exact hq | exact zu_s _ _ _ | exact hp | ((repeat refine (zu_n hne).trans ?_); exact hq)) rfl rfl (Nat.le_of_ble_eq_true rfl) ?_
  refine go_aload_n dX1_copyFrom_40 rfl ?_
  refine go_aload_n dX1_copyFrom_41 rfl ?_
  refine go_getf dX1_copyFrom_42 flX1_29 (by first | exact hq | exact zu_s _ _ _ | exact hp | ((repeat refine (zu_n hne).trans ?_); exact hq)) rfl ?_
  refine go_putf dX1_copyFrom_45 flX1_29 fnX1_5 (by first | exact hq | exact zu_s _ _ _ | exact hp | ((repeat refine (zu_n hne).trans ?_); exact hq)) rfl rfl (Nat.le_of_ble_eq_true rfl) ?_
  refine go_aload_n dX1_copyFrom_48 rfl ?_
  refine go_aload_n dX1_copyFrom_49 rfl ?_
  refine go_getf dX1_copyFrom_50 flX1_47 (by first | exact hq | exact zu_s _ _ _ | exact hp | ((repeat refine (zu_n hne).trans ?_); exact hq)) rfl ?_
  refine go_putf dX1_copyFrom_53 flX1_47 fnX1_6 (by first | exact hq | exact zu_s _ _ _ | exact hp | ((repeat refine (zu_n hne).trans ?_); exact hq)) rfl rfl (Nat.le_of_ble_eq_true rfl) ?_
  refine go_aload_n dX1_copyFrom_56 rfl ?_
  refine go_aload_n dX1_copyFrom_57 rfl ?_
  refine go_getf dX1_copyFrom_58 flX1_22 (by first | exact hq | exact zu_s _ _ _ | exact hp | ((repeat refine (zu_n hne).trans ?_); exact hq)) rfl ?_
  refine go_putf dX1_copyFrom_61 flX1_22 fnX1_7 (by first | exact hq | exact zu_s _ _ _ | exact hp | ((repeat refine (zu_n hne).trans ?_); exact hq)) rfl rfl (Nat.le_of_ble_eq_true rfl) ?_
  refine go_aload_n dX1_copyFrom_64 rfl ?_
  refine go_aload_n dX1_copyFrom_65 rfl ?_
  refine go_getf dX1_copyFrom_66 flX1_50 (by first | exact hq | exact zu_s _ _ _ | exact hp | ((repeat refine (zu_n hne).trans ?_); exact hq)) rfl ?_
  refine go_putf dX1_copyFrom_69 flX1_50 fnX1_8 (by first | exact hq | exact zu_s _ _ _ | exact hp | ((repeat refine (zu_n hne).trans ?_); exact hq)) rfl rfl (Nat.le_of_ble_eq_true rfl) ?_
  refine go_aload_n dX1_copyFrom_72 rfl ?_
  refine go_aload_n dX1_copyFrom_73 rfl ?_
  refine go_getf dX1_copyFrom_74 flX1_44 (by first | exact hq | exact zu_s _ _ _ | exact hp | ((repeat refine (zu_n hne).trans ?_); exact hq)) rfl ?_
  refine go_putf dX1_copyFrom_77 flX1_44 fnX1_9 (by first | exact hq | exact zu_s _ _ _ | exact hp | ((repeat refine (zu_n hne).trans ?_); exact hq)) rfl rfl (Nat.le_of_ble_eq_true rfl) ?_
  refine go_vret dX1_copyFrom_80 rfl rfl ?_ (Nat.zero_le _) (Nat.zero_le _)
  · simp only [zu_zu]; rfl
end
section
/-! EventLog -/
def upR (L : Nat → Nat → Int32) (c : Nat) (f : Nat → Int32) : Nat → Nat → Int32 := fun c' => if c' = c then f else L c'
def up2 (L : Nat → Nat → Int32) (c i : Nat) (v : Int32) : Nat → Nat → Int32 := upR L c (upd (L c) i v)
def zlo (γ : zG) (b : Nat) (L : Nat → Nat → Int32) : Nat → va_E := fun k => match k with
  | 0 => .inr (0, [.ref (b + 1), .ref (b + 2), .ref (b + 3), .int (L 3 0), .int (L 3 1)])
  | 1 => zai γ 16 (L 0)
  | 2 => zai γ 16 (L 1)
  | _ => zai γ 16 (L 2)
theorem zlt4 {k : Nat} (h : k < 4) : k = 0 ∨ k = 1 ∨ k = 2 ∨ k = 3 := by omega
theorem zlo_0 {γ : zG} {h : zH} {b : Nat} {L : Nat → Nat → Int32} {f : Nat → Int32} (hs : zIs h b 4 (zlo γ b L)) : zu h (b + 1) (zai γ 16 f) = zput h b 4 (zlo γ b (upR L 0 f)) :=
  zu_zput hs (k := 1) (by decide) rfl (fun j hj hn => by rcases zlt4 hj with h | h | h | h <;> subst h <;> first | rfl | exact absurd rfl hn) rfl
theorem zlo_1 {γ : zG} {h : zH} {b : Nat} {L : Nat → Nat → Int32} {f : Nat → Int32} (hs : zIs h b 4 (zlo γ b L)) : zu h (b + 2) (zai γ 16 f) = zput h b 4 (zlo γ b (upR L 1 f)) :=
  zu_zput hs (k := 2) (by decide) rfl (fun j hj hn => by rcases zlt4 hj with h | h | h | h <;> subst h <;> first | rfl | exact absurd rfl hn) rfl
theorem zlo_2 {γ : zG} {h : zH} {b : Nat} {L : Nat → Nat → Int32} {f : Nat → Int32} (hs : zIs h b 4 (zlo γ b L)) : zu h (b + 3) (zai γ 16 f) = zput h b 4 (zlo γ b (upR L 2 f)) :=
  zu_zput hs (k := 3) (by decide) rfl (fun j hj hn => by rcases zlt4 hj with h | h | h | h <;> subst h <;> first | rfl | exact absurd rfl hn) rfl
theorem zlo_3 {γ : zG} {h : zH} {b : Nat} {L : Nat → Nat → Int32} {x y : Int32} (hs : zIs h b 4 (zlo γ b L)) : zu h b (.inr (0, [.ref (b + 1), .ref (b + 2), .ref (b + 3), .int x, .int y])) = zput h b 4 (zlo γ b (up2 (up2 L 3 0 x) 3 1 y)) :=
  zu_zput hs (k := 0) (by decide) rfl (fun j hj hn => by rcases zlt4 hj with h | h | h | h <;> subst h <;> first | rfl | exact absurd rfl hn) rfl
/-- the log's oldest place and its count are small -/
def lOk (L : Nat → Nat → Int32) (o c : Nat) : Prop := o < 16 ∧ c ≤ 16 ∧ L 3 0 = nI o ∧ L 3 1 = nI c
def lPut (L : Nat → Nat → Int32) (p : Nat) (t q k : Int32) : Nat → Nat → Int32 := up2 (up2 (up2 L 0 p t) 1 p q) 2 p k
def lAdd (L : Nat → Nat → Int32) (o c : Nat) (t q k : Int32) : Nat → Nat → Int32 := if c < 16 then up2 (lPut L ((o + c) % 16) t q k) 3 1 (nI (c + 1)) else up2 (lPut L ((o + c) % 16) t q k) 3 0 (nI ((o + 1) % 16))
def lCpy (L K : Nat → Nat → Int32) : Nat → Nat → Int32 := fun c => match c with
  | 0 => va_cpy (K 0) (L 0) 0 0 16
  | 1 => va_cpy (K 1) (L 1) 0 0 16
  | 2 => va_cpy (K 2) (L 2) 0 0 16
  | _ => upd (upd (L 3) 0 (K 3 0)) 1 (K 3 1)
set_option maxRecDepth 4000 in
theorem kX0_holds (γ : zG) (l : Launch) (n : Nat) (h : zH) (b : Nat) (L : Nat → Nat → Int32) (hs : zIs h b 4 (zlo γ b L)) (i : Int32) : Con γ l (n) 0 0 MX0_holds [.ref b, .int i] h (some (.int (zi (0 ≤ i ∧ i < L 3 1)))) h := by
  refine Con.go (by decide +kernel) (Nat.le_of_ble_eq_true rfl) ⟨rfl, rfl, trivial⟩ ?_
  show Go _ 0 0 0 [some (.ref b), some (.int i)] [] _
  refine go_iload_n dX0_holds_0 rfl ?_
  refine go_if_lt (tgt := 16) dX0_holds_1 (by decide) (fun c1 => ?_) (fun c1 => ?_)
  · refine go_iconst (v := 0) dX0_holds_16 (by decide) ?_
    refine go_zret dX0_holds_17 rfl (by first | rfl | exact zi_n) ?_ ?_ (Nat.zero_le _) (Nat.zero_le _)
    · first | rfl | exact zrt (by simp_all [-Int32.not_lt, -Int32.not_le, zle, zi_0]) | exact zrf (by simp_all [-Int32.not_lt, -Int32.not_le, zle, zi_0])
    · rfl
  · refine go_iload_n dX0_holds_4 rfl ?_
    refine go_aload_n dX0_holds_5 rfl ?_
    refine go_getf dX0_holds_6 flX0_21 (by exact hs 0 (by decide)) rfl ?_
    refine go_icmp_ge (tgt := 16) dX0_holds_9 (by decide) (fun c9 => ?_) (fun c9 => ?_)
    · refine go_iconst (v := 0) dX0_holds_16 (by decide) ?_
      refine go_zret dX0_holds_17 rfl (by first | rfl | exact zi_n) ?_ ?_ (Nat.zero_le _) (Nat.zero_le _)
      · first | rfl | exact zrt (by simp_all [-Int32.not_lt, -Int32.not_le, zle, zi_0]) | exact zrf (by simp_all [-Int32.not_lt, -Int32.not_le, zle, zi_0])
      · rfl
    · refine go_iconst (v := 1) dX0_holds_12 (by decide) ?_
      refine go_goto (tgt := 17) dX0_holds_13 (by decide) ?_
      refine go_zret dX0_holds_17 rfl (by first | rfl | exact zi_n) ?_ ?_ (Nat.zero_le _) (Nat.zero_le _)
      · first | rfl | exact zrt (by simp_all [-Int32.not_lt, -Int32.not_le, zle, zi_0]) | exact zrf (by simp_all [-Int32.not_lt, -Int32.not_le, zle, zi_0])
      · rfl
set_option maxRecDepth 4000 in
theorem kX0_placeOf (γ : zG) (l : Launch) (n : Nat) (h : zH) (b : Nat) (L : Nat → Nat → Int32) (hs : zIs h b 4 (zlo γ b L)) (i : Int32) (j : Nat) (hj : L 3 0 + i = nI j) (hlt : j < 2 ^ 31) : Con γ l (n) 0 0 MX0_placeOf [.ref b, .int i] h (some (.int (nI (j % 16)))) h := by
  refine Con.go (by decide +kernel) (Nat.le_of_ble_eq_true rfl) ⟨rfl, rfl, trivial⟩ ?_
  show Go _ 0 0 0 [some (.ref b), some (.int i)] [] _
  refine go_aload_n dX0_placeOf_0 rfl ?_
  refine go_getf dX0_placeOf_1 flX0_25 (by exact hs 0 (by decide)) rfl ?_
  refine go_iload_n dX0_placeOf_4 rfl ?_
  refine go_iadd dX0_placeOf_5 ?_
  refine go_bipush (v := 16) dX0_placeOf_6 (by decide) ?_
  refine go_irem dX0_placeOf_8 (by decide) ?_
  refine go_iret dX0_placeOf_9 rfl ?_ ?_ (Nat.zero_le _) (Nat.zero_le _)
  · rw [hj, zrem_n hlt]
  · rfl
theorem nI16 {c : Nat} (hc : c ≤ 16) : ((16 : Int32) ≤ nI c) ↔ c = 16 := by
  have h1 : (16 : Int32) = nI 16 := rfl
  rw [h1, nI_leI (by decide) (by omega)]
  omega
set_option maxRecDepth 4000 in
theorem kX0_add (γ : zG) (l : Launch) (n : Nat) (h : zH) (b : Nat) (L : Nat → Nat → Int32) (hs : zIs h b 4 (zlo γ b L)) (o c : Nat) (hok : lOk L o c) (t q k : Int32) : Con γ l (n + 1) 0 0 MX0_add [.ref b, .int t, .int q, .int k] h none (zput h b 4 (zlo γ b (lAdd L o c t q k))) := by
  refine Con.go (by decide +kernel) (Nat.le_of_ble_eq_true rfl) ⟨rfl, rfl, rfl, rfl, trivial⟩ ?_
  show Go _ 0 0 0 [some (.ref b), some (.int t), some (.int q), some (.int k), none] [] _
  have hpl : (o + c) % 16 < 16 := Nat.mod_lt _ (by decide)
  have ho := hok.1
  have hc := hok.2.1
  refine go_aload_n dX0_add_0 rfl ?_
  refine go_aload_n dX0_add_1 rfl ?_
  refine go_getf dX0_add_2 flX0_21 (by first | exact hs 0 (by decide) | exact hs 1 (by decide) | exact hs 2 (by decide) | exact hs 3 (by decide)) rfl ?_
  refine go_callVi (ci := 0) dX0_add_5 moX0_placeOf cvX0_28 ⟨rfl, rfl⟩ (kX0_placeOf γ l _ h b L hs (L 3 1) (o + c) (by rw [hok.2.2.1, hok.2.2.2, nI_add]) (by omega)) (by first | exact hs 0 (by decide) | exact hs 1 (by decide) | exact hs 2 (by decide) | exact hs 3 (by decide)) rfl rfl (Nat.le_refl _) (Nat.zero_le _) (Nat.zero_le _) (Nat.le_of_ble_eq_true rfl) ?_
  refine go_istore dX0_add_8 (Nat.le_of_ble_eq_true rfl) ?_
  refine go_aload_n dX0_add_10 rfl ?_
  refine go_getf dX0_add_11 flX0_9 (by first | exact hs 0 (by decide) | exact hs 1 (by decide) | exact hs 2 (by decide) | exact hs 3 (by decide)) rfl ?_
  refine go_iload dX0_add_14 rfl ?_
  refine go_iload_n dX0_add_16 rfl ?_
  refine go_iast dX0_add_17 (by first | exact hs 0 (by decide) | exact hs 1 (by decide) | exact hs 2 (by decide) | exact hs 3 (by decide)) (zix rfl hpl (by decide)).1 (zix rfl hpl (by decide)).2 ?_
  refine go_h (zlo_0 hs) ?_
  have hs := zput_is h b 4 (zlo γ b (upR L 0 (upd (L 0) ((o + c) % 16) t)))
  refine go_aload_n dX0_add_18 rfl ?_
  refine go_getf dX0_add_19 flX0_15 (by first | exact hs 0 (by decide) | exact hs 1 (by decide) | exact hs 2 (by decide) | exact hs 3 (by decide)) rfl ?_
  refine go_iload dX0_add_22 rfl ?_
  refine go_iload_n dX0_add_24 rfl ?_
  refine go_iast dX0_add_25 (by first | exact hs 0 (by decide) | exact hs 1 (by decide) | exact hs 2 (by decide) | exact hs 3 (by decide)) (zix rfl hpl (by decide)).1 (zix rfl hpl (by decide)).2 ?_
  refine go_h ((zlo_1 hs).trans (zput_zput _ _ _ _ _)) ?_
  have hs := zput_is h b 4 (zlo γ b (upR (upR L 0 (upd (L 0) ((o + c) % 16) t)) 1 (upd (L 1) ((o + c) % 16) q)))
  refine go_aload_n dX0_add_26 rfl ?_
  refine go_getf dX0_add_27 flX0_18 (by first | exact hs 0 (by decide) | exact hs 1 (by decide) | exact hs 2 (by decide) | exact hs 3 (by decide)) rfl ?_
  refine go_iload dX0_add_30 rfl ?_
  refine go_iload_n dX0_add_32 rfl ?_
  refine go_iast dX0_add_33 (by first | exact hs 0 (by decide) | exact hs 1 (by decide) | exact hs 2 (by decide) | exact hs 3 (by decide)) (zix rfl hpl (by decide)).1 (zix rfl hpl (by decide)).2 ?_
  refine go_h ((zlo_2 hs).trans (zput_zput _ _ _ _ _)) ?_
  have hs := zput_is h b 4 (zlo γ b (lPut L ((o + c) % 16) t q k))
  refine go_aload_n dX0_add_34 rfl ?_
  refine go_getf dX0_add_35 flX0_21 (by first | exact hs 0 (by decide) | exact hs 1 (by decide) | exact hs 2 (by decide) | exact hs 3 (by decide)) rfl ?_
  refine go_bipush (v := 16) dX0_add_38 (by decide) ?_
  refine go_icmp_ge (tgt := 56) dX0_add_40 (by decide) (fun c40 => ?_) (fun c40 => ?_)
  · refine go_aload_n dX0_add_56 rfl ?_
    refine go_aload_n dX0_add_57 rfl ?_
    refine go_iconst (v := 1) dX0_add_58 (by decide) ?_
    refine go_callVi (ci := 0) dX0_add_59 moX0_placeOf cvX0_28 ⟨rfl, rfl⟩ (kX0_placeOf γ l _ _ b _ hs 1 (o + 1) (by show L 3 0 + 1 = _; rw [hok.2.2.1]; exact nI_1 o) (by omega)) (by first | exact hs 0 (by decide) | exact hs 1 (by decide) | exact hs 2 (by decide) | exact hs 3 (by decide)) rfl rfl (Nat.le_refl _) (Nat.zero_le _) (Nat.zero_le _) (Nat.le_of_ble_eq_true rfl) ?_
    refine go_putf dX0_add_62 flX0_25 fnX0_3 (by first | exact hs 0 (by decide) | exact hs 1 (by decide) | exact hs 2 (by decide) | exact hs 3 (by decide)) rfl rfl (Nat.le_of_ble_eq_true rfl) ?_
    refine go_vret dX0_add_65 rfl rfl ?_ (Nat.zero_le _) (Nat.zero_le _)
    · have c40 : (16 : Int32) ≤ L 3 1 := c40
      rw [lAdd, if_neg (by have := (nI16 hok.2.1).mp (by rw [← hok.2.2.2]; exact c40); omega)]
      refine Eq.symm ((zlo_3 hs).trans ((zput_zput _ _ _ _ _).trans (zput_congr (fun j hj => ?_))))
      rcases zlt4 hj with h | h | h | h <;> subst h <;> first | rfl | (simp [zlo, up2, upR, upd, lPut]; done)
  · refine go_aload_n dX0_add_43 rfl ?_
    refine go_dup dX0_add_44 rfl ?_
    refine go_getf dX0_add_45 flX0_21 (by first | exact hs 0 (by decide) | exact hs 1 (by decide) | exact hs 2 (by decide) | exact hs 3 (by decide)) rfl ?_
    refine go_iconst (v := 1) dX0_add_48 (by decide) ?_
    refine go_iadd dX0_add_49 ?_
    refine go_putf dX0_add_50 flX0_21 fnX0_4 (by first | exact hs 0 (by decide) | exact hs 1 (by decide) | exact hs 2 (by decide) | exact hs 3 (by decide)) rfl rfl (Nat.le_of_ble_eq_true rfl) ?_
    refine go_goto (tgt := 65) dX0_add_53 (by decide) ?_
    refine go_vret dX0_add_65 rfl rfl ?_ (Nat.zero_le _) (Nat.zero_le _)
    · have c40 : ¬ (16 : Int32) ≤ L 3 1 := c40
      rw [lAdd, if_pos (by have hne : ¬ c = 16 := fun e => c40 (by rw [hok.2.2.2]; exact (nI16 hok.2.1).mpr e); omega)]
      refine Eq.symm ((zlo_3 hs).trans ((zput_zput _ _ _ _ _).trans (zput_congr (fun j hj => ?_))))
      rcases zlt4 hj with h | h | h | h <;> subst h <;> first | rfl | (simp [zlo, up2, upR, upd, lPut, hok.2.2.2, nI_1]; done)
set_option maxRecDepth 4000 in
theorem kX0_copyFrom (γ : zG) (l : Launch) (n : Nat) (h : zH) (b : Nat) (L : Nat → Nat → Int32) (hs : zIs h b 4 (zlo γ b L)) (b2 : Nat) (K : Nat → Nat → Int32) (ht0 : zIs h b2 4 (zlo γ b2 K)) (hd : b2 + 4 ≤ b ∨ b + 4 ≤ b2) : Con γ l (n + 1) 0 0 MX0_copyFrom [.ref b, .ref b2] h none (zput h b 4 (zlo γ b (lCpy L K))) := by
  refine Con.go (by decide +kernel) (Nat.le_of_ble_eq_true rfl) ⟨rfl, rfl, trivial⟩ ?_
  show Go _ 0 0 0 [some (.ref b), some (.ref b2)] [] _
  have ht := ht0
  refine go_aload_n dX0_copyFrom_0 rfl ?_
  refine go_getf dX0_copyFrom_1 flX0_9 (by first | exact hs 0 (by decide) | exact hs 1 (by decide) | exact hs 2 (by decide) | exact hs 3 (by decide) | exact ht 0 (by decide) | exact ht 1 (by decide) | exact ht 2 (by decide) | exact ht 3 (by decide)) rfl ?_
  refine go_iconst (v := 0) dX0_copyFrom_4 (by decide) ?_
  refine go_aload_n dX0_copyFrom_5 rfl ?_
  refine go_getf dX0_copyFrom_6 flX0_9 (by first | exact hs 0 (by decide) | exact hs 1 (by decide) | exact hs 2 (by decide) | exact hs 3 (by decide) | exact ht 0 (by decide) | exact ht 1 (by decide) | exact ht 2 (by decide) | exact ht 3 (by decide)) rfl ?_
  refine go_iconst (v := 0) dX0_copyFrom_9 (by decide) ?_
  refine go_bipush (v := 16) dX0_copyFrom_10 (by decide) ?_
  refine go_copyi dX0_copyFrom_12 acX0_32 (by first | exact hs 0 (by decide) | exact hs 1 (by decide) | exact hs 2 (by decide) | exact hs 3 (by decide) | exact ht 0 (by decide) | exact ht 1 (by decide) | exact ht 2 (by decide) | exact ht 3 (by decide)) (by first | exact hs 0 (by decide) | exact hs 1 (by decide) | exact hs 2 (by decide) | exact hs 3 (by decide) | exact ht 0 (by decide) | exact ht 1 (by decide) | exact ht 2 (by decide) | exact ht 3 (by decide)) (by decide) rfl (by decide) (by decide) (by show 1 ≤ _ + 1; omega) (by decide +kernel) ?_
  refine go_h (zlo_0 hs) ?_
  have hs := zput_is h b 4 (zlo γ b (upR L 0 (va_cpy (K 0) (L 0) 0 0 16)))
  have ht := ht0.out (c2 := zlo γ b (upR L 0 (va_cpy (K 0) (L 0) 0 0 16))) hd
  refine go_aload_n dX0_copyFrom_15 rfl ?_
  refine go_getf dX0_copyFrom_16 flX0_15 (by first | exact hs 0 (by decide) | exact hs 1 (by decide) | exact hs 2 (by decide) | exact hs 3 (by decide) | exact ht 0 (by decide) | exact ht 1 (by decide) | exact ht 2 (by decide) | exact ht 3 (by decide)) rfl ?_
  refine go_iconst (v := 0) dX0_copyFrom_19 (by decide) ?_
  refine go_aload_n dX0_copyFrom_20 rfl ?_
  refine go_getf dX0_copyFrom_21 flX0_15 (by first | exact hs 0 (by decide) | exact hs 1 (by decide) | exact hs 2 (by decide) | exact hs 3 (by decide) | exact ht 0 (by decide) | exact ht 1 (by decide) | exact ht 2 (by decide) | exact ht 3 (by decide)) rfl ?_
  refine go_iconst (v := 0) dX0_copyFrom_24 (by decide) ?_
  refine go_bipush (v := 16) dX0_copyFrom_25 (by decide) ?_
  refine go_copyi dX0_copyFrom_27 acX0_32 (by first | exact hs 0 (by decide) | exact hs 1 (by decide) | exact hs 2 (by decide) | exact hs 3 (by decide) | exact ht 0 (by decide) | exact ht 1 (by decide) | exact ht 2 (by decide) | exact ht 3 (by decide)) (by first | exact hs 0 (by decide) | exact hs 1 (by decide) | exact hs 2 (by decide) | exact hs 3 (by decide) | exact ht 0 (by decide) | exact ht 1 (by decide) | exact ht 2 (by decide) | exact ht 3 (by decide)) (by decide) rfl (by decide) (by decide) (by show 1 ≤ _ + 1; omega) (by decide +kernel) ?_
  refine go_h ((zlo_1 hs).trans (zput_zput _ _ _ _ _)) ?_
  have hs := zput_is h b 4 (zlo γ b (upR (upR L 0 (va_cpy (K 0) (L 0) 0 0 16)) 1 (va_cpy (K 1) (L 1) 0 0 16)))
  have ht := ht0.out (c2 := zlo γ b (upR (upR L 0 (va_cpy (K 0) (L 0) 0 0 16)) 1 (va_cpy (K 1) (L 1) 0 0 16))) hd
  refine go_aload_n dX0_copyFrom_30 rfl ?_
  refine go_getf dX0_copyFrom_31 flX0_18 (by first | exact hs 0 (by decide) | exact hs 1 (by decide) | exact hs 2 (by decide) | exact hs 3 (by decide) | exact ht 0 (by decide) | exact ht 1 (by decide) | exact ht 2 (by decide) | exact ht 3 (by decide)) rfl ?_
  refine go_iconst (v := 0) dX0_copyFrom_34 (by decide) ?_
  refine go_aload_n dX0_copyFrom_35 rfl ?_
  refine go_getf dX0_copyFrom_36 flX0_18 (by first | exact hs 0 (by decide) | exact hs 1 (by decide) | exact hs 2 (by decide) | exact hs 3 (by decide) | exact ht 0 (by decide) | exact ht 1 (by decide) | exact ht 2 (by decide) | exact ht 3 (by decide)) rfl ?_
  refine go_iconst (v := 0) dX0_copyFrom_39 (by decide) ?_
  refine go_bipush (v := 16) dX0_copyFrom_40 (by decide) ?_
  refine go_copyi dX0_copyFrom_42 acX0_32 (by first | exact hs 0 (by decide) | exact hs 1 (by decide) | exact hs 2 (by decide) | exact hs 3 (by decide) | exact ht 0 (by decide) | exact ht 1 (by decide) | exact ht 2 (by decide) | exact ht 3 (by decide)) (by first | exact hs 0 (by decide) | exact hs 1 (by decide) | exact hs 2 (by decide) | exact hs 3 (by decide) | exact ht 0 (by decide) | exact ht 1 (by decide) | exact ht 2 (by decide) | exact ht 3 (by decide)) (by decide) rfl (by decide) (by decide) (by show 1 ≤ _ + 1; omega) (by decide +kernel) ?_
  refine go_h ((zlo_2 hs).trans (zput_zput _ _ _ _ _)) ?_
  have hs := zput_is h b 4 (zlo γ b (upR (upR (upR L 0 (va_cpy (K 0) (L 0) 0 0 16)) 1 (va_cpy (K 1) (L 1) 0 0 16)) 2 (va_cpy (K 2) (L 2) 0 0 16)))
  have ht := ht0.out (c2 := zlo γ b (upR (upR (upR L 0 (va_cpy (K 0) (L 0) 0 0 16)) 1 (va_cpy (K 1) (L 1) 0 0 16)) 2 (va_cpy (K 2) (L 2) 0 0 16))) hd
  refine go_aload_n dX0_copyFrom_45 rfl ?_
  refine go_aload_n dX0_copyFrom_46 rfl ?_
  refine go_getf dX0_copyFrom_47 flX0_25 (by first | exact hs 0 (by decide) | exact hs 1 (by decide) | exact hs 2 (by decide) | exact hs 3 (by decide) | exact ht 0 (by decide) | exact ht 1 (by decide) | exact ht 2 (by decide) | exact ht 3 (by decide)) rfl ?_
  refine go_putf dX0_copyFrom_50 flX0_25 fnX0_3 (by first | exact hs 0 (by decide) | exact hs 1 (by decide) | exact hs 2 (by decide) | exact hs 3 (by decide) | exact ht 0 (by decide) | exact ht 1 (by decide) | exact ht 2 (by decide) | exact ht 3 (by decide)) rfl rfl (Nat.le_of_ble_eq_true rfl) ?_
  refine go_h ((zlo_3 hs).trans (zput_zput _ _ _ _ _)) ?_
  have hs := zput_is h b 4 (zlo γ b (up2 (up2 (upR (upR (upR L 0 (va_cpy (K 0) (L 0) 0 0 16)) 1 (va_cpy (K 1) (L 1) 0 0 16)) 2 (va_cpy (K 2) (L 2) 0 0 16)) 3 0 (K 3 0)) 3 1 (L 3 1)))
  have ht := ht0.out (c2 := zlo γ b (up2 (up2 (upR (upR (upR L 0 (va_cpy (K 0) (L 0) 0 0 16)) 1 (va_cpy (K 1) (L 1) 0 0 16)) 2 (va_cpy (K 2) (L 2) 0 0 16)) 3 0 (K 3 0)) 3 1 (L 3 1))) hd
  refine go_aload_n dX0_copyFrom_53 rfl ?_
  refine go_aload_n dX0_copyFrom_54 rfl ?_
  refine go_getf dX0_copyFrom_55 flX0_21 (by first | exact hs 0 (by decide) | exact hs 1 (by decide) | exact hs 2 (by decide) | exact hs 3 (by decide) | exact ht 0 (by decide) | exact ht 1 (by decide) | exact ht 2 (by decide) | exact ht 3 (by decide)) rfl ?_
  refine go_putf dX0_copyFrom_58 flX0_21 fnX0_4 (by first | exact hs 0 (by decide) | exact hs 1 (by decide) | exact hs 2 (by decide) | exact hs 3 (by decide) | exact ht 0 (by decide) | exact ht 1 (by decide) | exact ht 2 (by decide) | exact ht 3 (by decide)) rfl rfl (Nat.le_of_ble_eq_true rfl) ?_
  refine go_vret dX0_copyFrom_61 rfl rfl ?_ (Nat.zero_le _) (Nat.zero_le _)
  · refine Eq.symm ((zlo_3 hs).trans ((zput_zput _ _ _ _ _).trans (zput_congr (fun j hj => ?_))))
    rcases zlt4 hj with h | h | h | h <;> subst h <;> rfl
def zal (h : zH) (n : Nat) : zH := (h.1, h.2 + n)
theorem zp_o {h : zH} {a : Nat} {e : va_E} (hn : a ≠ h.2) : (zp h e).1 a = h.1 a := by simp [zp, hn]
theorem zp_s {h : zH} {e : va_E} : (zp h e).1 h.2 = some e := by simp [zp]
theorem zlo_init {γ : zG} {h : zH} {b : Nat} (hp : h.1 b = some (.inr (0, [.null, .null, .null, .int 0, .int 0]))) (hnx : h.2 = b + 1) :
    zal (zput h b 4 (zlo γ b (fun _ _ => 0))) 3 = zu (zp (zu (zp (zu (zp h (zai γ 16 (fun _ => 0))) b (.inr (0, [.ref h.2, .null, .null, .int 0, .int 0]))) (zai γ 16 (fun _ => 0))) b (.inr (0, [.ref h.2, .ref (h.2 + 1), .null, .int 0, .int 0]))) (zai γ 16 (fun _ => 0))) b (.inr (0, [.ref h.2, .ref (h.2 + 1), .ref (h.2 + 1 + 1), .int 0, .int 0])) := by
  refine Prod.ext ?_ rfl
  funext x
  by_cases h0 : x = b
  · subst h0
    rw [zu_s]
    show (zput h x 4 _).1 x = _
    rw [show (zput h x 4 (zlo γ x (fun _ _ => 0))).1 x = some (zlo γ x (fun _ _ => 0) 0) from zput_is _ _ _ _ 0 (by decide), hnx]
    rfl
  · by_cases h1 : x = b + 1
    · subst h1
      rw [show (zal (zput h b 4 (zlo γ b (fun _ _ => 0))) 3).1 (b + 1) = some (zlo γ b (fun _ _ => 0) 1) from zput_is _ _ _ _ 1 (by decide)]
      simp [zu, zp, hnx, zlo]
    · by_cases h2 : x = b + 2
      · subst h2
        rw [show (zal (zput h b 4 (zlo γ b (fun _ _ => 0))) 3).1 (b + 2) = some (zlo γ b (fun _ _ => 0) 2) from zput_is _ _ _ _ 2 (by decide)]
        simp [zu, zp, hnx, zlo]
      · by_cases h3 : x = b + 3
        · subst h3
          rw [show (zal (zput h b 4 (zlo γ b (fun _ _ => 0))) 3).1 (b + 3) = some (zlo γ b (fun _ _ => 0) 3) from zput_is _ _ _ _ 3 (by decide)]
          simp [zu, zp, hnx, zlo]
        · rw [show (zal (zput h b 4 (zlo γ b (fun _ _ => 0))) 3).1 x = h.1 x from zput_out (by omega)]
          simp [zu, zp, hnx, h0, h1, h2, h3]
set_option maxRecDepth 4000 in
theorem kX0_init (γ : zG) (l : Launch) (n : Nat) (h : zH) (b : Nat) (hp : h.1 b = some (.inr (0, [.null, .null, .null, .int 0, .int 0]))) (hnx : h.2 = b + 1) : Con γ l (n + 1) 3 48 MX0_init [.ref b] h none (zal (zput h b 4 (zlo γ b (fun _ _ => 0))) 3) := by
  refine Con.go (by decide +kernel) (Nat.le_of_ble_eq_true rfl) ⟨rfl, trivial⟩ ?_
  show Go _ 0 0 0 [some (.ref b)] [] _
  refine go_aload_n dX0_init_0 rfl ?_
  refine go_objInit dX0_init_1 oiX0_3 (by show 1 ≤ _ + 1; omega) ?_
  refine go_aload_n dX0_init_4 rfl ?_
  refine go_bipush (v := 16) dX0_init_5 (by decide) ?_
  refine go_newi dX0_init_7 arr_int (by decide) rfl (by decide) (Nat.le_of_ble_eq_true rfl) (Nat.le_of_ble_eq_true rfl) ?_
  refine go_putF dX0_init_9 flX0_9 fnX0_0 rfl rfl (by exact (zp_o (by omega)).trans hp) rfl rfl (Nat.le_of_ble_eq_true rfl) ?_
  refine go_aload_n dX0_init_12 rfl ?_
  refine go_bipush (v := 16) dX0_init_13 (by decide) ?_
  refine go_newi dX0_init_15 arr_int (by decide) rfl (by decide) (Nat.le_of_ble_eq_true rfl) (Nat.le_of_ble_eq_true rfl) ?_
  refine go_putF dX0_init_17 flX0_15 fnX0_1 rfl rfl (by exact (zp_o (show b ≠ h.2 + 1 by omega)).trans (zu_s _ _ _)) rfl rfl (Nat.le_of_ble_eq_true rfl) ?_
  refine go_aload_n dX0_init_20 rfl ?_
  refine go_bipush (v := 16) dX0_init_21 (by decide) ?_
  refine go_newi dX0_init_23 arr_int (by decide) rfl (by decide) (Nat.le_of_ble_eq_true rfl) (Nat.le_of_ble_eq_true rfl) ?_
  refine go_putF dX0_init_25 flX0_18 fnX0_2 rfl rfl (by exact (zp_o (show b ≠ h.2 + 1 + 1 by omega)).trans (zu_s _ _ _)) rfl rfl (Nat.le_of_ble_eq_true rfl) ?_
  refine go_vret dX0_init_28 rfl rfl ?_ (Nat.le_of_ble_eq_true rfl) (Nat.le_of_ble_eq_true rfl)
  · exact zlo_init hp hnx
end
section
/-! State: its cells -/
abbrev zS : Type := Nat → Nat → Int32
/-- rows: 0 capacities, 1 works, 2 reserve, gap, limit, cooldown time, timer, time; 3 to 5 the log, 6 its oldest and count; 7 + p port p -/
def zst (γ : zG) (a : Nat) (σ : zS) : Nat → va_E := fun k => match k with
  | 0 => .inr (2, [.ref (a + 1), .ref (a + 2), .ref (a + 3), .ref (a + 4), .int (σ 2 0), .int (σ 2 1), .int (σ 2 2), .int (σ 2 3), .int (σ 2 4), .int (σ 2 5)])
  | 1 => zai γ 3 (σ 0)
  | 2 => zaz γ 3 (σ 1)
  | 3 => zap γ 8 (fun j => if j < 8 then some (a + 8 + j) else none)
  | 4 => .inr (0, [.ref (a + 4 + 1), .ref (a + 4 + 2), .ref (a + 4 + 3), .int (σ 6 0), .int (σ 6 1)])
  | 5 => zai γ 16 (σ 3)
  | 6 => zai γ 16 (σ 4)
  | 7 => zai γ 16 (σ 5)
  | k => zpo (σ (k - 1))
abbrev zSt16 (γ : zG) (h : zH) (a : Nat) (σ : zS) : Prop := zIs h a 16 (zst γ a σ)
def zps (γ : zG) (h : zH) (a : Nat) (σ : zS) : zH := zput h a 16 (zst γ a σ)
theorem zps_is (γ : zG) (h : zH) (a : Nat) (σ : zS) : zSt16 γ (zps γ h a σ) a σ := zput_is _ _ _ _
theorem zps_zps (γ : zG) (h : zH) (a : Nat) (σ τ : zS) : zps γ (zps γ h a σ) a τ = zps γ h a τ := zput_zput _ _ _ _ _
theorem zps_id {γ : zG} {h : zH} {a : Nat} {σ : zS} (hs : zSt16 γ h a σ) : zps γ h a σ = h := zput_id hs
theorem zlt16 {k : Nat} (h : k < 16) : k = 0 ∨ k = 1 ∨ k = 2 ∨ k = 3 ∨ k = 4 ∨ k = 5 ∨ k = 6 ∨ k = 7 ∨ k = 8 ∨ k = 9 ∨ k = 10 ∨ k = 11 ∨ k = 12 ∨ k = 13 ∨ k = 14 ∨ k = 15 := by omega
theorem upR_n {σ : zS} {c c' : Nat} {f : Nat → Int32} (h : c' ≠ c) : upR σ c f c' = σ c' := by simp [upR, h]
theorem upR_s {σ : zS} {c : Nat} {f : Nat → Int32} : upR σ c f c = f := by simp [upR]
theorem zst_log {γ : zG} {h : zH} {a : Nat} {σ : zS} (hs : zSt16 γ h a σ) : zIs h (a + 4) 4 (zlo γ (a + 4) (fun c => σ (3 + c))) := fun k hk => by
  rw [Nat.add_assoc, hs (4 + k) (by omega)]
  rcases zlt4 hk with h | h | h | h <;> subst h <;> rfl
theorem zst_po {γ : zG} {a p : Nat} {σ : zS} (hp : p < 8) : zst γ a σ (8 + p) = zpo (σ (7 + p)) := by
  rcases (show p = 0 ∨ p = 1 ∨ p = 2 ∨ p = 3 ∨ p = 4 ∨ p = 5 ∨ p = 6 ∨ p = 7 by omega) with h | h | h | h | h | h | h | h <;> subst h <;> rfl
theorem zst_port {γ : zG} {h : zH} {a p : Nat} {σ : zS} (hs : zSt16 γ h a σ) (hp : p < 8) : h.1 (a + 8 + p) = some (zpo (σ (7 + p))) := by
  rw [Nat.add_assoc, hs (8 + p) (by omega), zst_po hp]
theorem zst_r0 {γ : zG} {h : zH} {a : Nat} {σ : zS} {f : Nat → Int32} (hs : zSt16 γ h a σ) : zu h (a + 1) (zai γ 3 f) = zps γ h a (upR σ 0 f) :=
  zu_zput hs (k := 1) (by decide) rfl (fun j hj hn => by rcases zlt16 hj with h | h | h | h | h | h | h | h | h | h | h | h | h | h | h | h <;> subst h <;> first | rfl | exact absurd rfl hn) rfl
theorem zst_r1 {γ : zG} {h : zH} {a : Nat} {σ : zS} {f : Nat → Int32} (hs : zSt16 γ h a σ) : zu h (a + 2) (zaz γ 3 f) = zps γ h a (upR σ 1 f) :=
  zu_zput hs (k := 2) (by decide) rfl (fun j hj hn => by rcases zlt16 hj with h | h | h | h | h | h | h | h | h | h | h | h | h | h | h | h <;> subst h <;> first | rfl | exact absurd rfl hn) rfl
theorem zst_r2 {γ : zG} {h : zH} {a : Nat} {σ : zS} {e : va_E} {f : Nat → Int32} (hs : zSt16 γ h a σ) (he : zst γ a (upR σ 2 f) 0 = e) : zu h a e = zps γ h a (upR σ 2 f) :=
  zu_zput hs (k := 0) (by decide) rfl (fun j hj hn => by rcases zlt16 hj with h | h | h | h | h | h | h | h | h | h | h | h | h | h | h | h <;> subst h <;> first | rfl | exact absurd rfl hn) he
theorem zst_rp {γ : zG} {h : zH} {a p : Nat} {σ : zS} {f : Nat → Int32} (hs : zSt16 γ h a σ) (hp : p < 8) : zu h (a + 8 + p) (zpo f) = zps γ h a (upR σ (7 + p) f) := by
  refine zu_zput hs (k := 8 + p) (by omega) (Nat.add_assoc _ _ _) (fun j hj hn => ?_) ?_
  · have e : ∀ c, c ≠ 7 + p → upR σ (7 + p) f c = σ c := fun c hc => upR_n hc
    rcases zlt16 hj with h | h | h | h | h | h | h | h | h | h | h | h | h | h | h | h <;> subst h <;> simp only [zst] <;> first | rfl | (rw [e _ (by omega)]; done) | (rw [e 2 (by omega)]; done) | (rw [e 6 (by omega)]; done)
  · rw [zst_po hp, upR_s]
def upL (σ : zS) (L : Nat → Nat → Int32) : zS := fun c => if 3 ≤ c ∧ c < 7 then L (c - 3) else σ c
theorem zst_rl {γ : zG} {h : zH} {a : Nat} {σ : zS} {L : Nat → Nat → Int32} (hs : zSt16 γ h a σ) : zput h (a + 4) 4 (zlo γ (a + 4) L) = zps γ h a (upL σ L) := by
  refine Prod.ext ?_ rfl
  funext x
  by_cases h1 : a + 4 ≤ x ∧ x < a + 4 + 4
  · obtain ⟨k, rfl⟩ : ∃ k, x = a + 4 + k := ⟨x - (a + 4), by omega⟩
    have hk : k < 4 := by omega
    rw [show (zput h (a + 4) 4 (zlo γ (a + 4) L)).1 (a + 4 + k) = _ from zput_is _ _ _ _ k hk, Nat.add_assoc, show (zps γ h a (upL σ L)).1 (a + (4 + k)) = _ from zps_is γ h a _ (4 + k) (by omega)]
    rcases zlt4 hk with h | h | h | h <;> subst h <;> rfl
  · rw [zput_out (by omega)]
    by_cases h2 : a ≤ x ∧ x < a + 16
    · obtain ⟨k, rfl⟩ : ∃ k, x = a + k := ⟨x - a, by omega⟩
      have hk : k < 16 := by omega
      rw [show (zps γ h a (upL σ L)).1 (a + k) = _ from zps_is γ h a _ k hk, hs k hk]
      have hk2 : ¬ (4 ≤ k ∧ k < 8) := by omega
      rcases zlt16 hk with h | h | h | h | h | h | h | h | h | h | h | h | h | h | h | h <;> subst h <;> first | rfl | exact absurd ⟨by decide, by decide⟩ hk2
    · exact (zput_out (h := h) (c := zst γ a (upL σ L)) (by omega)).symm
/-! loops over ports: the branch at the head -/
theorem zge {k m : Nat} (hk : k + (m + 1) = 8) : ¬ (8 : Int32) ≤ nI k := by
  have h1 : (8 : Int32) = nI 8 := rfl
  rw [h1]
  exact nI_ge (by omega) (by decide)
theorem zge3 {k m : Nat} (hk : k + (m + 1) = 3) : ¬ (3 : Int32) ≤ nI k := by
  have h1 : (3 : Int32) = nI 3 := rfl
  rw [h1]
  exact nI_ge (by omega) (by decide)
theorem zrf8 {k : Nat} {a : Nat} (hk : k < 8) : va_rf ((fun j => if j < 8 then some (a + 8 + j) else none) k) = .ref (a + 8 + k) := by
  show va_rf (if k < 8 then some (a + 8 + k) else none) = _
  rw [if_pos hk]
  rfl
/-! what State's methods answer -/
abbrev pPow (f : Nat → Int32) : Prop := 0 < f 7
abbrev pEli (f : Nat → Int32) : Prop := ¬ f 0 = 0 ∧ ¬ f 3 = 0 ∧ ¬ f 2 = 0 ∧ ¬ f 4 = -6
abbrev pCan (f : Nat → Int32) (x : Int32) : Prop := pEli f ∧ ¬ 0 < f 7 ∧ f 9 = 0 ∧ f 6 ≤ x
abbrev bit (k : Int32) : Int32 := 1 <<< (k &&& 31)
def sSum (σ : zS) : Nat → Int32
  | 0 => 0
  | k + 1 => if σ 1 k = 0 then sSum σ k else sSum σ k + σ 0 k
def sBud (σ : zS) : Int32 := if 0 < sSum σ 3 - σ 2 0 then sSum σ 3 - σ 2 0 else 0
def sSp (σ : zS) : Nat → Int32
  | 0 => sBud σ
  | k + 1 => sSp σ k - σ (7 + k) 7
def sEl (σ : zS) : Nat → Int32
  | 0 => 0
  | k + 1 => if pEli (σ (7 + k)) then sEl σ k ||| bit (nI k) else sEl σ k
def sPw (σ : zS) : Nat → Int32
  | 0 => 0
  | k + 1 => if pPow (σ (7 + k)) then sPw σ k ||| bit (nI k) else sPw σ k
def sLp (σ : zS) : Nat → Int32 × Int32
  | 0 => (-6, 0)
  | k + 1 => if pPow (σ (7 + k)) ∧ ¬ σ (7 + k) 1 < (sLp σ k).2 then (nI k, σ (7 + k) 1) else sLp σ k
def sFp (σ : zS) : Nat → Int32 × Int32
  | 0 => (-6, 3)
  | k + 1 => if σ (7 + k) 1 < (sFp σ k).2 ∧ pCan (σ (7 + k)) (sSp σ 8) then (nI k, σ (7 + k) 1) else sFp σ k
def sFi (σ : zS) (q : Nat) (s : Int32 × Int32) : Nat → Int32 × Int32
  | 0 => s
  | k + 1 => if σ (7 + k) 1 = nI q ∧ pEli (σ (7 + k)) ∧ σ (7 + k) 6 ≤ (sFi σ q s k).2 then ((sFi σ q s k).1 ||| bit (nI k), (sFi σ q s k).2 - σ (7 + k) 6) else sFi σ q s k
def sFo (σ : zS) : Nat → Int32 × Int32
  | 0 => (0, sBud σ)
  | q + 1 => sFi σ q (sFo σ q) 8
end
section
/-! State: methods that only read -/
set_option maxRecDepth 4000 in
theorem kX2_wholeBudget (γ : zG) (l : Launch) (n : Nat) (h : zH) (a : Nat) (σ : zS) (hs : zSt16 γ h a σ) : Con γ l (n + 1) 0 0 MX2_wholeBudget [.ref a] h (some (.int (sBud σ))) h := by
  refine Con.go (by decide +kernel) (Nat.le_of_ble_eq_true rfl) ⟨rfl, trivial⟩ ?_
  show Go _ 0 0 0 [some (.ref a), none, none] [] _
  have loop : ∀ (m k : Nat), k + m = 3 → Go (γ, l, n + 1, (0, 0), MX2_wholeBudget, zF γ 0 0 (some (.int (sBud σ))) h) 0 0 4 [some (.ref a), some (.int (sSum σ k)), some (.int (nI k))] [] h := by
    intro m
    induction m with
    | zero =>
      intro k hk
      have hkN : k = 3 := by omega
      subst hkN
      refine go_iload_n dX2_wholeBudget_4 rfl ?_
      refine go_iconst (v := 3) dX2_wholeBudget_5 (by decide) ?_
      refine go_icmp_ge (tgt := 33) dX2_wholeBudget_6 (by decide) (fun c6 => ?_) (fun c6 => absurd (by decide) c6)
      refine go_iconst (v := 0) dX2_wholeBudget_33 (by decide) ?_
      refine go_iload_n dX2_wholeBudget_34 rfl ?_
      refine go_aload_n dX2_wholeBudget_35 rfl ?_
      refine go_getf dX2_wholeBudget_36 flX2_50 (by first | exact hs 0 (by decide) | exact hs 3 (by decide) | exact hs 1 (by decide) | exact hs 2 (by decide) | exact zst_port hs hlt | exact hs 4 (by decide)) rfl ?_
      refine go_isub dX2_wholeBudget_39 ?_
      refine go_mmax dX2_wholeBudget_40 mxX2_59 (by show 1 ≤ _ + 1; omega) (Nat.zero_le _) (Nat.zero_le _) ?_
      refine go_iret dX2_wholeBudget_43 rfl ?_ ?_ (Nat.zero_le _) (Nat.zero_le _)
      · rfl
      · rfl
    | succ m ih =>
      intro k hk
      have hlt : k < 3 := by omega
      refine go_iload_n dX2_wholeBudget_4 rfl ?_
      refine go_iconst (v := 3) dX2_wholeBudget_5 (by decide) ?_
      refine go_icmp_ge (tgt := 33) dX2_wholeBudget_6 (by decide) (fun c6 => absurd c6 (zge3 hk)) (fun c6 => ?_)
      refine go_aload_n dX2_wholeBudget_9 rfl ?_
      refine go_getf dX2_wholeBudget_10 flX2_15 (by first | exact hs 0 (by decide) | exact hs 3 (by decide) | exact hs 1 (by decide) | exact hs 2 (by decide) | exact zst_port hs hlt | exact hs 4 (by decide)) rfl ?_
      refine go_iload_n dX2_wholeBudget_13 rfl ?_
      refine go_zald dX2_wholeBudget_14 (by first | exact hs 0 (by decide) | exact hs 3 (by decide) | exact hs 1 (by decide) | exact hs 2 (by decide) | exact zst_port hs hlt | exact hs 4 (by decide)) (zix rfl hlt (by decide)).1 (zix rfl hlt (by decide)).2 ?_
      refine go_if_eq (tgt := 27) dX2_wholeBudget_15 (by decide) (fun c15 => ?_) (fun c15 => ?_)
      · refine go_iinc dX2_wholeBudget_27 rfl (nI_1 k) (Nat.le_of_ble_eq_true rfl) ?_
        refine go_goto (tgt := 4) dX2_wholeBudget_30 (by decide) ?_
        exact (show sSum σ (k + 1) = sSum σ k from if_pos c15) ▸ ih (k + 1) (by omega)
      · refine go_iload_n dX2_wholeBudget_18 rfl ?_
        refine go_aload_n dX2_wholeBudget_19 rfl ?_
        refine go_getf dX2_wholeBudget_20 flX2_9 (by first | exact hs 0 (by decide) | exact hs 3 (by decide) | exact hs 1 (by decide) | exact hs 2 (by decide) | exact zst_port hs hlt | exact hs 4 (by decide)) rfl ?_
        refine go_iload_n dX2_wholeBudget_23 rfl ?_
        refine go_iald dX2_wholeBudget_24 (by first | exact hs 0 (by decide) | exact hs 3 (by decide) | exact hs 1 (by decide) | exact hs 2 (by decide) | exact zst_port hs hlt | exact hs 4 (by decide)) (zix rfl hlt (by decide)).1 (zix rfl hlt (by decide)).2 ?_
        refine go_iadd dX2_wholeBudget_25 ?_
        refine go_istore_n dX2_wholeBudget_26 (Nat.le_of_ble_eq_true rfl) ?_
        refine go_iinc dX2_wholeBudget_27 rfl (nI_1 k) (Nat.le_of_ble_eq_true rfl) ?_
        refine go_goto (tgt := 4) dX2_wholeBudget_30 (by decide) ?_
        exact (show sSum σ (k + 1) = sSum σ k + σ 0 k from if_neg c15) ▸ ih (k + 1) (by omega)
  refine go_iconst (v := 0) dX2_wholeBudget_0 (by decide) ?_
  refine go_istore_n dX2_wholeBudget_1 (Nat.le_of_ble_eq_true rfl) ?_
  refine go_iconst (v := 0) dX2_wholeBudget_2 (by decide) ?_
  refine go_istore_n dX2_wholeBudget_3 (Nat.le_of_ble_eq_true rfl) ?_
  exact loop 3 0 rfl
set_option maxRecDepth 4000 in
theorem kX2_sparePower (γ : zG) (l : Launch) (n : Nat) (h : zH) (a : Nat) (σ : zS) (hs : zSt16 γ h a σ) : Con γ l (n + 2) 0 0 MX2_sparePower [.ref a] h (some (.int (sSp σ 8))) h := by
  refine Con.go (by decide +kernel) (Nat.le_of_ble_eq_true rfl) ⟨rfl, trivial⟩ ?_
  show Go _ 0 0 0 [some (.ref a), none, none] [] _
  have loop : ∀ (m k : Nat), k + m = 8 → Go (γ, l, n + 2, (0, 0), MX2_sparePower, zF γ 0 0 (some (.int (sSp σ 8))) h) 0 0 7 [some (.ref a), some (.int (sSp σ k)), some (.int (nI k))] [] h := by
    intro m
    induction m with
    | zero =>
      intro k hk
      have hkN : k = 8 := by omega
      subst hkN
      refine go_iload_n dX2_sparePower_7 rfl ?_
      refine go_bipush (v := 8) dX2_sparePower_8 (by decide) ?_
      refine go_icmp_ge (tgt := 31) dX2_sparePower_10 (by decide) (fun c10 => ?_) (fun c10 => absurd (by decide) c10)
      refine go_iload_n dX2_sparePower_31 rfl ?_
      refine go_iret dX2_sparePower_32 rfl ?_ ?_ (Nat.zero_le _) (Nat.zero_le _)
      · rfl
      · rfl
    | succ m ih =>
      intro k hk
      have hlt : k < 8 := by omega
      refine go_iload_n dX2_sparePower_7 rfl ?_
      refine go_bipush (v := 8) dX2_sparePower_8 (by decide) ?_
      refine go_icmp_ge (tgt := 31) dX2_sparePower_10 (by decide) (fun c10 => absurd c10 (zge hk)) (fun c10 => ?_)
      refine go_iload_n dX2_sparePower_13 rfl ?_
      refine go_aload_n dX2_sparePower_14 rfl ?_
      refine go_getf dX2_sparePower_15 flX2_21 (by first | exact hs 0 (by decide) | exact hs 3 (by decide) | exact hs 1 (by decide) | exact hs 2 (by decide) | exact zst_port hs hlt | exact hs 4 (by decide)) rfl ?_
      refine go_iload_n dX2_sparePower_18 rfl ?_
      refine go_ald (t0 := 2) (C := RX1) dX2_sparePower_19 (by first | exact hs 0 (by decide) | exact hs 3 (by decide) | exact hs 1 (by decide) | exact hs 2 (by decide) | exact zst_port hs hlt | exact hs 4 (by decide)) rfl (zix rfl hlt (by decide)).1 (zix rfl hlt (by decide)).2 (zrf8 hlt) ?_
      refine go_getf dX2_sparePower_20 flX2_69 (by first | exact hs 0 (by decide) | exact hs 3 (by decide) | exact hs 1 (by decide) | exact hs 2 (by decide) | exact zst_port hs hlt | exact hs 4 (by decide)) rfl ?_
      refine go_isub dX2_sparePower_23 ?_
      refine go_istore_n dX2_sparePower_24 (Nat.le_of_ble_eq_true rfl) ?_
      refine go_iinc dX2_sparePower_25 rfl (nI_1 k) (Nat.le_of_ble_eq_true rfl) ?_
      refine go_goto (tgt := 7) dX2_sparePower_28 (by decide) ?_
      exact ih (k + 1) (by omega)
  refine go_aload_n dX2_sparePower_0 rfl ?_
  refine go_callVi (ci := 2) dX2_sparePower_1 moX2_wholeBudget cvX2_65 ⟨rfl, rfl⟩ (kX2_wholeBudget γ l _ h a σ hs) (by first | exact hs 0 (by decide) | exact hs 3 (by decide) | exact hs 1 (by decide) | exact hs 2 (by decide) | exact zst_port hs hlt | exact hs 4 (by decide)) rfl rfl (Nat.le_refl _) (Nat.zero_le _) (Nat.zero_le _) (Nat.le_of_ble_eq_true rfl) ?_
  refine go_istore_n dX2_sparePower_4 (Nat.le_of_ble_eq_true rfl) ?_
  refine go_iconst (v := 0) dX2_sparePower_5 (by decide) ?_
  refine go_istore_n dX2_sparePower_6 (Nat.le_of_ble_eq_true rfl) ?_
  exact loop 8 0 rfl
set_option maxRecDepth 4000 in
theorem kX2_eligibleSet (γ : zG) (l : Launch) (n : Nat) (h : zH) (a : Nat) (σ : zS) (hs : zSt16 γ h a σ) : Con γ l (n + 2) 0 0 MX2_eligibleSet [.ref a] h (some (.int (sEl σ 8))) h := by
  refine Con.go (by decide +kernel) (Nat.le_of_ble_eq_true rfl) ⟨rfl, trivial⟩ ?_
  show Go _ 0 0 0 [some (.ref a), none, none] [] _
  have loop : ∀ (m k : Nat), k + m = 8 → Go (γ, l, n + 2, (0, 0), MX2_eligibleSet, zF γ 0 0 (some (.int (sEl σ 8))) h) 0 0 4 [some (.ref a), some (.int (sEl σ k)), some (.int (nI k))] [] h := by
    intro m
    induction m with
    | zero =>
      intro k hk
      have hkN : k = 8 := by omega
      subst hkN
      refine go_iload_n dX2_eligibleSet_4 rfl ?_
      refine go_bipush (v := 8) dX2_eligibleSet_5 (by decide) ?_
      refine go_icmp_ge (tgt := 34) dX2_eligibleSet_7 (by decide) (fun c7 => ?_) (fun c7 => absurd (by decide) c7)
      refine go_iload_n dX2_eligibleSet_34 rfl ?_
      refine go_iret dX2_eligibleSet_35 rfl ?_ ?_ (Nat.zero_le _) (Nat.zero_le _)
      · rfl
      · rfl
    | succ m ih =>
      intro k hk
      have hlt : k < 8 := by omega
      refine go_iload_n dX2_eligibleSet_4 rfl ?_
      refine go_bipush (v := 8) dX2_eligibleSet_5 (by decide) ?_
      refine go_icmp_ge (tgt := 34) dX2_eligibleSet_7 (by decide) (fun c7 => absurd c7 (zge hk)) (fun c7 => ?_)
      refine go_aload_n dX2_eligibleSet_10 rfl ?_
      refine go_getf dX2_eligibleSet_11 flX2_21 (by first | exact hs 0 (by decide) | exact hs 3 (by decide) | exact hs 1 (by decide) | exact hs 2 (by decide) | exact zst_port hs hlt | exact hs 4 (by decide)) rfl ?_
      refine go_iload_n dX2_eligibleSet_14 rfl ?_
      refine go_ald (t0 := 2) (C := RX1) dX2_eligibleSet_15 (by first | exact hs 0 (by decide) | exact hs 3 (by decide) | exact hs 1 (by decide) | exact hs 2 (by decide) | exact zst_port hs hlt | exact hs 4 (by decide)) rfl (zix rfl hlt (by decide)).1 (zix rfl hlt (by decide)).2 (zrf8 hlt) ?_
      refine go_callVi (ci := 1) dX2_eligibleSet_16 moX1_isEligible cvX2_72 ⟨rfl, rfl⟩ (kX1_isEligible γ l _ h _ _ (zst_port hs hlt)) (by first | exact hs 0 (by decide) | exact hs 3 (by decide) | exact hs 1 (by decide) | exact hs 2 (by decide) | exact zst_port hs hlt | exact hs 4 (by decide)) rfl rfl (Nat.le_refl _) (Nat.zero_le _) (Nat.zero_le _) (Nat.le_of_ble_eq_true rfl) ?_
      refine go_if_eq (tgt := 28) dX2_eligibleSet_19 (by decide) (fun c19 => ?_) (fun c19 => ?_)
      · refine go_iinc dX2_eligibleSet_28 rfl (nI_1 k) (Nat.le_of_ble_eq_true rfl) ?_
        refine go_goto (tgt := 4) dX2_eligibleSet_31 (by decide) ?_
        exact (show sEl σ (k + 1) = sEl σ k from if_neg (zi_0.mp c19)) ▸ ih (k + 1) (by omega)
      · refine go_iload_n dX2_eligibleSet_22 rfl ?_
        refine go_iconst (v := 1) dX2_eligibleSet_23 (by decide) ?_
        refine go_iload_n dX2_eligibleSet_24 rfl ?_
        refine go_ishl dX2_eligibleSet_25 ?_
        refine go_ior dX2_eligibleSet_26 ?_
        refine go_istore_n dX2_eligibleSet_27 (Nat.le_of_ble_eq_true rfl) ?_
        refine go_iinc dX2_eligibleSet_28 rfl (nI_1 k) (Nat.le_of_ble_eq_true rfl) ?_
        refine go_goto (tgt := 4) dX2_eligibleSet_31 (by decide) ?_
        exact (show sEl σ (k + 1) = sEl σ k ||| bit (nI k) from if_pos (Classical.byContradiction fun q => c19 (zi_0.mpr q))) ▸ ih (k + 1) (by omega)
  refine go_iconst (v := 0) dX2_eligibleSet_0 (by decide) ?_
  refine go_istore_n dX2_eligibleSet_1 (Nat.le_of_ble_eq_true rfl) ?_
  refine go_iconst (v := 0) dX2_eligibleSet_2 (by decide) ?_
  refine go_istore_n dX2_eligibleSet_3 (Nat.le_of_ble_eq_true rfl) ?_
  exact loop 8 0 rfl
set_option maxRecDepth 4000 in
theorem kX2_poweredSet (γ : zG) (l : Launch) (n : Nat) (h : zH) (a : Nat) (σ : zS) (hs : zSt16 γ h a σ) : Con γ l (n + 1) 0 0 MX2_poweredSet [.ref a] h (some (.int (sPw σ 8))) h := by
  refine Con.go (by decide +kernel) (Nat.le_of_ble_eq_true rfl) ⟨rfl, trivial⟩ ?_
  show Go _ 0 0 0 [some (.ref a), none, none] [] _
  have loop : ∀ (m k : Nat), k + m = 8 → Go (γ, l, n + 1, (0, 0), MX2_poweredSet, zF γ 0 0 (some (.int (sPw σ 8))) h) 0 0 4 [some (.ref a), some (.int (sPw σ k)), some (.int (nI k))] [] h := by
    intro m
    induction m with
    | zero =>
      intro k hk
      have hkN : k = 8 := by omega
      subst hkN
      refine go_iload_n dX2_poweredSet_4 rfl ?_
      refine go_bipush (v := 8) dX2_poweredSet_5 (by decide) ?_
      refine go_icmp_ge (tgt := 34) dX2_poweredSet_7 (by decide) (fun c7 => ?_) (fun c7 => absurd (by decide) c7)
      refine go_iload_n dX2_poweredSet_34 rfl ?_
      refine go_iret dX2_poweredSet_35 rfl ?_ ?_ (Nat.zero_le _) (Nat.zero_le _)
      · rfl
      · rfl
    | succ m ih =>
      intro k hk
      have hlt : k < 8 := by omega
      refine go_iload_n dX2_poweredSet_4 rfl ?_
      refine go_bipush (v := 8) dX2_poweredSet_5 (by decide) ?_
      refine go_icmp_ge (tgt := 34) dX2_poweredSet_7 (by decide) (fun c7 => absurd c7 (zge hk)) (fun c7 => ?_)
      refine go_aload_n dX2_poweredSet_10 rfl ?_
      refine go_getf dX2_poweredSet_11 flX2_21 (by first | exact hs 0 (by decide) | exact hs 3 (by decide) | exact hs 1 (by decide) | exact hs 2 (by decide) | exact zst_port hs hlt | exact hs 4 (by decide)) rfl ?_
      refine go_iload_n dX2_poweredSet_14 rfl ?_
      refine go_ald (t0 := 2) (C := RX1) dX2_poweredSet_15 (by first | exact hs 0 (by decide) | exact hs 3 (by decide) | exact hs 1 (by decide) | exact hs 2 (by decide) | exact zst_port hs hlt | exact hs 4 (by decide)) rfl (zix rfl hlt (by decide)).1 (zix rfl hlt (by decide)).2 (zrf8 hlt) ?_
      refine go_callVi (ci := 1) dX2_poweredSet_16 moX1_isPowered cvX2_76 ⟨rfl, rfl⟩ (kX1_isPowered γ l _ h _ _ (zst_port hs hlt)) (by first | exact hs 0 (by decide) | exact hs 3 (by decide) | exact hs 1 (by decide) | exact hs 2 (by decide) | exact zst_port hs hlt | exact hs 4 (by decide)) rfl rfl (Nat.le_refl _) (Nat.zero_le _) (Nat.zero_le _) (Nat.le_of_ble_eq_true rfl) ?_
      refine go_if_eq (tgt := 28) dX2_poweredSet_19 (by decide) (fun c19 => ?_) (fun c19 => ?_)
      · refine go_iinc dX2_poweredSet_28 rfl (nI_1 k) (Nat.le_of_ble_eq_true rfl) ?_
        refine go_goto (tgt := 4) dX2_poweredSet_31 (by decide) ?_
        exact (show sPw σ (k + 1) = sPw σ k from if_neg (zi_0.mp c19)) ▸ ih (k + 1) (by omega)
      · refine go_iload_n dX2_poweredSet_22 rfl ?_
        refine go_iconst (v := 1) dX2_poweredSet_23 (by decide) ?_
        refine go_iload_n dX2_poweredSet_24 rfl ?_
        refine go_ishl dX2_poweredSet_25 ?_
        refine go_ior dX2_poweredSet_26 ?_
        refine go_istore_n dX2_poweredSet_27 (Nat.le_of_ble_eq_true rfl) ?_
        refine go_iinc dX2_poweredSet_28 rfl (nI_1 k) (Nat.le_of_ble_eq_true rfl) ?_
        refine go_goto (tgt := 4) dX2_poweredSet_31 (by decide) ?_
        exact (show sPw σ (k + 1) = sPw σ k ||| bit (nI k) from if_pos (Classical.byContradiction fun q => c19 (zi_0.mpr q))) ▸ ih (k + 1) (by omega)
  refine go_iconst (v := 0) dX2_poweredSet_0 (by decide) ?_
  refine go_istore_n dX2_poweredSet_1 (Nat.le_of_ble_eq_true rfl) ?_
  refine go_iconst (v := 0) dX2_poweredSet_2 (by decide) ?_
  refine go_istore_n dX2_poweredSet_3 (Nat.le_of_ble_eq_true rfl) ?_
  exact loop 8 0 rfl
set_option maxRecDepth 4000 in
theorem kX2_lastPoweredPort (γ : zG) (l : Launch) (n : Nat) (h : zH) (a : Nat) (σ : zS) (hs : zSt16 γ h a σ) : Con γ l (n + 1) 0 0 MX2_lastPoweredPort [.ref a] h (some (.int (sLp σ 8).1)) h := by
  refine Con.go (by decide +kernel) (Nat.le_of_ble_eq_true rfl) ⟨rfl, trivial⟩ ?_
  show Go _ 0 0 0 [some (.ref a), none, none, none, none] [] _
  have loop : ∀ (m k : Nat), k + m = 8 → Go (γ, l, n + 1, (0, 0), MX2_lastPoweredPort, zF γ 0 0 (some (.int (sLp σ 8).1)) h) 0 0 7 [some (.ref a), some (.int (sLp σ k).1), some (.int (sLp σ k).2), some (.int (nI k)), none] [] h := by
    intro m
    induction m with
    | zero =>
      intro k hk
      have hkN : k = 8 := by omega
      subst hkN
      refine go_iload_n dX2_lastPoweredPort_7 rfl ?_
      refine go_bipush (v := 8) dX2_lastPoweredPort_8 (by decide) ?_
      refine go_icmp_ge (tgt := 52) dX2_lastPoweredPort_10 (by decide) (fun c10 => ?_) (fun c10 => absurd (by decide) c10)
      refine go_iload_n dX2_lastPoweredPort_52 rfl ?_
      refine go_iret dX2_lastPoweredPort_53 rfl ?_ ?_ (Nat.zero_le _) (Nat.zero_le _)
      · rfl
      · rfl
    | succ m ih =>
      intro k hk
      have hlt : k < 8 := by omega
      refine go_iload_n dX2_lastPoweredPort_7 rfl ?_
      refine go_bipush (v := 8) dX2_lastPoweredPort_8 (by decide) ?_
      refine go_icmp_ge (tgt := 52) dX2_lastPoweredPort_10 (by decide) (fun c10 => absurd c10 (zge hk)) (fun c10 => ?_)
      refine go_aload_n dX2_lastPoweredPort_13 rfl ?_
      refine go_getf dX2_lastPoweredPort_14 flX2_21 (by first | exact hs 0 (by decide) | exact hs 3 (by decide) | exact hs 1 (by decide) | exact hs 2 (by decide) | exact zst_port hs hlt | exact hs 4 (by decide)) rfl ?_
      refine go_iload_n dX2_lastPoweredPort_17 rfl ?_
      refine go_ald (t0 := 2) (C := RX1) dX2_lastPoweredPort_18 (by first | exact hs 0 (by decide) | exact hs 3 (by decide) | exact hs 1 (by decide) | exact hs 2 (by decide) | exact zst_port hs hlt | exact hs 4 (by decide)) rfl (zix rfl hlt (by decide)).1 (zix rfl hlt (by decide)).2 (zrf8 hlt) ?_
      refine go_astore dX2_lastPoweredPort_19 (Nat.le_of_ble_eq_true rfl) ?_
      refine go_aload dX2_lastPoweredPort_21 rfl ?_
      refine go_callVi (ci := 1) dX2_lastPoweredPort_23 moX1_isPowered cvX2_76 ⟨rfl, rfl⟩ (kX1_isPowered γ l _ h _ _ (zst_port hs hlt)) (by first | exact hs 0 (by decide) | exact hs 3 (by decide) | exact hs 1 (by decide) | exact hs 2 (by decide) | exact zst_port hs hlt | exact hs 4 (by decide)) rfl rfl (Nat.le_refl _) (Nat.zero_le _) (Nat.zero_le _) (Nat.le_of_ble_eq_true rfl) ?_
      refine go_if_eq (tgt := 46) dX2_lastPoweredPort_26 (by decide) (fun c26 => ?_) (fun c26 => ?_)
      · refine go_iinc dX2_lastPoweredPort_46 rfl (nI_1 k) (Nat.le_of_ble_eq_true rfl) ?_
        refine go_goto (tgt := 7) dX2_lastPoweredPort_49 (by decide) ?_
        refine go_lv (lv' := [some (.ref a), some (.int (sLp σ (k + 1)).1), some (.int (sLp σ (k + 1)).2), some (.int (nI (k + 1))), none]) ?_ (ih (k + 1) (by omega))
        rw [show sLp σ (k + 1) = sLp σ k from if_neg (fun q => zi_0.mp c26 q.1)]
        exact ⟨rfl, rfl, rfl, rfl, trivial⟩
      · refine go_aload dX2_lastPoweredPort_29 rfl ?_
        refine go_getf dX2_lastPoweredPort_31 flX2_79 (by first | exact hs 0 (by decide) | exact hs 3 (by decide) | exact hs 1 (by decide) | exact hs 2 (by decide) | exact zst_port hs hlt | exact hs 4 (by decide)) rfl ?_
        refine go_iload_n dX2_lastPoweredPort_34 rfl ?_
        refine go_icmp_lt (tgt := 46) dX2_lastPoweredPort_35 (by decide) (fun c35 => ?_) (fun c35 => ?_)
        · refine go_iinc dX2_lastPoweredPort_46 rfl (nI_1 k) (Nat.le_of_ble_eq_true rfl) ?_
          refine go_goto (tgt := 7) dX2_lastPoweredPort_49 (by decide) ?_
          refine go_lv (lv' := [some (.ref a), some (.int (sLp σ (k + 1)).1), some (.int (sLp σ (k + 1)).2), some (.int (nI (k + 1))), none]) ?_ (ih (k + 1) (by omega))
          rw [show sLp σ (k + 1) = sLp σ k from if_neg (fun q => q.2 c35)]
          exact ⟨rfl, rfl, rfl, rfl, trivial⟩
        · refine go_iload_n dX2_lastPoweredPort_38 rfl ?_
          refine go_istore_n dX2_lastPoweredPort_39 (Nat.le_of_ble_eq_true rfl) ?_
          refine go_aload dX2_lastPoweredPort_40 rfl ?_
          refine go_getf dX2_lastPoweredPort_42 flX2_79 (by first | exact hs 0 (by decide) | exact hs 3 (by decide) | exact hs 1 (by decide) | exact hs 2 (by decide) | exact zst_port hs hlt | exact hs 4 (by decide)) rfl ?_
          refine go_istore_n dX2_lastPoweredPort_45 (Nat.le_of_ble_eq_true rfl) ?_
          refine go_iinc dX2_lastPoweredPort_46 rfl (nI_1 k) (Nat.le_of_ble_eq_true rfl) ?_
          refine go_goto (tgt := 7) dX2_lastPoweredPort_49 (by decide) ?_
          refine go_lv (lv' := [some (.ref a), some (.int (sLp σ (k + 1)).1), some (.int (sLp σ (k + 1)).2), some (.int (nI (k + 1))), none]) ?_ (ih (k + 1) (by omega))
          rw [show sLp σ (k + 1) = (nI k, σ (7 + k) 1) from if_pos ⟨Classical.byContradiction fun q => c26 (zi_0.mpr q), c35⟩]
          exact ⟨rfl, rfl, rfl, rfl, trivial⟩
  refine go_bipush (v := (-6)) dX2_lastPoweredPort_0 (by decide) ?_
  refine go_istore_n dX2_lastPoweredPort_2 (Nat.le_of_ble_eq_true rfl) ?_
  refine go_iconst (v := 0) dX2_lastPoweredPort_3 (by decide) ?_
  refine go_istore_n dX2_lastPoweredPort_4 (Nat.le_of_ble_eq_true rfl) ?_
  refine go_iconst (v := 0) dX2_lastPoweredPort_5 (by decide) ?_
  refine go_istore_n dX2_lastPoweredPort_6 (Nat.le_of_ble_eq_true rfl) ?_
  exact loop 8 0 rfl
set_option maxRecDepth 4000 in
theorem kX2_firstPortToPowerUp (γ : zG) (l : Launch) (n : Nat) (h : zH) (a : Nat) (σ : zS) (hs : zSt16 γ h a σ) : Con γ l (n + 3) 0 0 MX2_firstPortToPowerUp [.ref a] h (some (.int (sFp σ 8).1)) h := by
  refine Con.go (by decide +kernel) (Nat.le_of_ble_eq_true rfl) ⟨rfl, trivial⟩ ?_
  show Go _ 0 0 0 [some (.ref a), none, none, none, none, none] [] _
  have loop : ∀ (m k : Nat), k + m = 8 → Go (γ, l, n + 3, (0, 0), MX2_firstPortToPowerUp, zF γ 0 0 (some (.int (sFp σ 8).1)) h) 0 0 13 [some (.ref a), some (.int (sFp σ k).1), some (.int (sFp σ k).2), some (.int (sSp σ 8)), some (.int (nI k)), none] [] h := by
    intro m
    induction m with
    | zero =>
      intro k hk
      have hkN : k = 8 := by omega
      subst hkN
      refine go_iload dX2_firstPortToPowerUp_13 rfl ?_
      refine go_bipush (v := 8) dX2_firstPortToPowerUp_15 (by decide) ?_
      refine go_icmp_ge (tgt := 62) dX2_firstPortToPowerUp_17 (by decide) (fun c17 => ?_) (fun c17 => absurd (by decide) c17)
      refine go_iload_n dX2_firstPortToPowerUp_62 rfl ?_
      refine go_iret dX2_firstPortToPowerUp_63 rfl ?_ ?_ (Nat.zero_le _) (Nat.zero_le _)
      · rfl
      · rfl
    | succ m ih =>
      intro k hk
      have hlt : k < 8 := by omega
      refine go_iload dX2_firstPortToPowerUp_13 rfl ?_
      refine go_bipush (v := 8) dX2_firstPortToPowerUp_15 (by decide) ?_
      refine go_icmp_ge (tgt := 62) dX2_firstPortToPowerUp_17 (by decide) (fun c17 => absurd c17 (zge hk)) (fun c17 => ?_)
      refine go_aload_n dX2_firstPortToPowerUp_20 rfl ?_
      refine go_getf dX2_firstPortToPowerUp_21 flX2_21 (by first | exact hs 0 (by decide) | exact hs 3 (by decide) | exact hs 1 (by decide) | exact hs 2 (by decide) | exact zst_port hs hlt | exact hs 4 (by decide)) rfl ?_
      refine go_iload dX2_firstPortToPowerUp_24 rfl ?_
      refine go_ald (t0 := 2) (C := RX1) dX2_firstPortToPowerUp_26 (by first | exact hs 0 (by decide) | exact hs 3 (by decide) | exact hs 1 (by decide) | exact hs 2 (by decide) | exact zst_port hs hlt | exact hs 4 (by decide)) rfl (zix rfl hlt (by decide)).1 (zix rfl hlt (by decide)).2 (zrf8 hlt) ?_
      refine go_astore dX2_firstPortToPowerUp_27 (Nat.le_of_ble_eq_true rfl) ?_
      refine go_aload dX2_firstPortToPowerUp_29 rfl ?_
      refine go_getf dX2_firstPortToPowerUp_31 flX2_79 (by first | exact hs 0 (by decide) | exact hs 3 (by decide) | exact hs 1 (by decide) | exact hs 2 (by decide) | exact zst_port hs hlt | exact hs 4 (by decide)) rfl ?_
      refine go_iload_n dX2_firstPortToPowerUp_34 rfl ?_
      refine go_icmp_ge (tgt := 56) dX2_firstPortToPowerUp_35 (by decide) (fun c35 => ?_) (fun c35 => ?_)
      · refine go_iinc dX2_firstPortToPowerUp_56 rfl (nI_1 k) (Nat.le_of_ble_eq_true rfl) ?_
        refine go_goto (tgt := 13) dX2_firstPortToPowerUp_59 (by decide) ?_
        refine go_lv (lv' := [some (.ref a), some (.int (sFp σ (k + 1)).1), some (.int (sFp σ (k + 1)).2), some (.int (sSp σ 8)), some (.int (nI (k + 1))), none]) ?_ (ih (k + 1) (by omega))
        rw [show sFp σ (k + 1) = sFp σ k from if_neg (fun q => zle.mp c35 q.1)]
        exact ⟨rfl, rfl, rfl, rfl, rfl, trivial⟩
      · refine go_aload dX2_firstPortToPowerUp_38 rfl ?_
        refine go_iload_n dX2_firstPortToPowerUp_40 rfl ?_
        refine go_callVi (ci := 1) dX2_firstPortToPowerUp_41 moX1_canPowerUp cvX2_129 ⟨rfl, rfl⟩ (kX1_canPowerUp γ l _ h _ _ (zst_port hs hlt) _) (by first | exact hs 0 (by decide) | exact hs 3 (by decide) | exact hs 1 (by decide) | exact hs 2 (by decide) | exact zst_port hs hlt | exact hs 4 (by decide)) rfl rfl (Nat.le_refl _) (Nat.zero_le _) (Nat.zero_le _) (Nat.le_of_ble_eq_true rfl) ?_
        refine go_if_eq (tgt := 56) dX2_firstPortToPowerUp_44 (by decide) (fun c44 => ?_) (fun c44 => ?_)
        · refine go_iinc dX2_firstPortToPowerUp_56 rfl (nI_1 k) (Nat.le_of_ble_eq_true rfl) ?_
          refine go_goto (tgt := 13) dX2_firstPortToPowerUp_59 (by decide) ?_
          refine go_lv (lv' := [some (.ref a), some (.int (sFp σ (k + 1)).1), some (.int (sFp σ (k + 1)).2), some (.int (sSp σ 8)), some (.int (nI (k + 1))), none]) ?_ (ih (k + 1) (by omega))
          rw [show sFp σ (k + 1) = sFp σ k from if_neg (fun q => zi_0.mp c44 q.2)]
          exact ⟨rfl, rfl, rfl, rfl, rfl, trivial⟩
        · refine go_iload dX2_firstPortToPowerUp_47 rfl ?_
          refine go_istore_n dX2_firstPortToPowerUp_49 (Nat.le_of_ble_eq_true rfl) ?_
          refine go_aload dX2_firstPortToPowerUp_50 rfl ?_
          refine go_getf dX2_firstPortToPowerUp_52 flX2_79 (by first | exact hs 0 (by decide) | exact hs 3 (by decide) | exact hs 1 (by decide) | exact hs 2 (by decide) | exact zst_port hs hlt | exact hs 4 (by decide)) rfl ?_
          refine go_istore_n dX2_firstPortToPowerUp_55 (Nat.le_of_ble_eq_true rfl) ?_
          refine go_iinc dX2_firstPortToPowerUp_56 rfl (nI_1 k) (Nat.le_of_ble_eq_true rfl) ?_
          refine go_goto (tgt := 13) dX2_firstPortToPowerUp_59 (by decide) ?_
          refine go_lv (lv' := [some (.ref a), some (.int (sFp σ (k + 1)).1), some (.int (sFp σ (k + 1)).2), some (.int (sSp σ 8)), some (.int (nI (k + 1))), none]) ?_ (ih (k + 1) (by omega))
          rw [show sFp σ (k + 1) = (nI k, σ (7 + k) 1) from if_pos ⟨Int32.not_le.mp c35, Classical.byContradiction fun q => c44 (zi_0.mpr q)⟩]
          exact ⟨rfl, rfl, rfl, rfl, rfl, trivial⟩
  refine go_bipush (v := (-6)) dX2_firstPortToPowerUp_0 (by decide) ?_
  refine go_istore_n dX2_firstPortToPowerUp_2 (Nat.le_of_ble_eq_true rfl) ?_
  refine go_iconst (v := 3) dX2_firstPortToPowerUp_3 (by decide) ?_
  refine go_istore_n dX2_firstPortToPowerUp_4 (Nat.le_of_ble_eq_true rfl) ?_
  refine go_aload_n dX2_firstPortToPowerUp_5 rfl ?_
  refine go_callVi (ci := 2) dX2_firstPortToPowerUp_6 moX2_sparePower cvX2_104 ⟨rfl, rfl⟩ (kX2_sparePower γ l _ h a σ hs) (by first | exact hs 0 (by decide) | exact hs 3 (by decide) | exact hs 1 (by decide) | exact hs 2 (by decide) | exact zst_port hs hlt | exact hs 4 (by decide)) rfl rfl (Nat.le_refl _) (Nat.zero_le _) (Nat.zero_le _) (Nat.le_of_ble_eq_true rfl) ?_
  refine go_istore_n dX2_firstPortToPowerUp_9 (Nat.le_of_ble_eq_true rfl) ?_
  refine go_iconst (v := 0) dX2_firstPortToPowerUp_10 (by decide) ?_
  refine go_istore dX2_firstPortToPowerUp_11 (Nat.le_of_ble_eq_true rfl) ?_
  exact loop 8 0 rfl
end
section
/-! State: fittingSet, portsAreCalm, isStable; bitCount -/
theorem zgt2 {q m : Nat} (hk : q + (m + 1) = 3) : ¬ (2 : Int32) < nI q := by
  have h1 : (2 : Int32) = nI 2 := rfl
  rw [h1]
  exact nI_nlt (by omega) (by omega)
set_option maxRecDepth 4000 in
theorem kX2_fittingSet (γ : zG) (l : Launch) (n : Nat) (h : zH) (a : Nat) (σ : zS) (hs : zSt16 γ h a σ) : Con γ l (n + 2) 0 0 MX2_fittingSet [.ref a] h (some (.int (sFo σ 3).1)) h := by
  refine Con.go (by decide +kernel) (Nat.le_of_ble_eq_true rfl) ⟨rfl, trivial⟩ ?_
  show Go _ 0 0 0 [some (.ref a), none, none, none, none, none] [] _
  have outer : ∀ (m q : Nat), q + m = 3 → Go (γ, l, n + 2, (0, 0), MX2_fittingSet, zF γ 0 0 (some (.int (sFo σ 3).1)) h) 0 0 9 [some (.ref a), some (.int (sFo σ q).1), some (.int (sFo σ q).2), some (.int (nI q)), none, none] [] h := by
    intro m
    induction m with
    | zero =>
      intro q hkq
      have hqN : q = 3 := by omega
      subst hqN
      refine go_iload_n dX2_fittingSet_9 rfl ?_
      refine go_iconst (v := 2) dX2_fittingSet_10 (by decide) ?_
      refine go_icmp_gt (tgt := 86) dX2_fittingSet_11 (by decide) (fun c11 => ?_) (fun c11 => absurd (by decide) c11)
      refine go_iload_n dX2_fittingSet_86 rfl ?_
      refine go_iret dX2_fittingSet_87 rfl ?_ ?_ (Nat.zero_le _) (Nat.zero_le _)
      · rfl
      · rfl
    | succ m ihq =>
      intro q hkq
      have hq3 : q < 3 := by omega
      have inner : ∀ (m k : Nat), k + m = 8 → Go (γ, l, n + 2, (0, 0), MX2_fittingSet, zF γ 0 0 (some (.int (sFo σ 3).1)) h) 0 0 17 [some (.ref a), some (.int (sFi σ q (sFo σ q) k).1), some (.int (sFi σ q (sFo σ q) k).2), some (.int (nI q)), some (.int (nI k)), none] [] h := by
        intro m
        induction m with
        | zero =>
          intro k hk
          have hkN : k = 8 := by omega
          subst hkN
          refine go_iload dX2_fittingSet_17 rfl ?_
          refine go_bipush (v := 8) dX2_fittingSet_19 (by decide) ?_
          refine go_icmp_ge (tgt := 80) dX2_fittingSet_21 (by decide) (fun c21 => ?_) (fun c21 => absurd (by decide) c21)
          refine go_iinc dX2_fittingSet_80 rfl (nI_1 q) (Nat.le_of_ble_eq_true rfl) ?_
          refine go_goto (tgt := 9) dX2_fittingSet_83 (by decide) ?_
          exact go_vl (ihq (q + 1) (by omega)) ⟨rfl, rfl, rfl, rfl, trivial⟩
        | succ m ih =>
          intro k hk
          have hlt : k < 8 := by omega
          refine go_iload dX2_fittingSet_17 rfl ?_
          refine go_bipush (v := 8) dX2_fittingSet_19 (by decide) ?_
          refine go_icmp_ge (tgt := 80) dX2_fittingSet_21 (by decide) (fun c21 => absurd c21 (zge hk)) (fun c21 => ?_)
          refine go_aload_n dX2_fittingSet_24 rfl ?_
          refine go_getf dX2_fittingSet_25 flX2_21 (by first | exact hs 0 (by decide) | exact hs 3 (by decide) | exact hs 1 (by decide) | exact hs 2 (by decide) | exact zst_port hs hlt | exact hs 4 (by decide)) rfl ?_
          refine go_iload dX2_fittingSet_28 rfl ?_
          refine go_ald (t0 := 2) (C := RX1) dX2_fittingSet_30 (by first | exact hs 0 (by decide) | exact hs 3 (by decide) | exact hs 1 (by decide) | exact hs 2 (by decide) | exact zst_port hs hlt | exact hs 4 (by decide)) rfl (zix rfl hlt (by decide)).1 (zix rfl hlt (by decide)).2 (zrf8 hlt) ?_
          refine go_astore dX2_fittingSet_31 (Nat.le_of_ble_eq_true rfl) ?_
          refine go_aload dX2_fittingSet_33 rfl ?_
          refine go_getf dX2_fittingSet_35 flX2_79 (by first | exact hs 0 (by decide) | exact hs 3 (by decide) | exact hs 1 (by decide) | exact hs 2 (by decide) | exact zst_port hs hlt | exact hs 4 (by decide)) rfl ?_
          refine go_iload_n dX2_fittingSet_38 rfl ?_
          refine go_icmp_ne (tgt := 74) dX2_fittingSet_39 (by decide) (fun c39 => ?_) (fun c39 => ?_)
          · refine go_iinc dX2_fittingSet_74 rfl (nI_1 k) (Nat.le_of_ble_eq_true rfl) ?_
            refine go_goto (tgt := 17) dX2_fittingSet_77 (by decide) ?_
            refine go_lv (lv' := [some (.ref a), some (.int (sFi σ q (sFo σ q) (k + 1)).1), some (.int (sFi σ q (sFo σ q) (k + 1)).2), some (.int (nI q)), some (.int (nI (k + 1))), none]) ?_ (ih (k + 1) (by omega))
            rw [show sFi σ q (sFo σ q) (k + 1) = sFi σ q (sFo σ q) k from if_neg (fun q => c39 q.1)]
            exact ⟨rfl, rfl, rfl, rfl, rfl, trivial⟩
          · refine go_aload dX2_fittingSet_42 rfl ?_
            refine go_callVi (ci := 1) dX2_fittingSet_44 moX1_isEligible cvX2_72 ⟨rfl, rfl⟩ (kX1_isEligible γ l _ h _ _ (zst_port hs hlt)) (by first | exact hs 0 (by decide) | exact hs 3 (by decide) | exact hs 1 (by decide) | exact hs 2 (by decide) | exact zst_port hs hlt | exact hs 4 (by decide)) rfl rfl (Nat.le_refl _) (Nat.zero_le _) (Nat.zero_le _) (Nat.le_of_ble_eq_true rfl) ?_
            refine go_if_eq (tgt := 74) dX2_fittingSet_47 (by decide) (fun c47 => ?_) (fun c47 => ?_)
            · refine go_iinc dX2_fittingSet_74 rfl (nI_1 k) (Nat.le_of_ble_eq_true rfl) ?_
              refine go_goto (tgt := 17) dX2_fittingSet_77 (by decide) ?_
              refine go_lv (lv' := [some (.ref a), some (.int (sFi σ q (sFo σ q) (k + 1)).1), some (.int (sFi σ q (sFo σ q) (k + 1)).2), some (.int (nI q)), some (.int (nI (k + 1))), none]) ?_ (ih (k + 1) (by omega))
              rw [show sFi σ q (sFo σ q) (k + 1) = sFi σ q (sFo σ q) k from if_neg (fun q => zi_0.mp c47 q.2.1)]
              exact ⟨rfl, rfl, rfl, rfl, rfl, trivial⟩
            · refine go_aload dX2_fittingSet_50 rfl ?_
              refine go_getf dX2_fittingSet_52 flX2_82 (by first | exact hs 0 (by decide) | exact hs 3 (by decide) | exact hs 1 (by decide) | exact hs 2 (by decide) | exact zst_port hs hlt | exact hs 4 (by decide)) rfl ?_
              refine go_iload_n dX2_fittingSet_55 rfl ?_
              refine go_icmp_gt (tgt := 74) dX2_fittingSet_56 (by decide) (fun c56 => ?_) (fun c56 => ?_)
              · refine go_iinc dX2_fittingSet_74 rfl (nI_1 k) (Nat.le_of_ble_eq_true rfl) ?_
                refine go_goto (tgt := 17) dX2_fittingSet_77 (by decide) ?_
                refine go_lv (lv' := [some (.ref a), some (.int (sFi σ q (sFo σ q) (k + 1)).1), some (.int (sFi σ q (sFo σ q) (k + 1)).2), some (.int (nI q)), some (.int (nI (k + 1))), none]) ?_ (ih (k + 1) (by omega))
                rw [show sFi σ q (sFo σ q) (k + 1) = sFi σ q (sFo σ q) k from if_neg (fun q => zle.mp q.2.2 c56)]
                exact ⟨rfl, rfl, rfl, rfl, rfl, trivial⟩
              · refine go_iload_n dX2_fittingSet_59 rfl ?_
                refine go_iconst (v := 1) dX2_fittingSet_60 (by decide) ?_
                refine go_iload dX2_fittingSet_61 rfl ?_
                refine go_ishl dX2_fittingSet_63 ?_
                refine go_ior dX2_fittingSet_64 ?_
                refine go_istore_n dX2_fittingSet_65 (Nat.le_of_ble_eq_true rfl) ?_
                refine go_iload_n dX2_fittingSet_66 rfl ?_
                refine go_aload dX2_fittingSet_67 rfl ?_
                refine go_getf dX2_fittingSet_69 flX2_82 (by first | exact hs 0 (by decide) | exact hs 3 (by decide) | exact hs 1 (by decide) | exact hs 2 (by decide) | exact zst_port hs hlt | exact hs 4 (by decide)) rfl ?_
                refine go_isub dX2_fittingSet_72 ?_
                refine go_istore_n dX2_fittingSet_73 (Nat.le_of_ble_eq_true rfl) ?_
                refine go_iinc dX2_fittingSet_74 rfl (nI_1 k) (Nat.le_of_ble_eq_true rfl) ?_
                refine go_goto (tgt := 17) dX2_fittingSet_77 (by decide) ?_
                refine go_lv (lv' := [some (.ref a), some (.int (sFi σ q (sFo σ q) (k + 1)).1), some (.int (sFi σ q (sFo σ q) (k + 1)).2), some (.int (nI q)), some (.int (nI (k + 1))), none]) ?_ (ih (k + 1) (by omega))
                rw [show sFi σ q (sFo σ q) (k + 1) = ((sFi σ q (sFo σ q) k).1 ||| bit (nI k), (sFi σ q (sFo σ q) k).2 - σ (7 + k) 6) from if_pos ⟨c39, Classical.byContradiction fun q => c47 (zi_0.mpr q), zle.mpr c56⟩]
                exact ⟨rfl, rfl, rfl, rfl, rfl, trivial⟩
      refine go_iload_n dX2_fittingSet_9 rfl ?_
      refine go_iconst (v := 2) dX2_fittingSet_10 (by decide) ?_
      refine go_icmp_gt (tgt := 86) dX2_fittingSet_11 (by decide) (fun c11 => absurd c11 (zgt2 hkq)) (fun c11 => ?_)
      refine go_iconst (v := 0) dX2_fittingSet_14 (by decide) ?_
      refine go_istore dX2_fittingSet_15 (Nat.le_of_ble_eq_true rfl) ?_
      exact inner 8 0 rfl
  refine go_iconst (v := 0) dX2_fittingSet_0 (by decide) ?_
  refine go_istore_n dX2_fittingSet_1 (Nat.le_of_ble_eq_true rfl) ?_
  refine go_aload_n dX2_fittingSet_2 rfl ?_
  refine go_callVi (ci := 2) dX2_fittingSet_3 moX2_wholeBudget cvX2_65 ⟨rfl, rfl⟩ (kX2_wholeBudget γ l _ h a σ hs) (by first | exact hs 0 (by decide) | exact hs 3 (by decide) | exact hs 1 (by decide) | exact hs 2 (by decide) | exact zst_port hs hlt | exact hs 4 (by decide)) rfl rfl (Nat.le_refl _) (Nat.zero_le _) (Nat.zero_le _) (Nat.le_of_ble_eq_true rfl) ?_
  refine go_istore_n dX2_fittingSet_6 (Nat.le_of_ble_eq_true rfl) ?_
  refine go_iconst (v := 0) dX2_fittingSet_7 (by decide) ?_
  refine go_istore_n dX2_fittingSet_8 (Nat.le_of_ble_eq_true rfl) ?_
  exact outer 3 0 rfl
abbrev pCalm (f : Nat → Int32) : Prop := ¬ 0 < f 9 ∧ ¬ 0 < f 8 ∧ ¬ (0 < f 7 ∧ f 7 < f 5)
abbrev sCalm (σ : zS) : Prop := ∀ k, k < 8 → pCalm (σ (7 + k))
set_option maxRecDepth 4000 in
theorem kX2_portsAreCalm (γ : zG) (l : Launch) (n : Nat) (h : zH) (a : Nat) (σ : zS) (hs : zSt16 γ h a σ) : Con γ l (n + 2) 0 0 MX2_portsAreCalm [.ref a] h (some (.int (zi (sCalm σ)))) h := by
  refine Con.go (by decide +kernel) (Nat.le_of_ble_eq_true rfl) ⟨rfl, trivial⟩ ?_
  show Go _ 0 0 0 [some (.ref a), none, none] [] _
  have loop : ∀ (m k : Nat), (∀ j, j < k → pCalm (σ (7 + j))) → k + m = 8 → Go (γ, l, n + 2, (0, 0), MX2_portsAreCalm, zF γ 0 0 (some (.int (zi (sCalm σ)))) h) 0 0 2 [some (.ref a), some (.int (nI k)), none] [] h := by
    intro m
    induction m with
    | zero =>
      intro k hc hk
      have hkN : k = 8 := by omega
      subst hkN
      refine go_iload_n dX2_portsAreCalm_2 rfl ?_
      refine go_bipush (v := 8) dX2_portsAreCalm_3 (by decide) ?_
      refine go_icmp_ge (tgt := 44) dX2_portsAreCalm_5 (by decide) (fun c5 => ?_) (fun c5 => absurd (by decide) c5)
      refine go_iconst (v := 1) dX2_portsAreCalm_44 (by decide) ?_
      refine go_zret dX2_portsAreCalm_45 rfl (by first | rfl | exact zi_n) ?_ ?_ (Nat.zero_le _) (Nat.zero_le _)
      · exact zrt hc
      · rfl
    | succ m ih =>
      intro k hc hk
      have hlt : k < 8 := by omega
      refine go_iload_n dX2_portsAreCalm_2 rfl ?_
      refine go_bipush (v := 8) dX2_portsAreCalm_3 (by decide) ?_
      refine go_icmp_ge (tgt := 44) dX2_portsAreCalm_5 (by decide) (fun c5 => absurd c5 (zge hk)) (fun c5 => ?_)
      refine go_aload_n dX2_portsAreCalm_8 rfl ?_
      refine go_getf dX2_portsAreCalm_9 flX2_21 (by first | exact hs 0 (by decide) | exact hs 3 (by decide) | exact hs 1 (by decide) | exact hs 2 (by decide) | exact zst_port hs hlt | exact hs 4 (by decide)) rfl ?_
      refine go_iload_n dX2_portsAreCalm_12 rfl ?_
      refine go_ald (t0 := 2) (C := RX1) dX2_portsAreCalm_13 (by first | exact hs 0 (by decide) | exact hs 3 (by decide) | exact hs 1 (by decide) | exact hs 2 (by decide) | exact zst_port hs hlt | exact hs 4 (by decide)) rfl (zix rfl hlt (by decide)).1 (zix rfl hlt (by decide)).2 (zrf8 hlt) ?_
      refine go_astore_n dX2_portsAreCalm_14 (Nat.le_of_ble_eq_true rfl) ?_
      refine go_aload_n dX2_portsAreCalm_15 rfl ?_
      refine go_getf dX2_portsAreCalm_16 flX2_123 (by first | exact hs 0 (by decide) | exact hs 3 (by decide) | exact hs 1 (by decide) | exact hs 2 (by decide) | exact zst_port hs hlt | exact hs 4 (by decide)) rfl ?_
      refine go_if_gt (tgt := 36) dX2_portsAreCalm_19 (by decide) (fun c19 => ?_) (fun c19 => ?_)
      · refine go_iconst (v := 0) dX2_portsAreCalm_36 (by decide) ?_
        refine go_zret dX2_portsAreCalm_37 rfl (by first | rfl | exact zi_n) ?_ ?_ (Nat.zero_le _) (Nat.zero_le _)
        · exact zrf (fun q => (q k hlt).1 c19)
        · rfl
      · refine go_aload_n dX2_portsAreCalm_22 rfl ?_
        refine go_getf dX2_portsAreCalm_23 flX2_120 (by first | exact hs 0 (by decide) | exact hs 3 (by decide) | exact hs 1 (by decide) | exact hs 2 (by decide) | exact zst_port hs hlt | exact hs 4 (by decide)) rfl ?_
        refine go_if_gt (tgt := 36) dX2_portsAreCalm_26 (by decide) (fun c26 => ?_) (fun c26 => ?_)
        · refine go_iconst (v := 0) dX2_portsAreCalm_36 (by decide) ?_
          refine go_zret dX2_portsAreCalm_37 rfl (by first | rfl | exact zi_n) ?_ ?_ (Nat.zero_le _) (Nat.zero_le _)
          · exact zrf (fun q => (q k hlt).2.1 c26)
          · rfl
        · refine go_aload_n dX2_portsAreCalm_29 rfl ?_
          refine go_callVi (ci := 1) dX2_portsAreCalm_30 moX1_isOverloaded cvX2_117 ⟨rfl, rfl⟩ (kX1_isOverloaded γ l _ h _ _ (zst_port hs hlt)) (by first | exact hs 0 (by decide) | exact hs 3 (by decide) | exact hs 1 (by decide) | exact hs 2 (by decide) | exact zst_port hs hlt | exact hs 4 (by decide)) rfl rfl (Nat.le_refl _) (Nat.zero_le _) (Nat.zero_le _) (Nat.le_of_ble_eq_true rfl) ?_
          refine go_if_eq (tgt := 38) dX2_portsAreCalm_33 (by decide) (fun c33 => ?_) (fun c33 => ?_)
          · refine go_iinc dX2_portsAreCalm_38 rfl (nI_1 k) (Nat.le_of_ble_eq_true rfl) ?_
            refine go_goto (tgt := 2) dX2_portsAreCalm_41 (by decide) ?_
            exact go_vl (ih (k + 1) (fun j hj => by
              rcases Nat.lt_or_eq_of_le (Nat.le_of_lt_succ hj) with h1 | h1
              · exact hc j h1
              · subst h1; exact ⟨c19, c26, zi_0.mp c33⟩) (by omega)) ⟨rfl, rfl, trivial⟩
          · refine go_iconst (v := 0) dX2_portsAreCalm_36 (by decide) ?_
            refine go_zret dX2_portsAreCalm_37 rfl (by first | rfl | exact zi_n) ?_ ?_ (Nat.zero_le _) (Nat.zero_le _)
            · exact zrf (fun q => c33 (zi_0.mpr (q k hlt).2.2))
            · rfl
  refine go_iconst (v := 0) dX2_portsAreCalm_0 (by decide) ?_
  refine go_istore_n dX2_portsAreCalm_1 (Nat.le_of_ble_eq_true rfl) ?_
  exact loop 8 0 (fun j hj => absurd hj (Nat.not_lt_zero j)) rfl
abbrev sStab (σ : zS) : Prop := σ 2 4 = 0 ∧ ¬ sSp σ 8 < 0 ∧ sCalm σ ∧ (sFp σ 8).1 = -6
set_option maxRecDepth 4000 in
theorem kX2_isStable (γ : zG) (l : Launch) (n : Nat) (h : zH) (a : Nat) (σ : zS) (hs : zSt16 γ h a σ) : Con γ l (n + 4) 0 0 MX2_isStable [.ref a] h (some (.int (zi (sStab σ)))) h := by
  refine Con.go (by decide +kernel) (Nat.le_of_ble_eq_true rfl) ⟨rfl, trivial⟩ ?_
  show Go _ 0 0 0 [some (.ref a)] [] _
  refine go_aload_n dX2_isStable_0 rfl ?_
  refine go_getf dX2_isStable_1 flX2_53 (by first | exact hs 0 (by decide) | exact hs 3 (by decide) | exact hs 1 (by decide) | exact hs 2 (by decide) | exact zst_port hs hlt | exact hs 4 (by decide)) rfl ?_
  refine go_if_ne (tgt := 34) dX2_isStable_4 (by decide) (fun c4 => ?_) (fun c4 => ?_)
  · refine go_iconst (v := 0) dX2_isStable_34 (by decide) ?_
    refine go_zret dX2_isStable_35 rfl (by first | rfl | exact zi_n) ?_ ?_ (Nat.zero_le _) (Nat.zero_le _)
    · exact zrf (fun q => c4 q.1)
    · rfl
  · refine go_aload_n dX2_isStable_7 rfl ?_
    refine go_callVi (ci := 2) dX2_isStable_8 moX2_sparePower cvX2_104 ⟨rfl, rfl⟩ (kX2_sparePower γ l _ h a σ hs) (by first | exact hs 0 (by decide) | exact hs 3 (by decide) | exact hs 1 (by decide) | exact hs 2 (by decide) | exact zst_port hs hlt | exact hs 4 (by decide)) rfl rfl (Nat.le_refl _) (Nat.zero_le _) (Nat.zero_le _) (Nat.le_of_ble_eq_true rfl) ?_
    refine go_if_lt (tgt := 34) dX2_isStable_11 (by decide) (fun c11 => ?_) (fun c11 => ?_)
    · refine go_iconst (v := 0) dX2_isStable_34 (by decide) ?_
      refine go_zret dX2_isStable_35 rfl (by first | rfl | exact zi_n) ?_ ?_ (Nat.zero_le _) (Nat.zero_le _)
      · exact zrf (fun q => q.2.1 c11)
      · rfl
    · refine go_aload_n dX2_isStable_14 rfl ?_
      refine go_callVi (ci := 2) dX2_isStable_15 moX2_portsAreCalm cvX2_133 ⟨rfl, rfl⟩ (kX2_portsAreCalm γ l _ h a σ hs) (by first | exact hs 0 (by decide) | exact hs 3 (by decide) | exact hs 1 (by decide) | exact hs 2 (by decide) | exact zst_port hs hlt | exact hs 4 (by decide)) rfl rfl (Nat.le_refl _) (Nat.zero_le _) (Nat.zero_le _) (Nat.le_of_ble_eq_true rfl) ?_
      refine go_if_eq (tgt := 34) dX2_isStable_18 (by decide) (fun c18 => ?_) (fun c18 => ?_)
      · refine go_iconst (v := 0) dX2_isStable_34 (by decide) ?_
        refine go_zret dX2_isStable_35 rfl (by first | rfl | exact zi_n) ?_ ?_ (Nat.zero_le _) (Nat.zero_le _)
        · exact zrf (fun q => zi_0.mp c18 q.2.2.1)
        · rfl
      · refine go_aload_n dX2_isStable_21 rfl ?_
        refine go_callVi (ci := 2) dX2_isStable_22 moX2_firstPortToPowerUp cvX2_126 ⟨rfl, rfl⟩ (kX2_firstPortToPowerUp γ l _ h a σ hs) (by first | exact hs 0 (by decide) | exact hs 3 (by decide) | exact hs 1 (by decide) | exact hs 2 (by decide) | exact zst_port hs hlt | exact hs 4 (by decide)) rfl rfl (Nat.le_refl _) (Nat.zero_le _) (Nat.zero_le _) (Nat.le_of_ble_eq_true rfl) ?_
        refine go_bipush (v := (-6)) dX2_isStable_25 (by decide) ?_
        refine go_icmp_ne (tgt := 34) dX2_isStable_27 (by decide) (fun c27 => ?_) (fun c27 => ?_)
        · refine go_iconst (v := 0) dX2_isStable_34 (by decide) ?_
          refine go_zret dX2_isStable_35 rfl (by first | rfl | exact zi_n) ?_ ?_ (Nat.zero_le _) (Nat.zero_le _)
          · exact zrf (fun q => c27 q.2.2.2)
          · rfl
        · refine go_iconst (v := 1) dX2_isStable_30 (by decide) ?_
          refine go_goto (tgt := 35) dX2_isStable_31 (by decide) ?_
          refine go_zret dX2_isStable_35 rfl (by first | rfl | exact zi_n) ?_ ?_ (Nat.zero_le _) (Nat.zero_le _)
          · exact zrt ⟨c4, c11, Classical.byContradiction fun q => c18 (zi_0.mpr q), c27⟩
          · rfl
def ush (x y : Int32) : Int32 := (x.toUInt32 >>> (y.toUInt32 &&& Int32.toUInt32 31)).toInt32
def zb1 (x : Int32) : Int32 := x - (ush x 1 &&& 1431655765)
def zb2 (x : Int32) : Int32 := (x &&& 858993459) + (ush x 2 &&& 858993459)
def zb3 (x : Int32) : Int32 := (x + ush x 4) &&& 252645135
def zb4 (x : Int32) : Int32 := x + ush x 8
def zb5 (x : Int32) : Int32 := x + ush x 16
def zbc (x : Int32) : Int32 := zb5 (zb4 (zb3 (zb2 (zb1 x)))) &&& 63
set_option maxRecDepth 4000 in
theorem kJ6_bitCount_0f7a4 (γ : zG) (l : Launch) (n : Nat) (h : zH) (x : Int32) : Con γ l (n) 0 0 MJ6_bitCount_0f7a4 [.int x] h (some (.int (zbc x))) h := by
  refine Con.go (by decide +kernel) (Nat.le_of_ble_eq_true rfl) ⟨rfl, trivial⟩ ?_
  show Go _ 0 0 0 [some (.int x)] [] _
  refine go_iload_n dJ6_bitCount_0f7a4_0 rfl ?_
  refine go_iload_n dJ6_bitCount_0f7a4_1 rfl ?_
  refine go_iconst (v := 1) dJ6_bitCount_0f7a4_2 (by decide) ?_
  refine go_iushr dJ6_bitCount_0f7a4_3 ?_
  refine go_ldcw dJ6_bitCount_0f7a4_4 kcJ6_265 ?_
  refine go_iand dJ6_bitCount_0f7a4_7 ?_
  refine go_isub dJ6_bitCount_0f7a4_8 ?_
  refine go_istore_n dJ6_bitCount_0f7a4_9 (Nat.le_of_ble_eq_true rfl) ?_
  refine go_iload_n dJ6_bitCount_0f7a4_10 rfl ?_
  refine go_ldcw dJ6_bitCount_0f7a4_11 kcJ6_266 ?_
  refine go_iand dJ6_bitCount_0f7a4_14 ?_
  refine go_iload_n dJ6_bitCount_0f7a4_15 rfl ?_
  refine go_iconst (v := 2) dJ6_bitCount_0f7a4_16 (by decide) ?_
  refine go_iushr dJ6_bitCount_0f7a4_17 ?_
  refine go_ldcw dJ6_bitCount_0f7a4_18 kcJ6_266 ?_
  refine go_iand dJ6_bitCount_0f7a4_21 ?_
  refine go_iadd dJ6_bitCount_0f7a4_22 ?_
  refine go_istore_n dJ6_bitCount_0f7a4_23 (Nat.le_of_ble_eq_true rfl) ?_
  refine go_iload_n dJ6_bitCount_0f7a4_24 rfl ?_
  refine go_iload_n dJ6_bitCount_0f7a4_25 rfl ?_
  refine go_iconst (v := 4) dJ6_bitCount_0f7a4_26 (by decide) ?_
  refine go_iushr dJ6_bitCount_0f7a4_27 ?_
  refine go_iadd dJ6_bitCount_0f7a4_28 ?_
  refine go_ldcw dJ6_bitCount_0f7a4_29 kcJ6_267 ?_
  refine go_iand dJ6_bitCount_0f7a4_32 ?_
  refine go_istore_n dJ6_bitCount_0f7a4_33 (Nat.le_of_ble_eq_true rfl) ?_
  refine go_iload_n dJ6_bitCount_0f7a4_34 rfl ?_
  refine go_iload_n dJ6_bitCount_0f7a4_35 rfl ?_
  refine go_bipush (v := 8) dJ6_bitCount_0f7a4_36 (by decide) ?_
  refine go_iushr dJ6_bitCount_0f7a4_38 ?_
  refine go_iadd dJ6_bitCount_0f7a4_39 ?_
  refine go_istore_n dJ6_bitCount_0f7a4_40 (Nat.le_of_ble_eq_true rfl) ?_
  refine go_iload_n dJ6_bitCount_0f7a4_41 rfl ?_
  refine go_iload_n dJ6_bitCount_0f7a4_42 rfl ?_
  refine go_bipush (v := 16) dJ6_bitCount_0f7a4_43 (by decide) ?_
  refine go_iushr dJ6_bitCount_0f7a4_45 ?_
  refine go_iadd dJ6_bitCount_0f7a4_46 ?_
  refine go_istore_n dJ6_bitCount_0f7a4_47 (Nat.le_of_ble_eq_true rfl) ?_
  refine go_iload_n dJ6_bitCount_0f7a4_48 rfl ?_
  refine go_bipush (v := 63) dJ6_bitCount_0f7a4_49 (by decide) ?_
  refine go_iand dJ6_bitCount_0f7a4_51 ?_
  refine go_iret dJ6_bitCount_0f7a4_52 rfl ?_ ?_ (Nat.zero_le _) (Nat.zero_le _)
  · rfl
  · rfl
end
section
/-! State: the steps of one second -/
def sOk (σ : zS) : Prop := lOk (fun c => σ (3 + c)) (σ 6 0).toNatClampNeg (σ 6 1).toNatClampNeg
theorem sOk.of {σ : zS} {o c : Nat} (ho : o < 16) (hc : c ≤ 16) (h0 : σ 6 0 = nI o) (h1 : σ 6 1 = nI c) : sOk σ := by
  unfold sOk
  rw [h0, h1, nI_clamp (by omega), nI_clamp (by omega)]
  exact ⟨ho, hc, h0, h1⟩
theorem sOk.up {σ : zS} {c : Nat} {f : Nat → Int32} (h : sOk σ) (hc : c ≠ 6) : sOk (upR σ c f) := by
  have e : upR σ c f 6 = σ 6 := upR_n (Ne.symm hc)
  exact sOk.of h.1 h.2.1 (by rw [e]; exact h.2.2.1) (by rw [e]; exact h.2.2.2)
/-- an event into the log -/
def sLog (σ : zS) (q k : Int32) : zS := upL σ (lAdd (fun c => σ (3 + c)) (σ 6 0).toNatClampNeg (σ 6 1).toNatClampNeg (σ 2 5) q k)
theorem sLog_6 {σ : zS} {q k : Int32} : sLog σ q k 6 = lAdd (fun c => σ (3 + c)) (σ 6 0).toNatClampNeg (σ 6 1).toNatClampNeg (σ 2 5) q k 3 := rfl
theorem sOk.log {σ : zS} {q k : Int32} (h : sOk σ) : sOk (sLog σ q k) := by
  obtain ⟨ho, hc, h0, h1⟩ := h
  generalize hO : (σ 6 0).toNatClampNeg = o at ho h0
  generalize hCn : (σ 6 1).toNatClampNeg = c at hc h1
  have h0 : σ 6 0 = nI o := h0
  have h1 : σ 6 1 = nI c := h1
  by_cases hlt : c < 16
  · refine sOk.of (o := o) (c := c + 1) ho (by omega) ?_ ?_
    · rw [sLog_6, hO, hCn, lAdd, if_pos hlt]; exact h0
    · rw [sLog_6, hO, hCn, lAdd, if_pos hlt]; rfl
  · refine sOk.of (o := (o + 1) % 16) (c := c) (Nat.mod_lt _ (by decide)) hc ?_ ?_
    · rw [sLog_6, hO, hCn, lAdd, if_neg hlt]; rfl
    · rw [sLog_6, hO, hCn, lAdd, if_neg hlt]; exact h1
theorem zst_add {γ : zG} {h : zH} {a : Nat} {σ : zS} {q k : Int32} : zput (zps γ h a σ) (a + 4) 4 (zlo γ (a + 4) (lAdd (fun c => σ (3 + c)) (σ 6 0).toNatClampNeg (σ 6 1).toNatClampNeg (σ 2 5) q k)) = zps γ h a (sLog σ q k) :=
  (zst_rl (zps_is γ h a σ)).trans (zps_zps _ _ _ _ _)
theorem zst_p {γ : zG} {h : zH} {a p : Nat} {σ : zS} {f : Nat → Int32} (hp : p < 8) : zu (zps γ h a σ) (a + 8 + p) (zpo f) = zps γ h a (upR σ (7 + p) f) := (zst_rp (zps_is γ h a σ) hp).trans (zps_zps _ _ _ _ _)
theorem zst_2 {γ : zG} {h : zH} {a : Nat} {σ : zS} {e : va_E} (f : Nat → Int32) (he : zst γ a (upR σ 2 f) 0 = e) : zu (zps γ h a σ) a e = zps γ h a (upR σ 2 f) := (zst_r2 (zps_is γ h a σ) he).trans (zps_zps _ _ _ _ _)
theorem sLp_ix (σ : zS) : ∀ k, k ≤ 8 → (sLp σ k).1 = -6 ∨ ∃ j, j < k ∧ (sLp σ k).1 = nI j
  | 0, _ => Or.inl rfl
  | k + 1, hk => by
    by_cases hc : pPow (σ (7 + k)) ∧ ¬ σ (7 + k) 1 < (sLp σ k).2
    · exact Or.inr ⟨k, Nat.lt_succ_self k, by rw [show sLp σ (k + 1) = (nI k, σ (7 + k) 1) from if_pos hc]⟩
    · rw [show sLp σ (k + 1) = sLp σ k from if_neg hc]
      rcases sLp_ix σ k (by omega) with h | ⟨j, h1, h2⟩
      · exact Or.inl h
      · exact Or.inr ⟨j, by omega, h2⟩
theorem sFp_ix (σ : zS) : ∀ k, k ≤ 8 → (sFp σ k).1 = -6 ∨ ∃ j, j < k ∧ (sFp σ k).1 = nI j
  | 0, _ => Or.inl rfl
  | k + 1, hk => by
    by_cases hc : σ (7 + k) 1 < (sFp σ k).2 ∧ pCan (σ (7 + k)) (sSp σ 8)
    · exact Or.inr ⟨k, Nat.lt_succ_self k, by rw [show sFp σ (k + 1) = (nI k, σ (7 + k) 1) from if_pos hc]⟩
    · rw [show sFp σ (k + 1) = sFp σ k from if_neg hc]
      rcases sFp_ix σ k (by omega) with h | ⟨j, h1, h2⟩
      · exact Or.inl h
      · exact Or.inr ⟨j, by omega, h2⟩
def sLose (σ : zS) (j : Nat) : zS := upR σ (7 + j) (upd (upd (σ (7 + j)) 7 0) 8 0)
/-- shedding, with k rounds left -/
def sSh : Nat → zS × Int32 → zS × Int32
  | 0, s => s
  | k + 1, s => if sSp s.1 8 < 0 then (if (sLp s.1 8).1 = -6 then sSh k s else sSh k (sLog (sLose s.1 (sLp s.1 8).1.toNatClampNeg) (sLp s.1 8).1 1, s.2 ||| bit (sLp s.1 8).1)) else s
theorem sSh_stop {k : Nat} {τ : zS} {x : Int32} (h : ¬ sSp τ 8 < 0) : sSh (k + 1) (τ, x) = (τ, x) := if_neg h
theorem sSh_none {k : Nat} {τ : zS} {x : Int32} (h : sSp τ 8 < 0) (h2 : (sLp τ 8).1 = -6) : sSh (k + 1) (τ, x) = sSh k (τ, x) := (if_pos h).trans (if_pos h2)
theorem sSh_some {k j : Nat} {τ : zS} {x : Int32} (h : sSp τ 8 < 0) (h2 : ¬ (sLp τ 8).1 = -6) (hj : (sLp τ 8).1.toNatClampNeg = j) : sSh (k + 1) (τ, x) = sSh k (sLog (sLose τ j) (sLp τ 8).1 1, x ||| bit (sLp τ 8).1) := by
  subst hj
  exact (if_pos h).trans (if_neg h2)
set_option maxRecDepth 4000 in
theorem kX2_shedPorts_ (γ : zG) (l : Launch) (n : Nat) (h : zH) (a : Nat) (σ : zS) (hs : zSt16 γ h a σ) (hok : sOk σ) (R : zS × Int32) (hR : sSh 8 (σ, 0) = R) : Con γ l (n + 3) 0 0 MX2_shedPorts [.ref a] h (some (.int R.2)) (zps γ h a R.1) := by
  refine Con.go (by decide +kernel) (Nat.le_of_ble_eq_true rfl) ⟨rfl, trivial⟩ ?_
  show Go _ 0 0 0 [some (.ref a), none, none, none] [] _
  have loop : ∀ (m k : Nat) (τ : zS) (x : Int32), k + m = 8 → sOk τ → sSh m (τ, x) = R → Go (γ, l, n + 3, (0, 0), MX2_shedPorts, zF γ 0 0 (some (.int R.2)) (zps γ h a R.1)) 0 0 4 [some (.ref a), some (.int x), some (.int (nI k)), none] [] (zps γ h a τ) := by
    intro m
    induction m with
    | zero =>
      intro k τ x hk hok hf
      have hkN : k = 8 := by omega
      subst hkN
      refine go_iload_n dX2_shedPorts_4 rfl ?_
      refine go_bipush (v := 8) dX2_shedPorts_5 (by decide) ?_
      refine go_icmp_ge (tgt := 62) dX2_shedPorts_7 (by decide) (fun c7 => ?_) (fun c7 => absurd (by decide) c7)
      refine go_iload_n dX2_shedPorts_62 rfl ?_
      refine go_iret dX2_shedPorts_63 rfl ?_ ?_ (Nat.zero_le _) (Nat.zero_le _)
      · (rw [← hf]; rfl)
      · (rw [← hf]; rfl)
    | succ m ih =>
      intro k τ x hk hok hf
      have hs := zps_is γ h a τ
      refine go_iload_n dX2_shedPorts_4 rfl ?_
      refine go_bipush (v := 8) dX2_shedPorts_5 (by decide) ?_
      refine go_icmp_ge (tgt := 62) dX2_shedPorts_7 (by decide) (fun c7 => absurd c7 (zge hk)) (fun c7 => ?_)
      refine go_aload_n dX2_shedPorts_10 rfl ?_
      refine go_callVi (ci := 2) dX2_shedPorts_11 moX2_sparePower cvX2_104 ⟨rfl, rfl⟩ (kX2_sparePower γ l _ _ a τ hs) (by first | exact hs 0 (by decide) | exact hs 3 (by decide) | exact zst_port hs hlt | exact hs 4 (by decide)) rfl rfl (Nat.le_refl _) (Nat.zero_le _) (Nat.zero_le _) (Nat.le_of_ble_eq_true rfl) ?_
      refine go_if_ge (tgt := 62) dX2_shedPorts_14 (by decide) (fun c14 => ?_) (fun c14 => ?_)
      · refine go_iload_n dX2_shedPorts_62 rfl ?_
        refine go_iret dX2_shedPorts_63 rfl ?_ ?_ (Nat.zero_le _) (Nat.zero_le _)
        · rw [← hf, sSh_stop (zle.mp c14)]
        · rw [← hf, sSh_stop (zle.mp c14)]
      · refine go_aload_n dX2_shedPorts_17 rfl ?_
        refine go_callVi (ci := 2) dX2_shedPorts_18 moX2_lastPoweredPort cvX2_107 ⟨rfl, rfl⟩ (kX2_lastPoweredPort γ l _ _ a τ hs) (by first | exact hs 0 (by decide) | exact hs 3 (by decide) | exact zst_port hs hlt | exact hs 4 (by decide)) rfl rfl (Nat.le_refl _) (Nat.zero_le _) (Nat.zero_le _) (Nat.le_of_ble_eq_true rfl) ?_
        refine go_istore_n dX2_shedPorts_21 (Nat.le_of_ble_eq_true rfl) ?_
        refine go_iload_n dX2_shedPorts_22 rfl ?_
        refine go_bipush (v := (-6)) dX2_shedPorts_23 (by decide) ?_
        refine go_icmp_eq (tgt := 56) dX2_shedPorts_25 (by decide) (fun c25 => ?_) (fun c25 => ?_)
        · refine go_iinc dX2_shedPorts_56 rfl (nI_1 k) (Nat.le_of_ble_eq_true rfl) ?_
          refine go_goto (tgt := 4) dX2_shedPorts_59 (by decide) ?_
          exact go_vl (ih (k + 1) τ x (by omega) hok ((sSh_none (Int32.not_le.mp c14) c25).symm.trans hf)) ⟨rfl, rfl, rfl, trivial⟩
        · obtain ⟨j, hlt, ej⟩ : ∃ j, j < 8 ∧ (sLp τ 8).1 = nI j := (sLp_ix τ 8 (Nat.le_refl 8)).resolve_left c25
          refine go_aload_n dX2_shedPorts_28 rfl ?_
          refine go_getf dX2_shedPorts_29 flX2_21 (by first | exact hs 0 (by decide) | exact hs 3 (by decide) | exact zst_port hs hlt | exact hs 4 (by decide)) rfl ?_
          refine go_iload_n dX2_shedPorts_32 rfl ?_
          refine go_ald (t0 := 2) (C := RX1) dX2_shedPorts_33 (by first | exact hs 0 (by decide) | exact hs 3 (by decide) | exact zst_port hs hlt | exact hs 4 (by decide)) rfl (zix ej hlt (by decide)).1 (zix ej hlt (by decide)).2 (zrf8 hlt) ?_
          refine go_callVv (ci := 1) dX2_shedPorts_34 moX1_losePower cvX2_110 ⟨rfl, rfl⟩ (kX1_losePower γ l _ _ _ _ (zst_port hs hlt)) (by exact zst_port hs hlt) rfl rfl (Nat.le_refl _) (Nat.zero_le _) (Nat.zero_le _) (Nat.le_of_ble_eq_true rfl) ?_
          refine go_h (zst_p hlt) ?_
          have hs := zps_is γ h a (sLose τ j)
          refine go_aload_n dX2_shedPorts_37 rfl ?_
          refine go_getf dX2_shedPorts_38 flX2_28 (by first | exact hs 0 (by decide) | exact hs 3 (by decide) | exact zst_port hs hlt | exact hs 4 (by decide)) rfl ?_
          refine go_aload_n dX2_shedPorts_41 rfl ?_
          refine go_getf dX2_shedPorts_42 flX2_56 (by first | exact hs 0 (by decide) | exact hs 3 (by decide) | exact zst_port hs hlt | exact hs 4 (by decide)) rfl ?_
          refine go_iload_n dX2_shedPorts_45 rfl ?_
          refine go_iconst (v := 1) dX2_shedPorts_46 (by decide) ?_
          refine go_callVv (ci := 0) dX2_shedPorts_47 moX0_add cvX2_113 ⟨rfl, rfl⟩ (kX0_add γ l _ _ (a + 4) (fun c => sLose τ j (3 + c)) (zst_log hs) _ _ (hok.up (c := 7 + j) (by omega)) _ _ _) (by exact hs 4 (by decide)) rfl rfl (Nat.le_refl _) (Nat.zero_le _) (Nat.zero_le _) (Nat.le_of_ble_eq_true rfl) ?_
          refine go_h (zst_add (σ := sLose τ j)) ?_
          refine go_iload_n dX2_shedPorts_50 rfl ?_
          refine go_iconst (v := 1) dX2_shedPorts_51 (by decide) ?_
          refine go_iload_n dX2_shedPorts_52 rfl ?_
          refine go_ishl dX2_shedPorts_53 ?_
          refine go_ior dX2_shedPorts_54 ?_
          refine go_istore_n dX2_shedPorts_55 (Nat.le_of_ble_eq_true rfl) ?_
          refine go_iinc dX2_shedPorts_56 rfl (nI_1 k) (Nat.le_of_ble_eq_true rfl) ?_
          refine go_goto (tgt := 4) dX2_shedPorts_59 (by decide) ?_
          exact go_vl (ih (k + 1) (sLog (sLose τ j) (sLp τ 8).1 1) (x ||| bit (sLp τ 8).1) (by omega) (hok.up (c := 7 + j) (by omega)).log ((sSh_some (Int32.not_le.mp c14) c25 (zix ej hlt (by decide)).2).symm.trans hf)) ⟨rfl, rfl, rfl, trivial⟩
  refine go_h (zps_id hs).symm ?_
  refine go_iconst (v := 0) dX2_shedPorts_0 (by decide) ?_
  refine go_istore_n dX2_shedPorts_1 (Nat.le_of_ble_eq_true rfl) ?_
  refine go_iconst (v := 0) dX2_shedPorts_2 (by decide) ?_
  refine go_istore_n dX2_shedPorts_3 (Nat.le_of_ble_eq_true rfl) ?_
  exact go_vl (loop 8 0 σ 0 rfl hok hR) ⟨rfl, rfl, rfl, trivial⟩
theorem kX2_shedPorts (γ : zG) (l : Launch) (n : Nat) (h : zH) (a : Nat) (σ : zS) (hs : zSt16 γ h a σ) (hok : sOk σ) : Con γ l (n + 3) 0 0 MX2_shedPorts [.ref a] h (some (.int (sSh 8 (σ, 0)).2)) (zps γ h a (sSh 8 (σ, 0)).1) := kX2_shedPorts_ γ l n h a σ hs hok _ rfl
end
section
/-! State: overload check, cooldown, power-up, a second -/
theorem upR_upR {σ : zS} {c : Nat} {f g : Nat → Int32} : upR (upR σ c f) c g = upR σ c g := by
  funext x
  by_cases h : x = c <;> simp [upR, h]
theorem zst_pf {γ : zG} {h : zH} {a p : Nat} {σ : zS} {f : Nat → Int32} (hp : p < 8) : (zps γ h a (upR σ (7 + p) f)).1 (a + 8 + p) = some (zpo f) := by
  rw [zst_port (zps_is γ h a _) hp, upR_s]
theorem zst_0u {γ : zG} {h : zH} {a p : Nat} {σ : zS} {f : Nat → Int32} : (zps γ h a (upR σ (7 + p) f)).1 a = some (zst γ a σ 0) := by
  rw [show (zps γ h a (upR σ (7 + p) f)).1 a = some (zst γ a (upR σ (7 + p) f) 0) from zps_is γ h a _ 0 (by decide)]
  simp only [zst, upR_n (show 2 ≠ 7 + p by omega)]
theorem zst_pp {γ : zG} {h : zH} {a p : Nat} {σ : zS} {f g : Nat → Int32} (hp : p < 8) : zu (zps γ h a (upR σ (7 + p) f)) (a + 8 + p) (zpo g) = zps γ h a (upR σ (7 + p) g) := by
  rw [zst_p hp, upR_upR]
def sOv (f : Nat → Int32) : Int32 := if 0 < f 7 ∧ f 7 < f 5 then f 8 + 1 else 0
def sC1 (s : zS × Int32) (k : Nat) : zS × Int32 := if sOv (s.1 (7 + k)) < s.1 2 2 then (upR s.1 (7 + k) (upd (s.1 (7 + k)) 8 (sOv (s.1 (7 + k)))), s.2) else (sLog (upR s.1 (7 + k) (upd (upd (upd (upd (s.1 (7 + k)) 8 (sOv (s.1 (7 + k)))) 7 0) 8 0) 9 (s.1 2 3))) (nI k) 2, s.2 ||| bit (nI k))
def sCt (σ : zS) : Nat → zS × Int32
  | 0 => (σ, 0)
  | k + 1 => sC1 (sCt σ k) k
theorem sC1_ok {s : zS × Int32} {k : Nat} (h : sOk s.1) : sOk (sC1 s k).1 := by
  unfold sC1
  split
  · exact h.up (by omega)
  · exact (h.up (by omega)).log
theorem sCt_ok {σ : zS} (h : sOk σ) : ∀ k, sOk (sCt σ k).1
  | 0 => h
  | k + 1 => sC1_ok (sCt_ok h k)
theorem sSh_ok : ∀ (k : Nat) (s : zS × Int32), sOk s.1 → sOk (sSh k s).1
  | 0, s, h => h
  | k + 1, s, h => by
    unfold sSh
    split
    · split
      · exact sSh_ok k s h
      · exact sSh_ok k _ (sOk.log (h.up (c := 7 + _) (by omega)))
    · exact h
def sD1 (cut : Int32) (σ : zS) (k : Nat) : zS := if cut &&& bit (nI k) = 0 ∧ 0 < σ (7 + k) 9 then upR σ (7 + k) (upd (σ (7 + k)) 9 (σ (7 + k) 9 - 1)) else σ
def sCd (cut : Int32) (σ : zS) : Nat → zS
  | 0 => σ
  | k + 1 => sD1 cut (sCd cut σ k) k
theorem sD1_ok {cut : Int32} {σ : zS} {k : Nat} (h : sOk σ) : sOk (sD1 cut σ k) := by
  unfold sD1
  split
  · exact h.up (by omega)
  · exact h
theorem sCd_ok {cut : Int32} {σ : zS} (h : sOk σ) : ∀ k, sOk (sCd cut σ k)
  | 0 => h
  | k + 1 => sD1_ok (sCd_ok h k)
def sTm (σ : zS) : zS := if 0 < σ 2 4 then up2 σ 2 4 (σ 2 4 - 1) else σ
def sP1 (τ : zS) : zS × Int32 := if 0 < τ 2 4 then (τ, 0) else if (sFp τ 8).1 = -6 then (τ, 0) else (sLog (up2 (upR τ (7 + (sFp τ 8).1.toNatClampNeg) (upd (τ (7 + (sFp τ 8).1.toNatClampNeg)) 7 (τ (7 + (sFp τ 8).1.toNatClampNeg) 6))) 2 4 (τ 2 1)) (sFp τ 8).1 0, 1)
def sPu (σ : zS) : zS × Int32 := sP1 (sTm σ)
theorem sTm_ok {σ : zS} (h : sOk σ) : sOk (sTm σ) := by
  unfold sTm
  split
  · exact h.up (by decide)
  · exact h
theorem sP1_ok {τ : zS} (h : sOk τ) : sOk (sP1 τ).1 := by
  unfold sP1
  split
  · exact h
  · split
    · exact h
    · exact sOk.log (sOk.up (h.up (by omega)) (by decide))
theorem sPu_ok {σ : zS} (h : sOk σ) : sOk (sPu σ).1 := sP1_ok (sTm_ok h)
def sSec (σ : zS) : zS × Int32 :=
  let s1 := sSh 8 (σ, 0)
  let s2 := sCt s1.1 8
  let s3 := sCd s2.2 s2.1 8
  let s4 := sPu s3
  (up2 s4.1 2 5 (s4.1 2 5 + 1), zbc s1.2 + zbc s2.2 + s4.2)
theorem sSec_ok {σ : zS} (h : sOk σ) : sOk (sSec σ).1 := sOk.up (sPu_ok (sCd_ok (sCt_ok (sSh_ok 8 _ h) 8) 8)) (by decide)
set_option maxRecDepth 4000 in
theorem kX2_cutPorts_ (γ : zG) (l : Launch) (n : Nat) (h : zH) (a : Nat) (σ : zS) (hs : zSt16 γ h a σ) (hok : sOk σ) (R : zS × Int32) (hR : sCt σ 8 = R) : Con γ l (n + 3) 0 0 MX2_cutPorts [.ref a] h (some (.int R.2)) (zps γ h a R.1) := by
  refine Con.go (by decide +kernel) (Nat.le_of_ble_eq_true rfl) ⟨rfl, trivial⟩ ?_
  show Go _ 0 0 0 [some (.ref a), none, none, none] [] _
  have loop : ∀ (m k : Nat) (s : zS × Int32), s = sCt σ k → sOk s.1 → k + m = 8 → Go (γ, l, n + 3, (0, 0), MX2_cutPorts, zF γ 0 0 (some (.int R.2)) (zps γ h a R.1)) 0 0 4 [some (.ref a), some (.int s.2), some (.int (nI k)), none] [] (zps γ h a s.1) := by
    intro m
    induction m with
    | zero =>
      intro k s he hok hk
      have hkN : k = 8 := by omega
      subst hkN
      refine go_iload_n dX2_cutPorts_4 rfl ?_
      refine go_bipush (v := 8) dX2_cutPorts_5 (by decide) ?_
      refine go_icmp_ge (tgt := 86) dX2_cutPorts_7 (by decide) (fun c7 => ?_) (fun c7 => absurd (by decide) c7)
      refine go_iload_n dX2_cutPorts_86 rfl ?_
      refine go_iret dX2_cutPorts_87 rfl ?_ ?_ (Nat.zero_le _) (Nat.zero_le _)
      · (rw [← hR, ← he])
      · (rw [← hR, ← he])
    | succ m ih =>
      intro k s he hok hk
      have hlt : k < 8 := by omega
      have hs := zps_is γ h a s.1
      have mid : Go (γ, l, n + 3, (0, 0), MX2_cutPorts, zF γ 0 0 (some (.int R.2)) (zps γ h a R.1)) 0 0 35 [some (.ref a), some (.int s.2), some (.int (nI k)), some (.ref (a + 8 + k))] [.int (sOv (s.1 (7 + k))), .ref (a + 8 + k)] (zps γ h a s.1) := by
        refine go_putf dX2_cutPorts_35 flX2_120 fnX1_8 (by exact zst_port hs hlt) rfl rfl (Nat.le_of_ble_eq_true rfl) ?_
        refine go_h (zst_p (f := (upd (s.1 (7 + k)) 8 (sOv (s.1 (7 + k))))) hlt) ?_
        refine go_aload_n dX2_cutPorts_38 rfl ?_
        refine go_getf dX2_cutPorts_39 flX2_120 (by exact zst_pf hlt) rfl ?_
        refine go_aload_n dX2_cutPorts_42 rfl ?_
        refine go_getf dX2_cutPorts_43 flX2_36 (by exact zst_0u) rfl ?_
        refine go_icmp_lt (tgt := 80) dX2_cutPorts_46 (by decide) (fun c46 => ?_) (fun c46 => ?_)
        · refine go_iinc dX2_cutPorts_80 rfl (nI_1 k) (Nat.le_of_ble_eq_true rfl) ?_
          refine go_goto (tgt := 4) dX2_cutPorts_83 (by decide) ?_
          have e1 : sC1 s k = _ := if_pos c46
          have g := ih (k + 1) (sC1 s k) (by rw [he]; rfl) (sC1_ok hok) (by omega)
          rw [e1] at g
          exact go_vl g ⟨rfl, rfl, rfl, trivial⟩
        · refine go_aload_n dX2_cutPorts_49 rfl ?_
          refine go_callVv (ci := 1) dX2_cutPorts_50 moX1_losePower cvX2_110 ⟨rfl, rfl⟩ (kX1_losePower γ l _ _ _ (upd (s.1 (7 + k)) 8 (sOv (s.1 (7 + k)))) (zst_pf hlt)) (by exact zst_pf hlt) rfl rfl (Nat.le_refl _) (Nat.zero_le _) (Nat.zero_le _) (Nat.le_of_ble_eq_true rfl) ?_
          refine go_h (zst_pp (g := (upd (upd (upd (s.1 (7 + k)) 8 (sOv (s.1 (7 + k)))) 7 0) 8 0)) hlt) ?_
          refine go_aload_n dX2_cutPorts_53 rfl ?_
          refine go_aload_n dX2_cutPorts_54 rfl ?_
          refine go_getf dX2_cutPorts_55 flX2_39 (by exact zst_0u) rfl ?_
          refine go_putf dX2_cutPorts_58 flX2_123 fnX1_9 (by exact zst_pf hlt) rfl rfl (Nat.le_of_ble_eq_true rfl) ?_
          refine go_h (zst_pp (g := (upd (upd (upd (upd (s.1 (7 + k)) 8 (sOv (s.1 (7 + k)))) 7 0) 8 0) 9 (s.1 2 3))) hlt) ?_
          refine go_aload_n dX2_cutPorts_61 rfl ?_
          refine go_getf dX2_cutPorts_62 flX2_28 (by exact zps_is γ h a _ 0 (by decide)) rfl ?_
          refine go_aload_n dX2_cutPorts_65 rfl ?_
          refine go_getf dX2_cutPorts_66 flX2_56 (by exact zps_is γ h a _ 0 (by decide)) rfl ?_
          refine go_iload_n dX2_cutPorts_69 rfl ?_
          refine go_iconst (v := 2) dX2_cutPorts_70 (by decide) ?_
          refine go_callVv (ci := 0) dX2_cutPorts_71 moX0_add cvX2_113 ⟨rfl, rfl⟩ (kX0_add γ l _ _ (a + 4) (fun c => upR s.1 (7 + k) (upd (upd (upd (upd (s.1 (7 + k)) 8 (sOv (s.1 (7 + k)))) 7 0) 8 0) 9 (s.1 2 3)) (3 + c)) (zst_log (zps_is γ h a _)) _ _ (hok.up (c := 7 + k) (by omega)) _ _ _) (by exact zps_is γ h a _ 4 (by decide)) rfl rfl (Nat.le_refl _) (Nat.zero_le _) (Nat.zero_le _) (Nat.le_of_ble_eq_true rfl) ?_
          refine go_h zst_add ?_
          refine go_iload_n dX2_cutPorts_74 rfl ?_
          refine go_iconst (v := 1) dX2_cutPorts_75 (by decide) ?_
          refine go_iload_n dX2_cutPorts_76 rfl ?_
          refine go_ishl dX2_cutPorts_77 ?_
          refine go_ior dX2_cutPorts_78 ?_
          refine go_istore_n dX2_cutPorts_79 (Nat.le_of_ble_eq_true rfl) ?_
          refine go_iinc dX2_cutPorts_80 rfl (nI_1 k) (Nat.le_of_ble_eq_true rfl) ?_
          refine go_goto (tgt := 4) dX2_cutPorts_83 (by decide) ?_
          have e1 : sC1 s k = _ := if_neg c46
          have g := ih (k + 1) (sC1 s k) (by rw [he]; rfl) (sC1_ok hok) (by omega)
          rw [e1] at g
          exact go_vl g ⟨rfl, rfl, rfl, trivial⟩
      refine go_iload_n dX2_cutPorts_4 rfl ?_
      refine go_bipush (v := 8) dX2_cutPorts_5 (by decide) ?_
      refine go_icmp_ge (tgt := 86) dX2_cutPorts_7 (by decide) (fun c7 => absurd c7 (zge hk)) (fun c7 => ?_)
      refine go_aload_n dX2_cutPorts_10 rfl ?_
      refine go_getf dX2_cutPorts_11 flX2_21 (by exact hs 0 (by decide)) rfl ?_
      refine go_iload_n dX2_cutPorts_14 rfl ?_
      refine go_ald (t0 := 2) (C := RX1) dX2_cutPorts_15 (by exact hs 3 (by decide)) rfl (zix rfl hlt (by decide)).1 (zix rfl hlt (by decide)).2 (zrf8 hlt) ?_
      refine go_astore_n dX2_cutPorts_16 (Nat.le_of_ble_eq_true rfl) ?_
      refine go_aload_n dX2_cutPorts_17 rfl ?_
      refine go_aload_n dX2_cutPorts_18 rfl ?_
      refine go_callVi (ci := 1) dX2_cutPorts_19 moX1_isOverloaded cvX2_117 ⟨rfl, rfl⟩ (kX1_isOverloaded γ l _ _ _ _ (zst_port hs hlt)) (by exact zst_port hs hlt) rfl rfl (Nat.le_refl _) (Nat.zero_le _) (Nat.zero_le _) (Nat.le_of_ble_eq_true rfl) ?_
      refine go_if_eq (tgt := 34) dX2_cutPorts_22 (by decide) (fun c22 => ?_) (fun c22 => ?_)
      · refine go_iconst (v := 0) dX2_cutPorts_34 (by decide) ?_
        rw [← show sOv (s.1 (7 + k)) = 0 from if_neg (zi_0.mp c22)]
        exact mid
      · refine go_aload_n dX2_cutPorts_25 rfl ?_
        refine go_getf dX2_cutPorts_26 flX2_120 (by exact zst_port hs hlt) rfl ?_
        refine go_iconst (v := 1) dX2_cutPorts_29 (by decide) ?_
        refine go_iadd dX2_cutPorts_30 ?_
        refine go_goto (tgt := 35) dX2_cutPorts_31 (by decide) ?_
        rw [show s.1 (7 + k) 8 + 1 = sOv (s.1 (7 + k)) from (if_pos (Classical.byContradiction fun q => c22 (zi_0.mpr q))).symm]
        exact mid
  refine go_h (zps_id hs).symm ?_
  refine go_iconst (v := 0) dX2_cutPorts_0 (by decide) ?_
  refine go_istore_n dX2_cutPorts_1 (Nat.le_of_ble_eq_true rfl) ?_
  refine go_iconst (v := 0) dX2_cutPorts_2 (by decide) ?_
  refine go_istore_n dX2_cutPorts_3 (Nat.le_of_ble_eq_true rfl) ?_
  exact go_vl (loop 8 0 (σ, 0) rfl hok rfl) ⟨rfl, rfl, rfl, trivial⟩
set_option maxRecDepth 4000 in
theorem kX2_coolDownExcept_ (γ : zG) (l : Launch) (n : Nat) (h : zH) (a : Nat) (σ : zS) (hs : zSt16 γ h a σ) (cut : Int32) (R : zS) (hR : sCd cut σ 8 = R) : Con γ l (n + 1) 0 0 MX2_coolDownExcept [.ref a, .int cut] h none (zps γ h a R) := by
  refine Con.go (by decide +kernel) (Nat.le_of_ble_eq_true rfl) ⟨rfl, rfl, trivial⟩ ?_
  show Go _ 0 0 0 [some (.ref a), some (.int cut), none, none] [] _
  have loop : ∀ (m k : Nat) (τ : zS), τ = sCd cut σ k → k + m = 8 → Go (γ, l, n + 1, (0, 0), MX2_coolDownExcept, zF γ 0 0 none (zps γ h a R)) 0 0 2 [some (.ref a), some (.int cut), some (.int (nI k)), none] [] (zps γ h a τ) := by
    intro m
    induction m with
    | zero =>
      intro k τ he hk
      have hkN : k = 8 := by omega
      subst hkN
      refine go_iload_n dX2_coolDownExcept_2 rfl ?_
      refine go_bipush (v := 8) dX2_coolDownExcept_3 (by decide) ?_
      refine go_icmp_ge (tgt := 59) dX2_coolDownExcept_5 (by decide) (fun c5 => ?_) (fun c5 => absurd (by decide) c5)
      refine go_vret dX2_coolDownExcept_59 rfl rfl ?_ (Nat.zero_le _) (Nat.zero_le _)
      · (rw [← hR, ← he])
    | succ m ih =>
      intro k τ he hk
      have hlt : k < 8 := by omega
      have hs := zps_is γ h a τ
      have mid : ∀ v : Int32, (v = 0 ↔ cut &&& bit (nI k) = 0) → Go (γ, l, n + 1, (0, 0), MX2_coolDownExcept, zF γ 0 0 none (zps γ h a R)) 0 0 21 [some (.ref a), some (.int cut), some (.int (nI k)), none] [.int v] (zps γ h a τ) := by
        intro v hv
        refine go_istore_n dX2_coolDownExcept_21 (Nat.le_of_ble_eq_true rfl) ?_
        refine go_iload_n dX2_coolDownExcept_22 rfl ?_
        refine go_if_ne (tgt := 53) dX2_coolDownExcept_23 (by decide) (fun c23 => ?_) (fun c23 => ?_)
        · refine go_iinc dX2_coolDownExcept_53 rfl (nI_1 k) (Nat.le_of_ble_eq_true rfl) ?_
          refine go_goto (tgt := 2) dX2_coolDownExcept_56 (by decide) ?_
          have e1 : sD1 cut τ k = _ := if_neg (fun q => c23 (hv.mpr q.1))
          have g := ih (k + 1) (sD1 cut τ k) (by rw [he]; rfl) (by omega)
          rw [e1] at g
          exact go_vl g ⟨rfl, rfl, rfl, trivial⟩
        · refine go_aload_n dX2_coolDownExcept_26 rfl ?_
          refine go_getf dX2_coolDownExcept_27 flX2_21 (by exact hs 0 (by decide)) rfl ?_
          refine go_iload_n dX2_coolDownExcept_30 rfl ?_
          refine go_ald (t0 := 2) (C := RX1) dX2_coolDownExcept_31 (by exact hs 3 (by decide)) rfl (zix rfl hlt (by decide)).1 (zix rfl hlt (by decide)).2 (zrf8 hlt) ?_
          refine go_getf dX2_coolDownExcept_32 flX2_123 (by exact zst_port hs hlt) rfl ?_
          refine go_if_le (tgt := 53) dX2_coolDownExcept_35 (by decide) (fun c35 => ?_) (fun c35 => ?_)
          · refine go_iinc dX2_coolDownExcept_53 rfl (nI_1 k) (Nat.le_of_ble_eq_true rfl) ?_
            refine go_goto (tgt := 2) dX2_coolDownExcept_56 (by decide) ?_
            have e1 : sD1 cut τ k = _ := if_neg (fun q => zle.mp c35 q.2)
            have g := ih (k + 1) (sD1 cut τ k) (by rw [he]; rfl) (by omega)
            rw [e1] at g
            exact go_vl g ⟨rfl, rfl, rfl, trivial⟩
          · refine go_aload_n dX2_coolDownExcept_38 rfl ?_
            refine go_getf dX2_coolDownExcept_39 flX2_21 (by exact hs 0 (by decide)) rfl ?_
            refine go_iload_n dX2_coolDownExcept_42 rfl ?_
            refine go_ald (t0 := 2) (C := RX1) dX2_coolDownExcept_43 (by exact hs 3 (by decide)) rfl (zix rfl hlt (by decide)).1 (zix rfl hlt (by decide)).2 (zrf8 hlt) ?_
            refine go_dup dX2_coolDownExcept_44 rfl ?_
            refine go_getf dX2_coolDownExcept_45 flX2_123 (by exact zst_port hs hlt) rfl ?_
            refine go_iconst (v := 1) dX2_coolDownExcept_48 (by decide) ?_
            refine go_isub dX2_coolDownExcept_49 ?_
            refine go_putf dX2_coolDownExcept_50 flX2_123 fnX1_9 (by exact zst_port hs hlt) rfl rfl (Nat.le_of_ble_eq_true rfl) ?_
            refine go_iinc dX2_coolDownExcept_53 rfl (nI_1 k) (Nat.le_of_ble_eq_true rfl) ?_
            refine go_goto (tgt := 2) dX2_coolDownExcept_56 (by decide) ?_
            refine go_h (zst_p (f := upd (τ (7 + k)) 9 (τ (7 + k) 9 - 1)) hlt) ?_
            have e1 : sD1 cut τ k = _ := if_pos ⟨hv.mp c23, Int32.not_le.mp c35⟩
            have g := ih (k + 1) (sD1 cut τ k) (by rw [he]; rfl) (by omega)
            rw [e1] at g
            exact go_vl g ⟨rfl, rfl, rfl, trivial⟩
      refine go_iload_n dX2_coolDownExcept_2 rfl ?_
      refine go_bipush (v := 8) dX2_coolDownExcept_3 (by decide) ?_
      refine go_icmp_ge (tgt := 59) dX2_coolDownExcept_5 (by decide) (fun c5 => absurd c5 (zge hk)) (fun c5 => ?_)
      refine go_iload_n dX2_coolDownExcept_8 rfl ?_
      refine go_iconst (v := 1) dX2_coolDownExcept_9 (by decide) ?_
      refine go_iload_n dX2_coolDownExcept_10 rfl ?_
      refine go_ishl dX2_coolDownExcept_11 ?_
      refine go_iand dX2_coolDownExcept_12 ?_
      refine go_if_eq (tgt := 20) dX2_coolDownExcept_13 (by decide) (fun c13 => ?_) (fun c13 => ?_)
      · refine go_iconst (v := 0) dX2_coolDownExcept_20 (by decide) ?_
        exact mid 0 ⟨fun _ => c13, fun _ => rfl⟩
      · refine go_iconst (v := 1) dX2_coolDownExcept_16 (by decide) ?_
        refine go_goto (tgt := 21) dX2_coolDownExcept_17 (by decide) ?_
        exact mid 1 ⟨fun q => absurd q (by decide), fun q => absurd q c13⟩
  refine go_h (zps_id hs).symm ?_
  refine go_iconst (v := 0) dX2_coolDownExcept_0 (by decide) ?_
  refine go_istore_n dX2_coolDownExcept_1 (Nat.le_of_ble_eq_true rfl) ?_
  exact go_vl (loop 8 0 σ rfl rfl) ⟨rfl, rfl, rfl, trivial⟩
set_option maxRecDepth 4000 in
theorem kX2_powerUp_ (γ : zG) (l : Launch) (n : Nat) (h : zH) (a : Nat) (σ : zS) (hs : zSt16 γ h a σ) (hok : sOk σ) (R : zS × Int32) (hR : sPu σ = R) : Con γ l (n + 4) 0 0 MX2_powerUp [.ref a] h (some (.int R.2)) (zps γ h a R.1) := by
  refine Con.go (by decide +kernel) (Nat.le_of_ble_eq_true rfl) ⟨rfl, trivial⟩ ?_
  show Go _ 0 0 0 [some (.ref a), none] [] _
  have mid : ∀ τ : zS, sOk τ → sP1 τ = R → Go (γ, l, n + 4, (0, 0), MX2_powerUp, zF γ 0 0 (some (.int R.2)) (zps γ h a R.1)) 0 0 17 [some (.ref a), none] [] (zps γ h a τ) := by
    intro τ hok hf
    have hs := zps_is γ h a τ
    refine go_aload_n dX2_powerUp_17 rfl ?_
    refine go_getf dX2_powerUp_18 flX2_53 (by exact hs 0 (by decide)) rfl ?_
    refine go_if_le (tgt := 26) dX2_powerUp_21 (by decide) (fun c21 => ?_) (fun c21 => ?_)
    · refine go_aload_n dX2_powerUp_26 rfl ?_
      refine go_callVi (ci := 2) dX2_powerUp_27 moX2_firstPortToPowerUp cvX2_126 ⟨rfl, rfl⟩ (kX2_firstPortToPowerUp γ l _ _ a τ hs) (by exact hs 0 (by decide)) rfl rfl (Nat.le_refl _) (Nat.zero_le _) (Nat.zero_le _) (Nat.le_of_ble_eq_true rfl) ?_
      refine go_istore_n dX2_powerUp_30 (Nat.le_of_ble_eq_true rfl) ?_
      refine go_iload_n dX2_powerUp_31 rfl ?_
      refine go_bipush (v := (-6)) dX2_powerUp_32 (by decide) ?_
      refine go_icmp_ne (tgt := 39) dX2_powerUp_34 (by decide) (fun c34 => ?_) (fun c34 => ?_)
      · obtain ⟨j, hlt, ej⟩ : ∃ j, j < 8 ∧ (sFp τ 8).1 = nI j := (sFp_ix τ 8 (Nat.le_refl 8)).resolve_left c34
        refine go_aload_n dX2_powerUp_39 rfl ?_
        refine go_getf dX2_powerUp_40 flX2_21 (by exact hs 0 (by decide)) rfl ?_
        refine go_iload_n dX2_powerUp_43 rfl ?_
        refine go_ald (t0 := 2) (C := RX1) dX2_powerUp_44 (by exact hs 3 (by decide)) rfl (zix ej hlt (by decide)).1 (zix ej hlt (by decide)).2 (zrf8 hlt) ?_
        refine go_aload_n dX2_powerUp_45 rfl ?_
        refine go_getf dX2_powerUp_46 flX2_21 (by exact hs 0 (by decide)) rfl ?_
        refine go_iload_n dX2_powerUp_49 rfl ?_
        refine go_ald (t0 := 2) (C := RX1) dX2_powerUp_50 (by exact hs 3 (by decide)) rfl (zix ej hlt (by decide)).1 (zix ej hlt (by decide)).2 (zrf8 hlt) ?_
        refine go_getf dX2_powerUp_51 flX2_82 (by exact zst_port hs hlt) rfl ?_
        refine go_putf dX2_powerUp_54 flX2_69 fnX1_7 (by exact zst_port hs hlt) rfl rfl (Nat.le_of_ble_eq_true rfl) ?_
        refine go_h (zst_p (f := (upd (τ (7 + j)) 7 (τ (7 + j) 6))) hlt) ?_
        refine go_aload_n dX2_powerUp_57 rfl ?_
        refine go_aload_n dX2_powerUp_58 rfl ?_
        refine go_getf dX2_powerUp_59 flX2_32 (by exact zst_0u) rfl ?_
        refine go_putf dX2_powerUp_62 flX2_53 fnX2_8 (by exact zps_is γ h a _ 0 (by decide)) rfl rfl (Nat.le_of_ble_eq_true rfl) ?_
        refine go_h (zst_2 (upd (upR τ (7 + j) (upd (τ (7 + j)) 7 (τ (7 + j) 6)) 2) 4 (τ 2 1)) rfl) ?_
        refine go_aload_n dX2_powerUp_65 rfl ?_
        refine go_getf dX2_powerUp_66 flX2_28 (by exact zps_is γ h a _ 0 (by decide)) rfl ?_
        refine go_aload_n dX2_powerUp_69 rfl ?_
        refine go_getf dX2_powerUp_70 flX2_56 (by exact zps_is γ h a _ 0 (by decide)) rfl ?_
        refine go_iload_n dX2_powerUp_73 rfl ?_
        refine go_iconst (v := 0) dX2_powerUp_74 (by decide) ?_
        refine go_callVv (ci := 0) dX2_powerUp_75 moX0_add cvX2_113 ⟨rfl, rfl⟩ (kX0_add γ l _ _ (a + 4) (fun c => up2 (upR τ (7 + j) (upd (τ (7 + j)) 7 (τ (7 + j) 6))) 2 4 (τ 2 1) (3 + c)) (zst_log (zps_is γ h a _)) _ _ (sOk.up (hok.up (c := 7 + j) (by omega)) (by decide)) _ _ _) (by exact zps_is γ h a _ 4 (by decide)) rfl rfl (Nat.le_refl _) (Nat.zero_le _) (Nat.zero_le _) (Nat.le_of_ble_eq_true rfl) ?_
        refine go_h zst_add ?_
        refine go_iconst (v := 1) dX2_powerUp_78 (by decide) ?_
        refine go_iret dX2_powerUp_79 rfl ?_ ?_ (Nat.zero_le _) (Nat.zero_le _)
        · rw [← hf, show sP1 τ = _ from (if_neg (zle.mp c21)).trans (if_neg c34), (zix ej hlt (by decide)).2]
        · rw [← hf, show sP1 τ = _ from (if_neg (zle.mp c21)).trans (if_neg c34), (zix ej hlt (by decide)).2]
      · refine go_iconst (v := 0) dX2_powerUp_37 (by decide) ?_
        refine go_iret dX2_powerUp_38 rfl ?_ ?_ (Nat.zero_le _) (Nat.zero_le _)
        · rw [← hf, show sP1 τ = (τ, 0) from (if_neg (zle.mp c21)).trans (if_pos c34)]
        · rw [← hf, show sP1 τ = (τ, 0) from (if_neg (zle.mp c21)).trans (if_pos c34)]
    · refine go_iconst (v := 0) dX2_powerUp_24 (by decide) ?_
      refine go_iret dX2_powerUp_25 rfl ?_ ?_ (Nat.zero_le _) (Nat.zero_le _)
      · rw [← hf, show sP1 τ = (τ, 0) from if_pos (Int32.not_le.mp c21)]
      · rw [← hf, show sP1 τ = (τ, 0) from if_pos (Int32.not_le.mp c21)]
  refine go_h (zps_id hs).symm ?_
  have hs := zps_is γ h a σ
  refine go_aload_n dX2_powerUp_0 rfl ?_
  refine go_getf dX2_powerUp_1 flX2_53 (by exact hs 0 (by decide)) rfl ?_
  refine go_if_le (tgt := 17) dX2_powerUp_4 (by decide) (fun c4 => ?_) (fun c4 => ?_)
  · exact mid σ hok (by rw [← hR, sPu, show sTm σ = σ from if_neg (zle.mp c4)])
  · refine go_aload_n dX2_powerUp_7 rfl ?_
    refine go_dup dX2_powerUp_8 rfl ?_
    refine go_getf dX2_powerUp_9 flX2_53 (by exact hs 0 (by decide)) rfl ?_
    refine go_iconst (v := 1) dX2_powerUp_12 (by decide) ?_
    refine go_isub dX2_powerUp_13 ?_
    refine go_putf dX2_powerUp_14 flX2_53 fnX2_8 (by exact hs 0 (by decide)) rfl rfl (Nat.le_of_ble_eq_true rfl) ?_
    refine go_h (zst_2 (upd (σ 2) 4 (σ 2 4 - 1)) rfl) ?_
    exact mid _ (sOk.up hok (c := 2) (by decide)) (by rw [← hR, sPu, show sTm σ = _ from if_pos (Int32.not_le.mp c4)]; rfl)
end
section
/-! State: runSecond, copyFrom -/
set_option maxRecDepth 4000 in
theorem kX2_runSecond_ (γ : zG) (l : Launch) (n : Nat) (h : zH) (a : Nat) (σ : zS) (hs : zSt16 γ h a σ) (hok : sOk σ) (R : zS × Int32) (hR : sSec σ = R) : Con γ l (n + 5) 0 0 MX2_runSecond [.ref a] h (some (.int R.2)) (zps γ h a R.1) := by
  refine Con.go (by decide +kernel) (Nat.le_of_ble_eq_true rfl) ⟨rfl, trivial⟩ ?_
  show Go _ 0 0 0 [some (.ref a), none, none, none] [] _
  obtain ⟨s1, h1⟩ : ∃ s1, sSh 8 (σ, 0) = s1 := ⟨_, rfl⟩
  obtain ⟨s2, h2⟩ : ∃ s2, sCt s1.1 8 = s2 := ⟨_, rfl⟩
  obtain ⟨s3, h3⟩ : ∃ s3, sCd s2.2 s2.1 8 = s3 := ⟨_, rfl⟩
  obtain ⟨s4, h4⟩ : ∃ s4, sPu s3 = s4 := ⟨_, rfl⟩
  have k1 : sOk s1.1 := by rw [← h1]; exact sSh_ok 8 _ hok
  have k3 : sOk s3 := by rw [← h3, ← h2]; exact sCd_ok (sCt_ok k1 8) 8
  have hE : sSec σ = (up2 s4.1 2 5 (s4.1 2 5 + 1), zbc s1.2 + zbc s2.2 + s4.2) := by simp only [sSec, h1, h2, h3, h4]
  refine go_aload_n dX2_runSecond_0 rfl ?_
  refine go_callVi (ci := 2) dX2_runSecond_1 moX2_shedPorts cvX2_85 ⟨rfl, rfl⟩ (kX2_shedPorts_ γ l _ h a σ hs hok s1 h1) (by exact hs 0 (by decide)) rfl rfl (Nat.le_refl _) (Nat.zero_le _) (Nat.zero_le _) (Nat.le_of_ble_eq_true rfl) ?_
  refine go_istore_n dX2_runSecond_4 (Nat.le_of_ble_eq_true rfl) ?_
  refine go_aload_n dX2_runSecond_5 rfl ?_
  refine go_callVi (ci := 2) dX2_runSecond_6 moX2_cutPorts cvX2_88 ⟨rfl, rfl⟩ (kX2_cutPorts_ γ l _ _ a s1.1 (zps_is γ h a _) k1 s2 h2) (by exact zps_is γ h a _ 0 (by decide)) rfl rfl (Nat.le_refl _) (Nat.zero_le _) (Nat.zero_le _) (Nat.le_of_ble_eq_true rfl) ?_
  refine go_h (zps_zps _ _ _ _ _) ?_
  refine go_istore_n dX2_runSecond_9 (Nat.le_of_ble_eq_true rfl) ?_
  refine go_aload_n dX2_runSecond_10 rfl ?_
  refine go_iload_n dX2_runSecond_11 rfl ?_
  refine go_callVv (ci := 2) dX2_runSecond_12 moX2_coolDownExcept cvX2_91 ⟨rfl, rfl⟩ (kX2_coolDownExcept_ γ l _ _ a s2.1 (zps_is γ h a _) _ s3 h3) (by exact zps_is γ h a _ 0 (by decide)) rfl rfl (Nat.le_refl _) (Nat.zero_le _) (Nat.zero_le _) (Nat.le_of_ble_eq_true rfl) ?_
  refine go_h (zps_zps _ _ _ _ _) ?_
  refine go_aload_n dX2_runSecond_15 rfl ?_
  refine go_callVi (ci := 2) dX2_runSecond_16 moX2_powerUp cvX2_95 ⟨rfl, rfl⟩ (kX2_powerUp_ γ l _ _ a s3 (zps_is γ h a _) k3 s4 h4) (by exact zps_is γ h a _ 0 (by decide)) rfl rfl (Nat.le_refl _) (Nat.zero_le _) (Nat.zero_le _) (Nat.le_of_ble_eq_true rfl) ?_
  refine go_h (zps_zps _ _ _ _ _) ?_
  refine go_istore_n dX2_runSecond_19 (Nat.le_of_ble_eq_true rfl) ?_
  refine go_aload_n dX2_runSecond_20 rfl ?_
  refine go_dup dX2_runSecond_21 rfl ?_
  refine go_getf dX2_runSecond_22 flX2_56 (by exact zps_is γ h a _ 0 (by decide)) rfl ?_
  refine go_iconst (v := 1) dX2_runSecond_25 (by decide) ?_
  refine go_iadd dX2_runSecond_26 ?_
  refine go_putf dX2_runSecond_27 flX2_56 fnX2_9 (by exact zps_is γ h a _ 0 (by decide)) rfl rfl (Nat.le_of_ble_eq_true rfl) ?_
  refine go_h (zst_2 (upd (s4.1 2) 5 (s4.1 2 5 + 1)) rfl) ?_
  refine go_iload_n dX2_runSecond_30 rfl ?_
  refine go_callSi dX2_runSecond_31 moJ6_bitCount_0f7a4 csX2_98 (kJ6_bitCount_0f7a4 γ l _ _ _) rfl rfl (Nat.le_refl _) (Nat.zero_le _) (Nat.zero_le _) (Nat.le_of_ble_eq_true rfl) ?_
  refine go_iload_n dX2_runSecond_34 rfl ?_
  refine go_callSi dX2_runSecond_35 moJ6_bitCount_0f7a4 csX2_98 (kJ6_bitCount_0f7a4 γ l _ _ _) rfl rfl (Nat.le_refl _) (Nat.zero_le _) (Nat.zero_le _) (Nat.le_of_ble_eq_true rfl) ?_
  refine go_iadd dX2_runSecond_38 ?_
  refine go_iload_n dX2_runSecond_39 rfl ?_
  refine go_iadd dX2_runSecond_40 ?_
  refine go_iret dX2_runSecond_41 rfl ?_ ?_ (Nat.zero_le _) (Nat.zero_le _)
  · rw [← hR, hE]
  · rw [← hR, hE]; rfl
def sX1 (σ τ : zS) : Nat → zS
  | 0 => σ
  | k + 1 => up2 (up2 (sX1 σ τ k) 0 k (τ 0 k)) 1 k (τ 1 k)
def sX2 (σ τ : zS) : Nat → zS
  | 0 => sX1 σ τ 3
  | k + 1 => upR (sX2 σ τ k) (7 + k) (τ (7 + k))
def sX3 (ρ τ : zS) : zS := upL ρ (lCpy (fun c => ρ (3 + c)) (fun c => τ (3 + c)))
def sCp (σ τ : zS) : zS := let ρ := sX3 (sX2 σ τ 8) τ
  up2 (up2 (up2 (up2 (up2 (up2 ρ 2 0 (τ 2 0)) 2 1 (τ 2 1)) 2 2 (τ 2 2)) 2 3 (τ 2 3)) 2 4 (τ 2 4)) 2 5 (τ 2 5)
def sBo (τ : zS) : Prop := (∀ k, k < 3 → zB (τ 1 k)) ∧ ∀ k, k < 8 → zbo (τ (7 + k))
theorem zst_0 {γ : zG} {h : zH} {a : Nat} {σ : zS} {f : Nat → Int32} : zu (zps γ h a σ) (a + 1) (zai γ 3 f) = zps γ h a (upR σ 0 f) := (zst_r0 (zps_is γ h a σ)).trans (zps_zps _ _ _ _ _)
theorem zst_1 {γ : zG} {h : zH} {a : Nat} {σ : zS} {f : Nat → Int32} : zu (zps γ h a σ) (a + 2) (zaz γ 3 f) = zps γ h a (upR σ 1 f) := (zst_r1 (zps_is γ h a σ)).trans (zps_zps _ _ _ _ _)
theorem zst_l {γ : zG} {h : zH} {a : Nat} {σ : zS} {L : Nat → Nat → Int32} : zput (zps γ h a σ) (a + 4) 4 (zlo γ (a + 4) L) = zps γ h a (upL σ L) := (zst_rl (zps_is γ h a σ)).trans (zps_zps _ _ _ _ _)
theorem zps_o {γ : zG} {h : zH} {a b : Nat} {σ τ : zS} (ht : zSt16 γ h b τ) (hd : b + 16 ≤ a ∨ a + 16 ≤ b) : zSt16 γ (zps γ h a σ) b τ := zIs.out ht (by omega)
set_option maxRecDepth 4000 in
theorem kX2_copyFrom_ (γ : zG) (l : Launch) (n : Nat) (h : zH) (a : Nat) (σ : zS) (hs : zSt16 γ h a σ) (b : Nat) (τ : zS) (ht0 : zSt16 γ h b τ) (hd : b + 16 ≤ a ∨ a + 16 ≤ b) (hbo : sBo τ) (R : zS) (hR : sCp σ τ = R) : Con γ l (n + 2) 0 0 MX2_copyFrom [.ref a, .ref b] h none (zps γ h a R) := by
  refine Con.go (by decide +kernel) (Nat.le_of_ble_eq_true rfl) ⟨rfl, rfl, trivial⟩ ?_
  show Go _ 0 0 0 [some (.ref a), some (.ref b), none] [] _
  have loop2 : ∀ (m k : Nat) (ρ : zS), ρ = sX2 σ τ k → k + m = 8 → Go (γ, l, n + 2, (0, 0), MX2_copyFrom, zF γ 0 0 none (zps γ h a R)) 0 0 39 [some (.ref a), some (.ref b), some (.int (nI k))] [] (zps γ h a ρ) := by
    intro m
    induction m with
    | zero =>
      intro k ρ he hk
      have hkN : k = 8 := by omega
      subst hkN
      refine go_iload_n dX2_copyFrom_39 rfl ?_
      refine go_bipush (v := 8) dX2_copyFrom_40 (by decide) ?_
      refine go_icmp_ge (tgt := 66) dX2_copyFrom_42 (by decide) (fun c42 => ?_) (fun c42 => absurd (by decide) c42)
      refine go_aload_n dX2_copyFrom_66 rfl ?_
      refine go_getf dX2_copyFrom_67 flX2_28 (by exact zps_is γ h a _ 0 (by decide)) rfl ?_
      refine go_aload_n dX2_copyFrom_70 rfl ?_
      refine go_getf dX2_copyFrom_71 flX2_28 (by exact zps_o ht0 hd 0 (by decide)) rfl ?_
      refine go_callVv (ci := 0) dX2_copyFrom_74 moX0_copyFrom cvX2_47 ⟨rfl, rfl⟩ (kX0_copyFrom γ l _ _ (a + 4) (fun c => ρ (3 + c)) (zst_log (zps_is γ h a _)) (b + 4) (fun c => τ (3 + c)) (zst_log (zps_o ht0 hd)) (by omega)) (by exact zps_is γ h a _ 4 (by decide)) rfl rfl (Nat.le_refl _) (Nat.zero_le _) (Nat.zero_le _) (Nat.le_of_ble_eq_true rfl) ?_
      refine go_h zst_l ?_
      generalize hr2 : upL ρ (lCpy (fun c => ρ (3 + c)) (fun c => τ (3 + c))) = ρ2
      refine go_aload_n dX2_copyFrom_77 rfl ?_
      refine go_aload_n dX2_copyFrom_78 rfl ?_
      refine go_getf dX2_copyFrom_79 flX2_50 (by exact zps_o ht0 hd 0 (by decide)) rfl ?_
      refine go_putf dX2_copyFrom_82 flX2_50 fnX2_4 (by exact zps_is γ h a _ 0 (by decide)) rfl rfl (Nat.le_of_ble_eq_true rfl) ?_
      refine go_h (zst_2 (upd (ρ2 2) 0 (τ 2 0)) rfl) ?_
      refine go_aload_n dX2_copyFrom_85 rfl ?_
      refine go_aload_n dX2_copyFrom_86 rfl ?_
      refine go_getf dX2_copyFrom_87 flX2_32 (by exact zps_o ht0 hd 0 (by decide)) rfl ?_
      refine go_putf dX2_copyFrom_90 flX2_32 fnX2_5 (by exact zps_is γ h a _ 0 (by decide)) rfl rfl (Nat.le_of_ble_eq_true rfl) ?_
      refine go_h (zst_2 (upd (up2 ρ2 2 0 (τ 2 0) 2) 1 (τ 2 1)) rfl) ?_
      refine go_aload_n dX2_copyFrom_93 rfl ?_
      refine go_aload_n dX2_copyFrom_94 rfl ?_
      refine go_getf dX2_copyFrom_95 flX2_36 (by exact zps_o ht0 hd 0 (by decide)) rfl ?_
      refine go_putf dX2_copyFrom_98 flX2_36 fnX2_6 (by exact zps_is γ h a _ 0 (by decide)) rfl rfl (Nat.le_of_ble_eq_true rfl) ?_
      refine go_h (zst_2 (upd (up2 (up2 ρ2 2 0 (τ 2 0)) 2 1 (τ 2 1) 2) 2 (τ 2 2)) rfl) ?_
      refine go_aload_n dX2_copyFrom_101 rfl ?_
      refine go_aload_n dX2_copyFrom_102 rfl ?_
      refine go_getf dX2_copyFrom_103 flX2_39 (by exact zps_o ht0 hd 0 (by decide)) rfl ?_
      refine go_putf dX2_copyFrom_106 flX2_39 fnX2_7 (by exact zps_is γ h a _ 0 (by decide)) rfl rfl (Nat.le_of_ble_eq_true rfl) ?_
      refine go_h (zst_2 (upd (up2 (up2 (up2 ρ2 2 0 (τ 2 0)) 2 1 (τ 2 1)) 2 2 (τ 2 2) 2) 3 (τ 2 3)) rfl) ?_
      refine go_aload_n dX2_copyFrom_109 rfl ?_
      refine go_aload_n dX2_copyFrom_110 rfl ?_
      refine go_getf dX2_copyFrom_111 flX2_53 (by exact zps_o ht0 hd 0 (by decide)) rfl ?_
      refine go_putf dX2_copyFrom_114 flX2_53 fnX2_8 (by exact zps_is γ h a _ 0 (by decide)) rfl rfl (Nat.le_of_ble_eq_true rfl) ?_
      refine go_h (zst_2 (upd (up2 (up2 (up2 (up2 ρ2 2 0 (τ 2 0)) 2 1 (τ 2 1)) 2 2 (τ 2 2)) 2 3 (τ 2 3) 2) 4 (τ 2 4)) rfl) ?_
      refine go_aload_n dX2_copyFrom_117 rfl ?_
      refine go_aload_n dX2_copyFrom_118 rfl ?_
      refine go_getf dX2_copyFrom_119 flX2_56 (by exact zps_o ht0 hd 0 (by decide)) rfl ?_
      refine go_putf dX2_copyFrom_122 flX2_56 fnX2_9 (by exact zps_is γ h a _ 0 (by decide)) rfl rfl (Nat.le_of_ble_eq_true rfl) ?_
      refine go_h (zst_2 (upd (up2 (up2 (up2 (up2 (up2 ρ2 2 0 (τ 2 0)) 2 1 (τ 2 1)) 2 2 (τ 2 2)) 2 3 (τ 2 3)) 2 4 (τ 2 4) 2) 5 (τ 2 5)) rfl) ?_
      refine go_vret dX2_copyFrom_125 rfl rfl ?_ (Nat.zero_le _) (Nat.zero_le _)
      · (rw [← hR, sCp, sX3, ← he, hr2]; rfl)
    | succ m ih =>
      intro k ρ he hk
      have hlt : k < 8 := by omega
      refine go_iload_n dX2_copyFrom_39 rfl ?_
      refine go_bipush (v := 8) dX2_copyFrom_40 (by decide) ?_
      refine go_icmp_ge (tgt := 66) dX2_copyFrom_42 (by decide) (fun c42 => absurd c42 (zge hk)) (fun c42 => ?_)
      refine go_aload_n dX2_copyFrom_45 rfl ?_
      refine go_getf dX2_copyFrom_46 flX2_21 (by exact zps_is γ h a _ 0 (by decide)) rfl ?_
      refine go_iload_n dX2_copyFrom_49 rfl ?_
      refine go_ald (t0 := 2) (C := RX1) dX2_copyFrom_50 (by exact zps_is γ h a _ 3 (by decide)) rfl (zix rfl hlt (by decide)).1 (zix rfl hlt (by decide)).2 (zrf8 hlt) ?_
      refine go_aload_n dX2_copyFrom_51 rfl ?_
      refine go_getf dX2_copyFrom_52 flX2_21 (by exact zps_o ht0 hd 0 (by decide)) rfl ?_
      refine go_iload_n dX2_copyFrom_55 rfl ?_
      refine go_ald (t0 := 2) (C := RX1) dX2_copyFrom_56 (by exact zps_o ht0 hd 3 (by decide)) rfl (zix rfl hlt (by decide)).1 (zix rfl hlt (by decide)).2 (zrf8 hlt) ?_
      refine go_callVv (ci := 1) dX2_copyFrom_57 moX1_copyFrom cvX2_43 ⟨rfl, rfl⟩ (kX1_copyFrom γ l _ _ (a + 8 + k) (ρ (7 + k)) (zst_port (zps_is γ h a _) hlt) (b + 8 + k) (τ (7 + k)) (zst_port (zps_o ht0 hd) hlt) (by omega) (hbo.2 k hlt)) (by exact zst_port (zps_is γ h a _) hlt) rfl rfl (Nat.le_refl _) (Nat.zero_le _) (Nat.zero_le _) (Nat.le_of_ble_eq_true rfl) ?_
      refine go_h (zst_p hlt) ?_
      refine go_iinc dX2_copyFrom_60 rfl (nI_1 k) (Nat.le_of_ble_eq_true rfl) ?_
      refine go_goto (tgt := 39) dX2_copyFrom_63 (by decide) ?_
      exact ih (k + 1) _ (by rw [he]; rfl) (by omega)
  have loop : ∀ (m k : Nat), k + m = 3 → Go (γ, l, n + 2, (0, 0), MX2_copyFrom, zF γ 0 0 none (zps γ h a R)) 0 0 2 [some (.ref a), some (.ref b), some (.int (nI k))] [] (zps γ h a (sX1 σ τ k)) := by
    intro m
    induction m with
    | zero =>
      intro k hk
      have hkN : k = 3 := by omega
      subst hkN
      refine go_iload_n dX2_copyFrom_2 rfl ?_
      refine go_iconst (v := 3) dX2_copyFrom_3 (by decide) ?_
      refine go_icmp_ge (tgt := 37) dX2_copyFrom_4 (by decide) (fun c4 => ?_) (fun c4 => absurd (by decide) c4)
      refine go_iconst (v := 0) dX2_copyFrom_37 (by decide) ?_
      refine go_istore_n dX2_copyFrom_38 (Nat.le_of_ble_eq_true rfl) ?_
      exact go_vl (loop2 8 0 (sX2 σ τ 0) rfl rfl) ⟨rfl, rfl, rfl, trivial⟩
    | succ m ih =>
      intro k hk
      have hlt : k < 3 := by omega
      refine go_iload_n dX2_copyFrom_2 rfl ?_
      refine go_iconst (v := 3) dX2_copyFrom_3 (by decide) ?_
      refine go_icmp_ge (tgt := 37) dX2_copyFrom_4 (by decide) (fun c4 => absurd c4 (zge3 hk)) (fun c4 => ?_)
      refine go_aload_n dX2_copyFrom_7 rfl ?_
      refine go_getf dX2_copyFrom_8 flX2_9 (by first | exact zps_is γ h a _ 0 (by decide) | exact zps_is γ h a _ 1 (by decide) | exact zps_is γ h a _ 2 (by decide) | exact zps_o ht0 hd 0 (by decide) | exact zps_o ht0 hd 1 (by decide) | exact zps_o ht0 hd 2 (by decide)) rfl ?_
      refine go_iload_n dX2_copyFrom_11 rfl ?_
      refine go_aload_n dX2_copyFrom_12 rfl ?_
      refine go_getf dX2_copyFrom_13 flX2_9 (by first | exact zps_is γ h a _ 0 (by decide) | exact zps_is γ h a _ 1 (by decide) | exact zps_is γ h a _ 2 (by decide) | exact zps_o ht0 hd 0 (by decide) | exact zps_o ht0 hd 1 (by decide) | exact zps_o ht0 hd 2 (by decide)) rfl ?_
      refine go_iload_n dX2_copyFrom_16 rfl ?_
      refine go_iald dX2_copyFrom_17 (by first | exact zps_is γ h a _ 0 (by decide) | exact zps_is γ h a _ 1 (by decide) | exact zps_is γ h a _ 2 (by decide) | exact zps_o ht0 hd 0 (by decide) | exact zps_o ht0 hd 1 (by decide) | exact zps_o ht0 hd 2 (by decide)) (zix rfl hlt (by decide)).1 (zix rfl hlt (by decide)).2 ?_
      refine go_iast dX2_copyFrom_18 (by first | exact zps_is γ h a _ 0 (by decide) | exact zps_is γ h a _ 1 (by decide) | exact zps_is γ h a _ 2 (by decide) | exact zps_o ht0 hd 0 (by decide) | exact zps_o ht0 hd 1 (by decide) | exact zps_o ht0 hd 2 (by decide)) (zix rfl hlt (by decide)).1 (zix rfl hlt (by decide)).2 ?_
      refine go_h zst_0 ?_
      refine go_aload_n dX2_copyFrom_19 rfl ?_
      refine go_getf dX2_copyFrom_20 flX2_15 (by first | exact zps_is γ h a _ 0 (by decide) | exact zps_is γ h a _ 1 (by decide) | exact zps_is γ h a _ 2 (by decide) | exact zps_o ht0 hd 0 (by decide) | exact zps_o ht0 hd 1 (by decide) | exact zps_o ht0 hd 2 (by decide)) rfl ?_
      refine go_iload_n dX2_copyFrom_23 rfl ?_
      refine go_aload_n dX2_copyFrom_24 rfl ?_
      refine go_getf dX2_copyFrom_25 flX2_15 (by first | exact zps_is γ h a _ 0 (by decide) | exact zps_is γ h a _ 1 (by decide) | exact zps_is γ h a _ 2 (by decide) | exact zps_o ht0 hd 0 (by decide) | exact zps_o ht0 hd 1 (by decide) | exact zps_o ht0 hd 2 (by decide)) rfl ?_
      refine go_iload_n dX2_copyFrom_28 rfl ?_
      refine go_zald dX2_copyFrom_29 (by first | exact zps_is γ h a _ 0 (by decide) | exact zps_is γ h a _ 1 (by decide) | exact zps_is γ h a _ 2 (by decide) | exact zps_o ht0 hd 0 (by decide) | exact zps_o ht0 hd 1 (by decide) | exact zps_o ht0 hd 2 (by decide)) (zix rfl hlt (by decide)).1 (zix rfl hlt (by decide)).2 ?_
      refine go_zast dX2_copyFrom_30 (by first | exact zps_is γ h a _ 0 (by decide) | exact zps_is γ h a _ 1 (by decide) | exact zps_is γ h a _ 2 (by decide) | exact zps_o ht0 hd 0 (by decide) | exact zps_o ht0 hd 1 (by decide) | exact zps_o ht0 hd 2 (by decide)) (zix rfl hlt (by decide)).1 (zix rfl hlt (by decide)).2 (zab (by exact hbo.1 k hlt)) ?_
      refine go_h zst_1 ?_
      refine go_iinc dX2_copyFrom_31 rfl (nI_1 k) (Nat.le_of_ble_eq_true rfl) ?_
      refine go_goto (tgt := 2) dX2_copyFrom_34 (by decide) ?_
      exact ih (k + 1) (by omega)
  refine go_h (zps_id hs).symm ?_
  refine go_iconst (v := 0) dX2_copyFrom_0 (by decide) ?_
  refine go_istore_n dX2_copyFrom_1 (Nat.le_of_ble_eq_true rfl) ?_
  exact go_vl (loop 3 0 rfl) ⟨rfl, rfl, rfl, trivial⟩
end
section
/-! State(): fifteen new cells behind it -/
def zcu (c : Nat → va_E) (k : Nat) (e : va_E) : Nat → va_E := fun j => if j = k then e else c j
def zcan (h : zH) (a N : Nat) (c : Nat → va_E) : zH := zal (zput h a N c) (N - 1)
theorem zcan_nx {h : zH} {a N : Nat} {c : Nat → va_E} (hnx : h.2 = a + 1) (hN : 1 ≤ N) : (zcan h a N c).2 = a + N := by
  show h.2 + (N - 1) = _
  omega
theorem zcan_rd {h : zH} {a N : Nat} {c : Nat → va_E} (k : Nat) (hk : k < N) : (zcan h a N c).1 (a + k) = some (c k) := zput_is h a N c k hk
theorem zcan_out {h : zH} {a N x : Nat} {c : Nat → va_E} (hx : x < a ∨ a + N ≤ x) : (zcan h a N c).1 x = h.1 x := zput_out hx
theorem zcan_ext {h g : zH} {a N : Nat} {c : Nat → va_E} (h2 : g.2 = (zcan h a N c).2) (hi : ∀ k, k < N → g.1 (a + k) = some (c k)) (ho : ∀ x, (x < a ∨ a + N ≤ x) → g.1 x = h.1 x) : g = zcan h a N c := by
  refine Prod.ext ?_ h2
  funext x
  by_cases hx : a ≤ x ∧ x < a + N
  · obtain ⟨k, rfl⟩ : ∃ k, x = a + k := ⟨x - a, by omega⟩
    rw [hi k (by omega), zcan_rd k (by omega)]
  · rw [ho x (by omega), zcan_out (by omega)]
theorem zcan_push {h : zH} {a N : Nat} {c : Nat → va_E} {e : va_E} (hnx : h.2 = a + 1) (hN : 1 ≤ N) : zp (zcan h a N c) e = zcan h a (N + 1) (zcu c N e) := by
  refine zcan_ext ?_ (fun k hk => ?_) (fun x hx => ?_)
  · rw [zcan_nx hnx (by omega)]
    show (zcan h a N c).2 + 1 = _
    rw [zcan_nx hnx hN]
    omega
  · by_cases hkN : k = N
    · subst hkN
      rw [← zcan_nx (c := c) hnx hN, zp_s]
      simp [zcu]
    · rw [zp_o (by rw [zcan_nx hnx hN]; omega), zcan_rd k (by omega)]
      simp [zcu, hkN]
  · rw [zp_o (by rw [zcan_nx hnx hN]; omega), zcan_out (by omega)]
theorem zcan_zu {h : zH} {a N k x : Nat} {c : Nat → va_E} {e : va_E} (hk : k < N) (hx : x = a + k) : zu (zcan h a N c) x e = zcan h a N (zcu c k e) := by
  subst hx
  refine zcan_ext rfl (fun j hj => ?_) (fun x hx => ?_)
  · by_cases hjk : j = k
    · subst hjk
      rw [zu_s]
      simp [zcu]
    · rw [zu_n (by omega), zcan_rd j hj]
      simp [zcu, hjk]
  · rw [zu_n (by omega), zcan_out hx]
def zcb (c d : Nat → va_E) (k n : Nat) : Nat → va_E := fun j => if k ≤ j ∧ j < k + n then d (j - k) else c j
theorem zcan_blk {h : zH} {a N M k n m x : Nat} {c d : Nat → va_E} (hnx : h.2 = a + 1) (hN : 1 ≤ N) (hM : k + n = M) (hm : N + m = M) (hk : k ≤ N) (hx : x = a + k) : zal (zput (zcan h a N c) x n d) m = zcan h a M (zcb c d k n) := by
  subst hx
  refine zcan_ext ?_ (fun j hj => ?_) (fun x hx => ?_)
  · rw [zcan_nx hnx (by omega)]
    show (zcan h a N c).2 + m = _
    rw [zcan_nx hnx hN]
    omega
  · show (zput (zcan h a N c) (a + k) n d).1 (a + j) = _
    by_cases hj2 : k ≤ j ∧ j < k + n
    · obtain ⟨i, rfl⟩ : ∃ i, j = k + i := ⟨j - k, by omega⟩
      rw [← Nat.add_assoc, zput_is (zcan h a N c) (a + k) n d i (by omega)]
      simp [zcb, hj2]
    · rw [zput_out (by omega), zcan_rd j (by omega)]
      simp [zcb, hj2]
  · show (zput (zcan h a N c) (a + k) n d).1 x = _
    rw [zput_out (by omega), zcan_out (by omega)]
theorem zcan_congr {h : zH} {a N : Nat} {c d : Nat → va_E} (hc : ∀ k, k < N → c k = d k) : zcan h a N c = zcan h a N d := by
  unfold zcan
  rw [zput_congr hc]
theorem zcan_1 {h : zH} {a : Nat} {e : va_E} (hp : h.1 a = some e) : h = zcan h a 1 (fun _ => e) := by
  refine zcan_ext rfl (fun k hk => ?_) (fun x _ => rfl)
  rw [show k = 0 by omega]
  exact hp
section ZA
variable {E : zE} {cs sl pc : Nat} {lv : zLv} {st : List Value} {h h1 : zH}
theorem go_newA {idx ci q : Nat} {C : String} {T : u_T} {N : Nat} {fs : List Value} (hq : h.2 = q) (he : zp h (.inr (ci, fs)) = h1) (hd : decode (zb E) pc = .ok (.new idx, 3)) (hc : zcl[ci]? = some (C, T, N)) (hw : Cond.classLink (zo E) idx C ∈ zT ∧ Cond.instantiable C N ∈ zT ∧ Cond.initialized C ∈ zT) (hfs : ∀ j, j < N → defaultValue (zct ci j) = vp_V fs j) (hcs : cs + 1 ≤ zcc E) (hsl : sl + N ≤ zcs E)
    (kk : Go E (cs + 1) (sl + N) (pc + 3) lv (.ref q :: st) h1) : Go E cs sl pc lv st h := go_new hd hc hw hfs hcs hsl (by rw [hq, he]; exact kk)
theorem go_newiA {n : Int32} {N q : Nat} (hq : h.2 = q) (he : zp h (zai (zg E) N (fun _ => 0)) = h1) (hd : decode (zb E) pc = .ok (.newarray .int, 2)) (hn : ¬ n < 0) (hN : n.toNatClampNeg = N) (hsm : N ≤ 100000) (hcs : cs + 1 ≤ zcc E) (hsl : sl + N ≤ zcs E)
    (kk : Go E (cs + 1) (sl + N) (pc + 2) lv (.ref q :: st) h1) : Go E cs sl pc lv (.int n :: st) h := go_newi hd arr_int hn hN hsm hcs hsl (by rw [hq, he]; exact kk)
theorem go_newzA {n : Int32} {N q : Nat} (hq : h.2 = q) (he : zp h (zaz (zg E) N (fun _ => 0)) = h1) (hd : decode (zb E) pc = .ok (.newarray .boolean, 2)) (hn : ¬ n < 0) (hN : n.toNatClampNeg = N) (hsm : N ≤ 100000) (hcs : cs + 1 ≤ zcc E) (hsl : sl + N ≤ zcs E)
    (kk : Go E (cs + 1) (sl + N) (pc + 2) lv (.ref q :: st) h1) : Go E cs sl pc lv (.int n :: st) h := go_newz hd arr_boolean hn hN hsm hcs hsl (by rw [hq, he]; exact kk)
theorem go_anewA {idx t0 q : Nat} {C : String} {n : Int32} {N : Nat} {cA0 : ClassId} (hq : h.2 = q) (he : zp h (.inl (cA0, N, .inr (.inr (.inr (.inr (fun _ => none)))))) = h1) (hd : decode (zb E) pc = .ok (.anewarray idx, 3)) (hw : Cond.classLink (zo E) idx C ∈ zT) (ho : ∀ U : State, zK (zg E) U → va_AO C U) (ht : (zty (zg E))[t0]? = some (cA0, .object C)) (hn : ¬ n < 0) (hN : n.toNatClampNeg = N) (hsm : N ≤ 100000) (hcs : cs + 1 ≤ zcc E) (hsl : sl + N ≤ zcs E)
    (kk : Go E (cs + 1) (sl + N) (pc + 3) lv (.ref q :: st) h1) : Go E cs sl pc lv (.int n :: st) h := go_anew hd hw ho ht hn hN hsm hcs hsl (by rw [hq, he]; exact kk)
end ZA
def pI : Nat → Int32 := upd (upd (upd (fun _ => 0) 0 1) 1 2) 4 (-6)
/-- a new State -/
def sI : zS := fun c => match c with
  | 0 => upd (upd (upd (fun _ => 0) 0 1500) 1 0) 2 0
  | 1 => upd (upd (upd (fun _ => 0) 0 1) 1 1) 2 1
  | 2 => upd (upd (upd (fun _ => 0) 1 2) 2 3) 3 5
  | 3 => fun _ => 0
  | 4 => fun _ => 0
  | 5 => fun _ => 0
  | 6 => fun _ => 0
  | _ => pI
def zcK (γ : zG) (a k : Nat) : Nat → va_E := fun j => if j = 3 then zap γ 8 (fun i => if i < k then some (a + 8 + i) else none) else if j < 8 then zst γ a sI j else zpo pI
theorem zcK_end (γ : zG) (a : Nat) : ∀ j, j < 16 → zcK γ a 8 j = zst γ a sI j := by
  intro j hj
  rcases zlt16 hj with h | h | h | h | h | h | h | h | h | h | h | h | h | h | h | h <;> subst h <;> rfl
theorem zcK_step (γ : zG) (a k : Nat) (hk : k < 8) : ∀ j, j < 8 + k + 1 → zcu (zcu (zcu (zcK γ a k) (8 + k) (zpo (fun _ => 0))) (8 + k) (zpo pI)) 3 (zap γ 8 (va_up (fun i => if i < k then some (a + 8 + i) else none) k (some (a + 8 + k)))) j = zcK γ a (k + 1) j := by
  intro j hj
  by_cases h3 : j = 3
  · subst h3
    show zap γ 8 _ = zap γ 8 _
    congr 1
    funext i
    unfold va_up
    by_cases hi : i = k
    · subst hi
      simp
    · by_cases hl : i < k
      · have : i < k + 1 := by omega
        simp [hi, hl, this]
      · have : ¬ i < k + 1 := by omega
        simp [hi, hl, this]
  · by_cases h8 : j = 8 + k
    · subst h8
      have h9 : ¬ (8 + k = 3) := by omega
      have h10 : ¬ (8 + k < 8) := by omega
      simp [zcu, zcK, h9]
      exact fun q => absurd q h10
    · simp [zcu, zcK, h3, h8]
set_option maxRecDepth 4000 in
theorem kX2_init (γ : zG) (l : Launch) (n : Nat) (h : zH) (a : Nat) (hp : h.1 a = some (.inr (2, [.null, .null, .null, .null, .int 0, .int 0, .int 0, .int 0, .int 0, .int 0]))) (hnx : h.2 = a + 1) : Con γ l (n + 2) 15 147 MX2_init [.ref a] h none (zal (zps γ h a sI) 15) := by
  refine Con.go (by decide +kernel) (Nat.le_of_ble_eq_true rfl) ⟨rfl, trivial⟩ ?_
  show Go _ 0 0 0 [some (.ref a), none] [] _
  have loop : ∀ (m k : Nat), k ≤ 8 → k + m = 8 → Go (γ, l, n + 2, (15, 147), MX2_init, zF γ 15 147 none (zal (zps γ h a sI) 15)) (7 + k) (67 + 10 * k) 81 [some (.ref a), some (.int (nI k))] [] (zcan h a (8 + k) (zcK γ a k)) := by
    intro m
    induction m with
    | zero =>
      intro k hk8 hk
      have hkN : k = 8 := by omega
      subst hkN
      refine go_iload_n dX2_init_81 rfl ?_
      refine go_bipush (v := 8) dX2_init_82 (by decide) ?_
      refine go_icmp_ge (tgt := 106) dX2_init_84 (by decide) (fun c84 => ?_) (fun c84 => absurd (by decide) c84)
      refine go_vret dX2_init_106 rfl rfl ?_ (by omega) (by omega)
      · exact ((zcan_congr (zcK_end γ a)).symm)
    | succ m ih =>
      intro k hk8 hk
      have hlt : k < 8 := by omega
      refine go_iload_n dX2_init_81 rfl ?_
      refine go_bipush (v := 8) dX2_init_82 (by decide) ?_
      refine go_icmp_ge (tgt := 106) dX2_init_84 (by decide) (fun c84 => absurd c84 (zge hk)) (fun c84 => ?_)
      refine go_aload_n dX2_init_87 rfl ?_
      refine go_getf dX2_init_88 flX2_21 (by exact zcan_rd 0 (by omega)) rfl ?_
      refine go_iload_n dX2_init_91 rfl ?_
      refine go_newA (ci := 1) (q := a + 8 + k) (fs := [.int 0, .int 0, .int 0, .int 0, .int 0, .int 0, .int 0, .int 0, .int 0, .int 0]) ((zcan_nx hnx (by omega)).trans (Nat.add_assoc _ _ _).symm) (zcan_push hnx (by omega)) dX2_init_92 rfl clX2_19 (fun j hj => by rcases (show j = 0 ∨ j = 1 ∨ j = 2 ∨ j = 3 ∨ j = 4 ∨ j = 5 ∨ j = 6 ∨ j = 7 ∨ j = 8 ∨ j = 9 by omega) with h | h | h | h | h | h | h | h | h | h <;> subst h <;> rfl) (show 7 + k + 1 ≤ 15 by omega) (show 67 + 10 * k + 10 ≤ 147 by omega) ?_
      refine go_dup dX2_init_95 rfl ?_
      refine go_callIv (C' := 0) (S' := 0) dX2_init_96 moX1_init ciX2_42 ⟨rfl, rfl⟩ (kX1_init γ l _ _ (a + 8 + k) (fun _ => 0) ((congrArg _ (Nat.add_assoc a 8 k)).trans ((zcan_rd (8 + k) (by omega)).trans (by simp [zcu, zpo])))) rfl rfl (Nat.le_refl _) (show 7 + k + 1 + 0 ≤ 15 by omega) (show 67 + 10 * k + 10 + 0 ≤ 147 by omega) (Nat.le_of_ble_eq_true rfl) ?_
      refine go_h (zcan_zu (k := 8 + k) (by omega) (Nat.add_assoc _ _ _)) ?_
      refine go_aast (t0 := 2) (ci := 1) (r := (RX1, TX1, 10)) (f := fun i => if i < k then some (a + 8 + i) else none) dX2_init_99 ((zcan_rd 3 (by omega)).trans (by simp [zcu, zcK, zap, show ¬ (3 = 8 + k) by omega])) rfl ((congrArg _ (Nat.add_assoc a 8 k)).trans ((zcan_rd (8 + k) (by omega)).trans (by simp only [zcu, if_true]; rfl))) rfl (zix rfl hlt (by decide)).1 (zix rfl hlt (by decide)).2 ?_
      refine go_h ((zcan_zu (k := 3) (by omega) rfl).trans (zcan_congr (zcK_step γ a k hlt))) ?_
      refine go_iinc dX2_init_100 rfl (nI_1 k) (Nat.le_of_ble_eq_true rfl) ?_
      refine go_goto (tgt := 81) dX2_init_103 (by decide) ?_
      refine go_widen (cs' := 7 + (k + 1)) (sl' := 67 + 10 * (k + 1)) (by omega) (by omega) ?_
      exact ih (k + 1) (by omega) (by omega)
  refine go_h (zcan_1 hp) ?_
  refine go_aload_n dX2_init_0 rfl ?_
  refine go_objInit dX2_init_1 oiX2_3 (by show 1 ≤ _ + 1; omega) ?_
  refine go_aload_n dX2_init_4 rfl ?_
  refine go_iconst (v := 3) dX2_init_5 (by decide) ?_
  refine go_newiA (N := 3) (zcan_nx hnx (by decide)) (zcan_push hnx (by decide)) dX2_init_6 (by decide) rfl (by decide) (Nat.le_of_ble_eq_true rfl) (Nat.le_of_ble_eq_true rfl) ?_
  refine go_dup dX2_init_8 rfl ?_
  refine go_iconst (v := 0) dX2_init_9 (by decide) ?_
  refine go_sipush (v := 1500) dX2_init_10 (by decide) ?_
  refine go_iast dX2_init_13 (by first | exact zcan_rd 0 (by decide) | exact zcan_rd 1 (by decide) | exact zcan_rd 2 (by decide) | exact zcan_rd 3 (by decide) | exact zcan_rd 4 (by decide)) (by unfold vp_in; decide) rfl ?_
  refine go_h (zcan_zu (k := 1) (by decide) rfl) ?_
  refine go_dup dX2_init_14 rfl ?_
  refine go_iconst (v := 1) dX2_init_15 (by decide) ?_
  refine go_iconst (v := 0) dX2_init_16 (by decide) ?_
  refine go_iast dX2_init_17 (by first | exact zcan_rd 0 (by decide) | exact zcan_rd 1 (by decide) | exact zcan_rd 2 (by decide) | exact zcan_rd 3 (by decide) | exact zcan_rd 4 (by decide)) (by unfold vp_in; decide) rfl ?_
  refine go_h (zcan_zu (k := 1) (by decide) rfl) ?_
  refine go_dup dX2_init_18 rfl ?_
  refine go_iconst (v := 2) dX2_init_19 (by decide) ?_
  refine go_iconst (v := 0) dX2_init_20 (by decide) ?_
  refine go_iast dX2_init_21 (by first | exact zcan_rd 0 (by decide) | exact zcan_rd 1 (by decide) | exact zcan_rd 2 (by decide) | exact zcan_rd 3 (by decide) | exact zcan_rd 4 (by decide)) (by unfold vp_in; decide) rfl ?_
  refine go_h (zcan_zu (k := 1) (by decide) rfl) ?_
  refine go_putF dX2_init_22 flX2_9 fnX2_0 rfl rfl (by first | exact zcan_rd 0 (by decide) | exact zcan_rd 1 (by decide) | exact zcan_rd 2 (by decide) | exact zcan_rd 3 (by decide) | exact zcan_rd 4 (by decide)) rfl rfl (Nat.le_of_ble_eq_true rfl) ?_
  refine go_h (zcan_zu (k := 0) (by decide) rfl) ?_
  refine go_aload_n dX2_init_25 rfl ?_
  refine go_iconst (v := 3) dX2_init_26 (by decide) ?_
  refine go_newzA (N := 3) (zcan_nx hnx (by decide)) (zcan_push hnx (by decide)) dX2_init_27 (by decide) rfl (by decide) (Nat.le_of_ble_eq_true rfl) (Nat.le_of_ble_eq_true rfl) ?_
  refine go_dup dX2_init_29 rfl ?_
  refine go_iconst (v := 0) dX2_init_30 (by decide) ?_
  refine go_iconst (v := 1) dX2_init_31 (by decide) ?_
  refine go_zast dX2_init_32 (by first | exact zcan_rd 0 (by decide) | exact zcan_rd 1 (by decide) | exact zcan_rd 2 (by decide) | exact zcan_rd 3 (by decide) | exact zcan_rd 4 (by decide)) (by unfold vp_in; decide) rfl (zab (by first | exact Or.inl rfl | exact Or.inr rfl | exact zi_B)) ?_
  refine go_h (zcan_zu (k := 2) (by decide) rfl) ?_
  refine go_dup dX2_init_33 rfl ?_
  refine go_iconst (v := 1) dX2_init_34 (by decide) ?_
  refine go_iconst (v := 1) dX2_init_35 (by decide) ?_
  refine go_zast dX2_init_36 (by first | exact zcan_rd 0 (by decide) | exact zcan_rd 1 (by decide) | exact zcan_rd 2 (by decide) | exact zcan_rd 3 (by decide) | exact zcan_rd 4 (by decide)) (by unfold vp_in; decide) rfl (zab (by first | exact Or.inl rfl | exact Or.inr rfl | exact zi_B)) ?_
  refine go_h (zcan_zu (k := 2) (by decide) rfl) ?_
  refine go_dup dX2_init_37 rfl ?_
  refine go_iconst (v := 2) dX2_init_38 (by decide) ?_
  refine go_iconst (v := 1) dX2_init_39 (by decide) ?_
  refine go_zast dX2_init_40 (by first | exact zcan_rd 0 (by decide) | exact zcan_rd 1 (by decide) | exact zcan_rd 2 (by decide) | exact zcan_rd 3 (by decide) | exact zcan_rd 4 (by decide)) (by unfold vp_in; decide) rfl (zab (by first | exact Or.inl rfl | exact Or.inr rfl | exact zi_B)) ?_
  refine go_h (zcan_zu (k := 2) (by decide) rfl) ?_
  refine go_putF dX2_init_41 flX2_15 fnX2_1 rfl rfl (by first | exact zcan_rd 0 (by decide) | exact zcan_rd 1 (by decide) | exact zcan_rd 2 (by decide) | exact zcan_rd 3 (by decide) | exact zcan_rd 4 (by decide)) rfl rfl (Nat.le_of_ble_eq_true rfl) ?_
  refine go_h (zcan_zu (k := 0) (by decide) rfl) ?_
  refine go_aload_n dX2_init_44 rfl ?_
  refine go_bipush (v := 8) dX2_init_45 (by decide) ?_
  refine go_anewA (N := 8) (t0 := 2) (zcan_nx hnx (by decide)) (zcan_push hnx (by decide)) dX2_init_47 clX2_19.1 (fun U hU => hU.2.2.1) rfl (by decide) rfl (by decide) (Nat.le_of_ble_eq_true rfl) (Nat.le_of_ble_eq_true rfl) ?_
  refine go_putF dX2_init_50 flX2_21 fnX2_2 rfl rfl (by first | exact zcan_rd 0 (by decide) | exact zcan_rd 1 (by decide) | exact zcan_rd 2 (by decide) | exact zcan_rd 3 (by decide) | exact zcan_rd 4 (by decide)) rfl rfl (Nat.le_of_ble_eq_true rfl) ?_
  refine go_h (zcan_zu (k := 0) (by decide) rfl) ?_
  refine go_aload_n dX2_init_53 rfl ?_
  refine go_newA (ci := 0) (fs := [.null, .null, .null, .int 0, .int 0]) (zcan_nx hnx (by decide)) (zcan_push hnx (by decide)) dX2_init_54 rfl clX2_25 (fun j hj => by rcases (show j = 0 ∨ j = 1 ∨ j = 2 ∨ j = 3 ∨ j = 4 by omega) with h | h | h | h | h <;> subst h <;> rfl) (Nat.le_of_ble_eq_true rfl) (Nat.le_of_ble_eq_true rfl) ?_
  refine go_dup dX2_init_57 rfl ?_
  refine go_callIv dX2_init_58 moX0_init ciX2_27 ⟨rfl, rfl⟩ (kX0_init γ l _ _ (a + 4) (zcan_rd 4 (by decide)) (zcan_nx hnx (by decide))) rfl rfl (Nat.le_refl _) (Nat.le_of_ble_eq_true rfl) (Nat.le_of_ble_eq_true rfl) (Nat.le_of_ble_eq_true rfl) ?_
  refine go_h (zcan_blk (k := 4) (M := 8) hnx (by decide) rfl rfl (by decide) rfl) ?_
  refine go_putF dX2_init_61 flX2_28 fnX2_3 rfl rfl (by first | exact zcan_rd 0 (by decide) | exact zcan_rd 1 (by decide) | exact zcan_rd 2 (by decide) | exact zcan_rd 3 (by decide) | exact zcan_rd 4 (by decide)) rfl rfl (Nat.le_of_ble_eq_true rfl) ?_
  refine go_h (zcan_zu (k := 0) (by decide) rfl) ?_
  refine go_aload_n dX2_init_64 rfl ?_
  refine go_iconst (v := 2) dX2_init_65 (by decide) ?_
  refine go_putf dX2_init_66 flX2_32 fnX2_5 (by first | exact zcan_rd 0 (by decide) | exact zcan_rd 1 (by decide) | exact zcan_rd 2 (by decide) | exact zcan_rd 3 (by decide) | exact zcan_rd 4 (by decide)) rfl rfl (Nat.le_of_ble_eq_true rfl) ?_
  refine go_h (zcan_zu (k := 0) (by decide) rfl) ?_
  refine go_aload_n dX2_init_69 rfl ?_
  refine go_iconst (v := 3) dX2_init_70 (by decide) ?_
  refine go_putf dX2_init_71 flX2_36 fnX2_6 (by first | exact zcan_rd 0 (by decide) | exact zcan_rd 1 (by decide) | exact zcan_rd 2 (by decide) | exact zcan_rd 3 (by decide) | exact zcan_rd 4 (by decide)) rfl rfl (Nat.le_of_ble_eq_true rfl) ?_
  refine go_h (zcan_zu (k := 0) (by decide) rfl) ?_
  refine go_aload_n dX2_init_74 rfl ?_
  refine go_iconst (v := 5) dX2_init_75 (by decide) ?_
  refine go_putf dX2_init_76 flX2_39 fnX2_7 (by first | exact zcan_rd 0 (by decide) | exact zcan_rd 1 (by decide) | exact zcan_rd 2 (by decide) | exact zcan_rd 3 (by decide) | exact zcan_rd 4 (by decide)) rfl rfl (Nat.le_of_ble_eq_true rfl) ?_
  refine go_h (zcan_zu (k := 0) (by decide) rfl) ?_
  refine go_iconst (v := 0) dX2_init_79 (by decide) ?_
  refine go_istore_n dX2_init_80 (Nat.le_of_ble_eq_true rfl) ?_
  refine go_h (zcan_congr (d := zcK γ a 0) (fun j hj => ?_)) ?_
  · rcases (show j = 0 ∨ j = 1 ∨ j = 2 ∨ j = 3 ∨ j = 4 ∨ j = 5 ∨ j = 6 ∨ j = 7 by omega) with h | h | h | h | h | h | h | h <;> subst h <;> rfl
  · exact go_vl (loop 8 0 (by decide) rfl) ⟨rfl, rfl, trivial⟩
end
section
/-! PoeSwitch: its own helpers -/
theorem zi_nz {p : Prop} [Decidable p] : ¬ zi p = 0 ↔ p := by
  unfold zi
  by_cases h : p <;> simp [h]
theorem zrz {p : Prop} [Decidable p] {v : Int32} (h : v = zi p) : some (Value.int (zi p)) = some (Value.int v) := by rw [h]
theorem znat {s : Int32} {n : Nat} {m : Int32} (hm : m.toInt = (n : Int) - 1) (h : 0 ≤ s ∧ s ≤ m) (hn : n < 2 ^ 31) : s = nI s.toNatClampNeg ∧ s.toNatClampNeg < n := by
  have h1 := Int32.le_iff_toInt_le.mp h.1
  have h2 := Int32.le_iff_toInt_le.mp h.2
  rw [hm] at h2
  have h0 : (0 : Int32).toInt = 0 := by decide
  rw [h0] at h1
  obtain ⟨j, hj, e⟩ := vp_in_of (vp_in_iff.mpr ⟨h1, by omega⟩) hn
  have hc : s.toNatClampNeg = j := by rw [e]; exact nI_clamp (by omega)
  rw [hc]
  exact ⟨e, hj⟩
theorem zn3 {s : Int32} (h : 0 ≤ s ∧ s ≤ 2) : s = nI s.toNatClampNeg ∧ s.toNatClampNeg < 3 := znat (n := 3) (by decide) h (by decide)
theorem zn8 {s : Int32} (h : 0 ≤ s ∧ s ≤ 7) : s = nI s.toNatClampNeg ∧ s.toNatClampNeg < 8 := znat (n := 8) (by decide) h (by decide)
theorem zn2 {s : Int32} (h : 0 ≤ s ∧ s ≤ 1) : s = nI s.toNatClampNeg ∧ s.toNatClampNeg < 2 := znat (n := 2) (by decide) h (by decide)
theorem zn5 {s : Int32} (h : 0 ≤ s ∧ s ≤ 4) : s = nI s.toNatClampNeg ∧ s.toNatClampNeg < 5 := znat (n := 5) (by decide) h (by decide)
theorem zin3 {s : Int32} (h : 0 ≤ s ∧ s ≤ 2) : vp_in s 3 := by rw [(zn3 h).1]; exact vp_in_nI (zn3 h).2 (by decide)
theorem zin8 {s : Int32} (h : 0 ≤ s ∧ s ≤ 7) : vp_in s 8 := by rw [(zn8 h).1]; exact vp_in_nI (zn8 h).2 (by decide)
theorem zin2 {s : Int32} (h : 0 ≤ s ∧ s ≤ 1) : vp_in s 2 := by rw [(zn2 h).1]; exact vp_in_nI (zn2 h).2 (by decide)
theorem zin5 {s : Int32} (h : 0 ≤ s ∧ s ≤ 4) : vp_in s 5 := by rw [(zn5 h).1]; exact vp_in_nI (zn5 h).2 (by decide)
set_option maxRecDepth 4000 in
theorem kX3_isWithin (γ : zG) (l : Launch) (n : Nat) (h : zH) (v lo hi : Int32) : Con γ l (n) 0 0 MX3_isWithin [.int v, .int lo, .int hi] h (some (.int (zi (lo ≤ v ∧ v ≤ hi)))) h := by
  refine Con.go (by decide +kernel) (Nat.le_of_ble_eq_true rfl) ⟨rfl, rfl, rfl, trivial⟩ ?_
  show Go _ 0 0 0 [some (.int v), some (.int lo), some (.int hi)] [] _
  refine go_iload_n dX3_isWithin_0 rfl ?_
  refine go_iload_n dX3_isWithin_1 rfl ?_
  refine go_icmp_lt (tgt := 14) dX3_isWithin_2 (by decide) (fun c2 => ?_) (fun c2 => ?_)
  · refine go_iconst (v := 0) dX3_isWithin_14 (by decide) ?_
    refine go_zret dX3_isWithin_15 rfl (by first | rfl | exact zi_n) ?_ ?_ (Nat.zero_le _) (Nat.zero_le _)
    · first | rfl | exact zrt (by simp_all [-Int32.not_lt, -Int32.not_le, zle]) | exact zrf (by simp_all [-Int32.not_lt, -Int32.not_le, zle])
    · rfl
  · refine go_iload_n dX3_isWithin_5 rfl ?_
    refine go_iload_n dX3_isWithin_6 rfl ?_
    refine go_icmp_gt (tgt := 14) dX3_isWithin_7 (by decide) (fun c7 => ?_) (fun c7 => ?_)
    · refine go_iconst (v := 0) dX3_isWithin_14 (by decide) ?_
      refine go_zret dX3_isWithin_15 rfl (by first | rfl | exact zi_n) ?_ ?_ (Nat.zero_le _) (Nat.zero_le _)
      · first | rfl | exact zrt (by simp_all [-Int32.not_lt, -Int32.not_le, zle]) | exact zrf (by simp_all [-Int32.not_lt, -Int32.not_le, zle])
      · rfl
    · refine go_iconst (v := 1) dX3_isWithin_10 (by decide) ?_
      refine go_goto (tgt := 15) dX3_isWithin_11 (by decide) ?_
      refine go_zret dX3_isWithin_15 rfl (by first | rfl | exact zi_n) ?_ ?_ (Nat.zero_le _) (Nat.zero_le _)
      · first | rfl | exact zrt (by simp_all [-Int32.not_lt, -Int32.not_le, zle]) | exact zrf (by simp_all [-Int32.not_lt, -Int32.not_le, zle])
      · rfl
set_option maxRecDepth 4000 in
theorem kX3_isPort (γ : zG) (l : Launch) (n : Nat) (h : zH) (v : Int32) : Con γ l (n + 1) 0 0 MX3_isPort [.int v] h (some (.int (zi (0 ≤ v ∧ v ≤ 7)))) h := by
  refine Con.go (by decide +kernel) (Nat.le_of_ble_eq_true rfl) ⟨rfl, trivial⟩ ?_
  show Go _ 0 0 0 [some (.int v)] [] _
  refine go_iload_n dX3_isPort_0 rfl ?_
  refine go_iconst (v := 0) dX3_isPort_1 (by decide) ?_
  refine go_bipush (v := 7) dX3_isPort_2 (by decide) ?_
  refine go_callSi dX3_isPort_4 moX3_isWithin csX3_27 (kX3_isWithin γ l _ _ _ _ _) rfl rfl (Nat.le_refl _) (Nat.zero_le _) (Nat.zero_le _) (Nat.le_of_ble_eq_true rfl) ?_
  refine go_zret dX3_isPort_7 rfl (by first | rfl | exact zi_n) ?_ ?_ (Nat.zero_le _) (Nat.zero_le _)
  · rfl
  · rfl
set_option maxRecDepth 4000 in
theorem kX3_isSupply (γ : zG) (l : Launch) (n : Nat) (h : zH) (v : Int32) : Con γ l (n + 1) 0 0 MX3_isSupply [.int v] h (some (.int (zi (0 ≤ v ∧ v ≤ 2)))) h := by
  refine Con.go (by decide +kernel) (Nat.le_of_ble_eq_true rfl) ⟨rfl, trivial⟩ ?_
  show Go _ 0 0 0 [some (.int v)] [] _
  refine go_iload_n dX3_isSupply_0 rfl ?_
  refine go_iconst (v := 0) dX3_isSupply_1 (by decide) ?_
  refine go_iconst (v := 2) dX3_isSupply_2 (by decide) ?_
  refine go_callSi dX3_isSupply_3 moX3_isWithin csX3_27 (kX3_isWithin γ l _ _ _ _ _) rfl rfl (Nat.le_refl _) (Nat.zero_le _) (Nat.zero_le _) (Nat.le_of_ble_eq_true rfl) ?_
  refine go_zret dX3_isSupply_6 rfl (by first | rfl | exact zi_n) ?_ ?_ (Nat.zero_le _) (Nat.zero_le _)
  · rfl
  · rfl
set_option maxRecDepth 4000 in
theorem kX3_isSlot (γ : zG) (l : Launch) (n : Nat) (h : zH) (v : Int32) : Con γ l (n + 1) 0 0 MX3_isSlot [.int v] h (some (.int (zi (0 ≤ v ∧ v ≤ 1)))) h := by
  refine Con.go (by decide +kernel) (Nat.le_of_ble_eq_true rfl) ⟨rfl, trivial⟩ ?_
  show Go _ 0 0 0 [some (.int v)] [] _
  refine go_iload_n dX3_isSlot_0 rfl ?_
  refine go_iconst (v := 0) dX3_isSlot_1 (by decide) ?_
  refine go_iconst (v := 1) dX3_isSlot_2 (by decide) ?_
  refine go_callSi dX3_isSlot_3 moX3_isWithin csX3_27 (kX3_isWithin γ l _ _ _ _ _) rfl rfl (Nat.le_refl _) (Nat.zero_le _) (Nat.zero_le _) (Nat.le_of_ble_eq_true rfl) ?_
  refine go_zret dX3_isSlot_6 rfl (by first | rfl | exact zi_n) ?_ ?_ (Nat.zero_le _) (Nat.zero_le _)
  · rfl
  · rfl
set_option maxRecDepth 4000 in
theorem kX3_isDetected (γ : zG) (l : Launch) (n : Nat) (h : zH) (r c : Int32) : Con γ l (n + 1) 0 0 MX3_isDetected [.int r, .int c] h (some (.int (zi ((190 ≤ r ∧ r ≤ 265) ∧ c ≤ 15)))) h := by
  refine Con.go (by decide +kernel) (Nat.le_of_ble_eq_true rfl) ⟨rfl, rfl, trivial⟩ ?_
  show Go _ 0 0 0 [some (.int r), some (.int c)] [] _
  refine go_iload_n dX3_isDetected_0 rfl ?_
  refine go_sipush (v := 190) dX3_isDetected_1 (by decide) ?_
  refine go_sipush (v := 265) dX3_isDetected_4 (by decide) ?_
  refine go_callSi dX3_isDetected_7 moX3_isWithin csX3_27 (kX3_isWithin γ l _ _ _ _ _) rfl rfl (Nat.le_refl _) (Nat.zero_le _) (Nat.zero_le _) (Nat.le_of_ble_eq_true rfl) ?_
  refine go_if_eq (tgt := 23) dX3_isDetected_10 (by decide) (fun c10 => ?_) (fun c10 => ?_)
  · replace c10 := zi_0.mp c10
    refine go_iconst (v := 0) dX3_isDetected_23 (by decide) ?_
    refine go_zret dX3_isDetected_24 rfl (by first | rfl | exact zi_n) ?_ ?_ (Nat.zero_le _) (Nat.zero_le _)
    · first | exact zrt ⟨c10⟩ | exact zrf (fun q => c10 q.1) | exact zrt ⟨c10, zle.mpr c16⟩ | exact zrf (fun q => zle.mp q.2 c16)
    · rfl
  · replace c10 := zi_nz.mp c10
    refine go_iload_n dX3_isDetected_13 rfl ?_
    refine go_bipush (v := 15) dX3_isDetected_14 (by decide) ?_
    refine go_icmp_gt (tgt := 23) dX3_isDetected_16 (by decide) (fun c16 => ?_) (fun c16 => ?_)
    · refine go_iconst (v := 0) dX3_isDetected_23 (by decide) ?_
      refine go_zret dX3_isDetected_24 rfl (by first | rfl | exact zi_n) ?_ ?_ (Nat.zero_le _) (Nat.zero_le _)
      · first | exact zrt ⟨c10, c16⟩ | exact zrf (fun q => c10, c16 q.1) | exact zrt ⟨c10, zle.mpr c16⟩ | exact zrf (fun q => zle.mp q.2 c16)
      · rfl
    · refine go_iconst (v := 1) dX3_isDetected_19 (by decide) ?_
      refine go_goto (tgt := 24) dX3_isDetected_20 (by decide) ?_
      refine go_zret dX3_isDetected_24 rfl (by first | rfl | exact zi_n) ?_ ?_ (Nat.zero_le _) (Nat.zero_le _)
      · first | exact zrt ⟨c10, c16⟩ | exact zrf (fun q => c10, c16 q.1) | exact zrt ⟨c10, zle.mpr c16⟩ | exact zrf (fun q => zle.mp q.2 c16)
      · rfl
def clF (x : Int32) : Nat → Nat → Int32
  | 0, _ => -6
  | m + 1, k => if zsv 0 k ≤ x ∧ x ≤ zsv 1 k then nI k else clF x m (k + 1)
theorem zge5 {k m : Nat} (hk : k + (m + 1) = 5) : ¬ (5 : Int32) ≤ nI k := by
  have h1 : (5 : Int32) = nI 5 := rfl
  rw [h1]
  exact nI_ge (by omega) (by decide)
set_option maxRecDepth 4000 in
theorem kX3_classOf (γ : zG) (l : Launch) (n : Nat) (h : zH) (x : Int32) : Con γ l (n + 1) 0 0 MX3_classOf [.int x] h (some (.int (clF x 5 0))) h := by
  refine Con.go (by decide +kernel) (Nat.le_of_ble_eq_true rfl) ⟨rfl, trivial⟩ ?_
  show Go _ 0 0 0 [some (.int x), none] [] _
  have loop : ∀ (m k : Nat), k + m = 5 → clF x m k = clF x 5 0 → Go (γ, l, n + 1, (0, 0), MX3_classOf, zF γ 0 0 (some (.int (clF x 5 0))) h) 0 0 2 [some (.int x), some (.int (nI k))] [] h := by
    intro m
    induction m with
    | zero =>
      intro k hk hf
      have hkN : k = 5 := by omega
      subst hkN
      refine go_iload_n dX3_classOf_2 rfl ?_
      refine go_gets (k := 2) dX3_classOf_3 (by decide) slX3_174 ?_
      refine go_tlen dX3_classOf_6 (by decide) ?_
      refine go_icmp_ge (tgt := 35) dX3_classOf_7 (by decide) (fun c7 => ?_) (fun c7 => absurd (by decide) c7)
      refine go_bipush (v := (-6)) dX3_classOf_35 (by decide) ?_
      refine go_iret dX3_classOf_37 rfl ?_ ?_ (Nat.zero_le _) (Nat.zero_le _)
      · rw [← hf]; rfl
      · rfl
    | succ m ih =>
      intro k hk hf
      have hlt : k < 5 := by omega
      refine go_iload_n dX3_classOf_2 rfl ?_
      refine go_gets (k := 2) dX3_classOf_3 (by decide) slX3_174 ?_
      refine go_tlen dX3_classOf_6 (by decide) ?_
      refine go_icmp_ge (tgt := 35) dX3_classOf_7 (by decide) (fun c7 => absurd c7 (zge5 hk)) (fun c7 => ?_)
      refine go_iload_n dX3_classOf_10 rfl ?_
      refine go_gets (k := 0) dX3_classOf_11 (by decide) slX3_177 ?_
      refine go_iload_n dX3_classOf_14 rfl ?_
      refine go_tald dX3_classOf_15 (by decide) (zix rfl hlt (by decide)).1 (zix rfl hlt (by decide)).2 ?_
      refine go_gets (k := 1) dX3_classOf_16 (by decide) slX3_180 ?_
      refine go_iload_n dX3_classOf_19 rfl ?_
      refine go_tald dX3_classOf_20 (by decide) (zix rfl hlt (by decide)).1 (zix rfl hlt (by decide)).2 ?_
      refine go_callSi dX3_classOf_21 moX3_isWithin csX3_27 (kX3_isWithin γ l _ _ _ _ _) rfl rfl (Nat.le_refl _) (Nat.zero_le _) (Nat.zero_le _) (Nat.le_of_ble_eq_true rfl) ?_
      refine go_if_eq (tgt := 29) dX3_classOf_24 (by decide) (fun c24 => ?_) (fun c24 => ?_)
      · replace c24 := zi_0.mp c24
        refine go_iinc dX3_classOf_29 rfl (nI_1 k) (Nat.le_of_ble_eq_true rfl) ?_
        refine go_goto (tgt := 2) dX3_classOf_32 (by decide) ?_
        exact ih (k + 1) (by omega) ((show clF x (m + 1) k = clF x m (k + 1) from if_neg c24).symm.trans hf)
      · replace c24 := zi_nz.mp c24
        refine go_iload_n dX3_classOf_27 rfl ?_
        refine go_iret dX3_classOf_28 rfl ?_ ?_ (Nat.zero_le _) (Nat.zero_le _)
        · rw [← hf]; exact congrArg (fun v => some (Value.int v)) (if_pos c24)
        · rfl
  refine go_iconst (v := 0) dX3_classOf_0 (by decide) ?_
  refine go_istore_n dX3_classOf_1 (Nat.le_of_ble_eq_true rfl) ?_
  exact loop 5 0 rfl rfl
def mxF (c : Int32) : Int32 := if 0 ≤ c ∧ c ≤ 4 then zsv 2 c.toNatClampNeg else 0
set_option maxRecDepth 4000 in
theorem kX3_maximumOf (γ : zG) (l : Launch) (n : Nat) (h : zH) (x : Int32) : Con γ l (n + 1) 0 0 MX3_maximumOf [.int x] h (some (.int (mxF x))) h := by
  refine Con.go (by decide +kernel) (Nat.le_of_ble_eq_true rfl) ⟨rfl, trivial⟩ ?_
  show Go _ 0 0 0 [some (.int x)] [] _
  refine go_iload_n dX3_maximumOf_0 rfl ?_
  refine go_iconst (v := 0) dX3_maximumOf_1 (by decide) ?_
  refine go_gets (k := 2) dX3_maximumOf_2 (by decide) slX3_174 ?_
  refine go_tlen dX3_maximumOf_5 (by decide) ?_
  refine go_iconst (v := 1) dX3_maximumOf_6 (by decide) ?_
  refine go_isub dX3_maximumOf_7 ?_
  refine go_callSi dX3_maximumOf_8 moX3_isWithin csX3_27 (kX3_isWithin γ l _ _ _ _ _) rfl rfl (Nat.le_refl _) (Nat.zero_le _) (Nat.zero_le _) (Nat.le_of_ble_eq_true rfl) ?_
  refine go_if_eq (tgt := 22) dX3_maximumOf_11 (by decide) (fun c11 => ?_) (fun c11 => ?_)
  · replace c11 := zi_0.mp c11
    refine go_iconst (v := 0) dX3_maximumOf_22 (by decide) ?_
    refine go_iret dX3_maximumOf_23 rfl ?_ ?_ (Nat.zero_le _) (Nat.zero_le _)
    · first | exact congrArg (fun v => some (Value.int v)) (if_pos (c := 0 ≤ x ∧ x ≤ 4) c11) | exact congrArg (fun v => some (Value.int v)) (if_neg (c := 0 ≤ x ∧ x ≤ 4) c11)
    · rfl
  · replace c11 := zi_nz.mp c11
    refine go_gets (k := 2) dX3_maximumOf_14 (by decide) slX3_174 ?_
    refine go_iload_n dX3_maximumOf_17 rfl ?_
    refine go_tald dX3_maximumOf_18 (by decide) (zin5 c11) rfl ?_
    refine go_goto (tgt := 23) dX3_maximumOf_19 (by decide) ?_
    refine go_iret dX3_maximumOf_23 rfl ?_ ?_ (Nat.zero_le _) (Nat.zero_le _)
    · first | exact congrArg (fun v => some (Value.int v)) (if_pos (c := 0 ≤ x ∧ x ≤ 4) c11) | exact congrArg (fun v => some (Value.int v)) (if_neg (c := 0 ≤ x ∧ x ≤ 4) c11)
    · rfl
end
section
/-! PoeSwitch: methods that touch its state alone -/
def zsw (x : Nat) : va_E := .inr (3, [.ref (x + 1), .ref (x + 17), .ref (x + 33)])
abbrev aP (p : Int32) : Prop := 0 ≤ p ∧ p ≤ 7
abbrev aS (p : Int32) : Prop := 0 ≤ p ∧ p ≤ 2
abbrev aT (p : Int32) : Prop := 0 ≤ p ∧ p ≤ 1
abbrev ix (p : Int32) : Nat := p.toNatClampNeg
def mCap (σ : zS) (s c : Int32) : Int32 × zS := if aS s then (if 0 ≤ c ∧ c ≤ 3000 then (σ 0 (ix s), up2 σ 0 (ix s) c) else (-2, σ)) else (-1, σ)
def mWrk (σ : zS) (s w : Int32) : Int32 × zS := if aS s then (zi (¬ σ 1 (ix s) = 0), up2 σ 1 (ix s) w) else (-1, σ)
def mRow (σ : zS) (i : Nat) (lo hi v : Int32) : Int32 × zS := if lo ≤ v ∧ v ≤ hi then (σ 2 i, up2 σ 2 i v) else (-2, σ)
def upP (σ : zS) (p : Int32) (f : Nat → Int32) : zS := upR σ (7 + ix p) f
abbrev po (σ : zS) (p : Int32) : Nat → Int32 := σ (7 + ix p)
def mEna (σ : zS) (p b : Int32) : Int32 × zS := if aP p then (zi (¬ po σ p 0 = 0), if b = 0 then upP σ p (upd (upd (upd (upd (po σ p) 0 b) 7 0) 8 0) 9 0) else upP σ p (upd (po σ p) 0 b)) else (-1, σ)
def mPri (σ : zS) (p q : Int32) : Int32 × zS := if aP p then (if 0 ≤ q ∧ q ≤ 2 then (po σ p 1, upP σ p (upd (po σ p) 1 q)) else (-2, σ)) else (-1, σ)
def mCon (σ : zS) (p r c i w : Int32) : Int32 × zS := if aP p then (if (1 ≤ r ∧ r ≤ 999) ∧ (0 ≤ c ∧ c ≤ 99) ∧ (0 ≤ i ∧ i ≤ 60) ∧ (0 ≤ w ∧ w ≤ 999) then (if po σ p 2 = 0 then (clF i 5 0, upP σ p (upd (upd (upd (upd (upd (po σ p) 2 1) 3 (zi ((190 ≤ r ∧ r ≤ 265) ∧ c ≤ 15))) 4 (clF i 5 0)) 5 w) 6 (mxF (clF i 5 0)))) else (-3, σ)) else (-2, σ)) else (-1, σ)
def mDis (σ : zS) (p : Int32) : Int32 × zS := if aP p then (if po σ p 2 = 0 then (-3, σ) else (zi (0 < po σ p 7), upP σ p (upd (upd (upd (upd (po σ p) 2 0) 7 0) 8 0) 9 0))) else (-1, σ)
def mLoa (σ : zS) (p w : Int32) : Int32 × zS := if aP p then (if 0 ≤ w ∧ w ≤ 999 then (if po σ p 2 = 0 then (-3, σ) else (po σ p 5, upP σ p (upd (po σ p) 5 w))) else (-2, σ)) else (-1, σ)
def mReq (σ : zS) (p w : Int32) : Int32 × zS := if aP p then (if ¬ po σ p 2 = 0 ∧ ¬ po σ p 4 = -6 then (if 1 ≤ w ∧ w ≤ mxF (po σ p 4) then (if 0 < po σ p 7 then (if 0 < w - po σ p 7 ∧ sSp σ 8 < w - po σ p 7 then (-5, σ) else (po σ p 6, upP σ p (upd (upd (po σ p) 7 w) 6 w))) else (po σ p 6, upP σ p (upd (po σ p) 6 w))) else (-2, σ)) else (-3, σ)) else (-1, σ)
def mRqt (σ : zS) (p : Int32) : Int32 := if aP p then (if ¬ po σ p 2 = 0 ∧ ¬ po σ p 4 = -6 then po σ p 6 else -6) else -1
def mFld (σ : zS) (k : Nat) (p : Int32) : Int32 := if aP p then po σ p k else -1
def mEvt (σ : zS) (k : Nat) (i : Int32) : Int32 := if 0 ≤ i ∧ i < σ 6 1 then σ (3 + k) (((σ 6 0).toNatClampNeg + ix i) % 16) else -1
set_option maxRecDepth 4000 in
theorem kX3_setCapacity_ (γ : zG) (l : Launch) (n : Nat) (h : zH) (x : Nat) (σ : zS) (hx : h.1 x = some (zsw x)) (hs : zSt16 γ h (x + 1) σ) (s : Int32) (c : Int32) (R : Int32 × zS) (hR : mCap σ s c = R) : Con γ l (n + 2) 0 0 MX3_setCapacity [.ref x, .int s, .int c] h (some (.int R.1)) (zps γ h (x + 1) R.2) := by
  refine Con.go (by decide +kernel) (Nat.le_of_ble_eq_true rfl) ⟨rfl, rfl, rfl, trivial⟩ ?_
  show Go _ 0 0 0 [some (.ref x), some (.int s), some (.int c), none] [] _
  refine go_iload_n dX3_setCapacity_0 rfl ?_
  refine go_callSi dX3_setCapacity_1 moX3_isSupply csX3_23 (kX3_isSupply γ l _ _ _) rfl rfl (Nat.le_refl _) (Nat.zero_le _) (Nat.zero_le _) (Nat.le_of_ble_eq_true rfl) ?_
  refine go_if_ne (tgt := 9) dX3_setCapacity_4 (by decide) (fun c4 => ?_) (fun c4 => ?_)
  · replace c4 := zi_nz.mp c4
    refine go_iload_n dX3_setCapacity_9 rfl ?_
    refine go_iconst (v := 0) dX3_setCapacity_10 (by decide) ?_
    refine go_sipush (v := 3000) dX3_setCapacity_11 (by decide) ?_
    refine go_callSi dX3_setCapacity_14 moX3_isWithin csX3_27 (kX3_isWithin γ l _ _ _ _ _) rfl rfl (Nat.le_refl _) (Nat.zero_le _) (Nat.zero_le _) (Nat.le_of_ble_eq_true rfl) ?_
    refine go_if_ne (tgt := 23) dX3_setCapacity_17 (by decide) (fun c17 => ?_) (fun c17 => ?_)
    · replace c17 := zi_nz.mp c17
      refine go_aload_n dX3_setCapacity_23 rfl ?_
      refine go_getf dX3_setCapacity_24 flX3_10 (by first | exact hx | exact hs 0 (by decide) | exact hs 3 (by decide) | exact hs 1 (by decide) | exact hs 2 (by decide)) rfl ?_
      refine go_getf dX3_setCapacity_27 flX3_31 (by first | exact hx | exact hs 0 (by decide) | exact hs 3 (by decide) | exact hs 1 (by decide) | exact hs 2 (by decide)) rfl ?_
      refine go_iload_n dX3_setCapacity_30 rfl ?_
      refine go_iald dX3_setCapacity_31 (by first | exact hx | exact hs 0 (by decide) | exact hs 3 (by decide) | exact hs 1 (by decide) | exact hs 2 (by decide)) (zin3 c4) rfl ?_
      refine go_istore_n dX3_setCapacity_32 (Nat.le_of_ble_eq_true rfl) ?_
      refine go_aload_n dX3_setCapacity_33 rfl ?_
      refine go_getf dX3_setCapacity_34 flX3_10 (by first | exact hx | exact hs 0 (by decide) | exact hs 3 (by decide) | exact hs 1 (by decide) | exact hs 2 (by decide)) rfl ?_
      refine go_getf dX3_setCapacity_37 flX3_31 (by first | exact hx | exact hs 0 (by decide) | exact hs 3 (by decide) | exact hs 1 (by decide) | exact hs 2 (by decide)) rfl ?_
      refine go_iload_n dX3_setCapacity_40 rfl ?_
      refine go_iload_n dX3_setCapacity_41 rfl ?_
      refine go_iast dX3_setCapacity_42 (by first | exact hx | exact hs 0 (by decide) | exact hs 3 (by decide) | exact hs 1 (by decide) | exact hs 2 (by decide)) (zin3 c4) rfl ?_
      refine go_iload_n dX3_setCapacity_43 rfl ?_
      refine go_iret dX3_setCapacity_44 rfl ?_ ?_ (Nat.zero_le _) (Nat.zero_le _)
      · rw [← hR]; simp [mCap, aS, aP, aT, po, ix, c4, c17]
      · first | (rw [← hR]; simp [mCap, aS, aP, aT, po, ix, c4, c17]; exact zps_id hs) | (rw [← hR]; simp [mCap, aS, aP, aT, po, ix, c4, c17]; exact (zst_r0 hs).symm)
    · replace c17 := zi_0.mp c17
      refine go_bipush (v := (-2)) dX3_setCapacity_20 (by decide) ?_
      refine go_iret dX3_setCapacity_22 rfl ?_ ?_ (Nat.zero_le _) (Nat.zero_le _)
      · rw [← hR]; simp [mCap, aS, aP, aT, po, ix, c4, c17]
      · first | (rw [← hR]; simp [mCap, aS, aP, aT, po, ix, c4, c17]; exact zps_id hs) | (rw [← hR]; simp [mCap, aS, aP, aT, po, ix, c4, c17]; exact (zst_r0 hs).symm)
  · replace c4 := zi_0.mp c4
    refine go_iconst (v := (-1)) dX3_setCapacity_7 (by decide) ?_
    refine go_iret dX3_setCapacity_8 rfl ?_ ?_ (Nat.zero_le _) (Nat.zero_le _)
    · rw [← hR]; simp [mCap, aS, aP, aT, po, ix, c4]
    · first | (rw [← hR]; simp [mCap, aS, aP, aT, po, ix, c4]; exact zps_id hs) | (rw [← hR]; simp [mCap, aS, aP, aT, po, ix, c4]; exact (zst_r0 hs).symm)
set_option maxRecDepth 4000 in
theorem kX3_setWorking_ (γ : zG) (l : Launch) (n : Nat) (h : zH) (x : Nat) (σ : zS) (hx : h.1 x = some (zsw x)) (hs : zSt16 γ h (x + 1) σ) (s : Int32) (w : Int32) (hw : zB w) (R : Int32 × zS) (hR : mWrk σ s w = R) : Con γ l (n + 2) 0 0 MX3_setWorking [.ref x, .int s, .int w] h (some (.int R.1)) (zps γ h (x + 1) R.2) := by
  refine Con.go (by decide +kernel) (Nat.le_of_ble_eq_true rfl) ⟨rfl, rfl, rfl, trivial⟩ ?_
  show Go _ 0 0 0 [some (.ref x), some (.int s), some (.int w), none] [] _
  refine go_iload_n dX3_setWorking_0 rfl ?_
  refine go_callSi dX3_setWorking_1 moX3_isSupply csX3_23 (kX3_isSupply γ l _ _ _) rfl rfl (Nat.le_refl _) (Nat.zero_le _) (Nat.zero_le _) (Nat.le_of_ble_eq_true rfl) ?_
  refine go_if_ne (tgt := 9) dX3_setWorking_4 (by decide) (fun c4 => ?_) (fun c4 => ?_)
  · replace c4 := zi_nz.mp c4
    refine go_aload_n dX3_setWorking_9 rfl ?_
    refine go_getf dX3_setWorking_10 flX3_10 (by first | exact hx | exact hs 0 (by decide) | exact hs 3 (by decide) | exact hs 1 (by decide) | exact hs 2 (by decide)) rfl ?_
    refine go_getf dX3_setWorking_13 flX3_35 (by first | exact hx | exact hs 0 (by decide) | exact hs 3 (by decide) | exact hs 1 (by decide) | exact hs 2 (by decide)) rfl ?_
    refine go_iload_n dX3_setWorking_16 rfl ?_
    refine go_zald dX3_setWorking_17 (by first | exact hx | exact hs 0 (by decide) | exact hs 3 (by decide) | exact hs 1 (by decide) | exact hs 2 (by decide)) (zin3 c4) rfl ?_
    refine go_istore_n dX3_setWorking_18 (Nat.le_of_ble_eq_true rfl) ?_
    refine go_aload_n dX3_setWorking_19 rfl ?_
    refine go_getf dX3_setWorking_20 flX3_10 (by first | exact hx | exact hs 0 (by decide) | exact hs 3 (by decide) | exact hs 1 (by decide) | exact hs 2 (by decide)) rfl ?_
    refine go_getf dX3_setWorking_23 flX3_35 (by first | exact hx | exact hs 0 (by decide) | exact hs 3 (by decide) | exact hs 1 (by decide) | exact hs 2 (by decide)) rfl ?_
    refine go_iload_n dX3_setWorking_26 rfl ?_
    refine go_iload_n dX3_setWorking_27 rfl ?_
    refine go_zast dX3_setWorking_28 (by first | exact hx | exact hs 0 (by decide) | exact hs 3 (by decide) | exact hs 1 (by decide) | exact hs 2 (by decide)) (zin3 c4) rfl (zab (by exact hw)) ?_
    refine go_iload_n dX3_setWorking_29 rfl ?_
    refine go_if_eq (tgt := 37) dX3_setWorking_30 (by decide) (fun c30 => ?_) (fun c30 => ?_)
    · refine go_iconst (v := 0) dX3_setWorking_37 (by decide) ?_
      refine go_iret dX3_setWorking_38 rfl ?_ ?_ (Nat.zero_le _) (Nat.zero_le _)
      · rw [← hR]; simp [mWrk, zi, aS, c4, c30]
      · first | (rw [← hR]; simp [mWrk, aS, aP, aT, po, ix, c4, c30]; exact zps_id hs) | (rw [← hR]; simp [mWrk, aS, aP, aT, po, ix, c4, c30]; exact (zst_r1 hs).symm)
    · refine go_iconst (v := 1) dX3_setWorking_33 (by decide) ?_
      refine go_goto (tgt := 38) dX3_setWorking_34 (by decide) ?_
      refine go_iret dX3_setWorking_38 rfl ?_ ?_ (Nat.zero_le _) (Nat.zero_le _)
      · rw [← hR]; simp [mWrk, zi, aS, c4, c30]
      · first | (rw [← hR]; simp [mWrk, aS, aP, aT, po, ix, c4, c30]; exact zps_id hs) | (rw [← hR]; simp [mWrk, aS, aP, aT, po, ix, c4, c30]; exact (zst_r1 hs).symm)
  · replace c4 := zi_0.mp c4
    refine go_iconst (v := (-1)) dX3_setWorking_7 (by decide) ?_
    refine go_iret dX3_setWorking_8 rfl ?_ ?_ (Nat.zero_le _) (Nat.zero_le _)
    · rw [← hR]; simp [mWrk, zi, aS, c4]
    · first | (rw [← hR]; simp [mWrk, aS, aP, aT, po, ix, c4]; exact zps_id hs) | (rw [← hR]; simp [mWrk, aS, aP, aT, po, ix, c4]; exact (zst_r1 hs).symm)
set_option maxRecDepth 4000 in
theorem kX3_setReserve_ (γ : zG) (l : Launch) (n : Nat) (h : zH) (x : Nat) (σ : zS) (hx : h.1 x = some (zsw x)) (hs : zSt16 γ h (x + 1) σ) (v : Int32) (R : Int32 × zS) (hR : mRow σ 0 0 3000 v = R) : Con γ l (n + 1) 0 0 MX3_setReserve [.ref x, .int v] h (some (.int R.1)) (zps γ h (x + 1) R.2) := by
  refine Con.go (by decide +kernel) (Nat.le_of_ble_eq_true rfl) ⟨rfl, rfl, trivial⟩ ?_
  show Go _ 0 0 0 [some (.ref x), some (.int v), none] [] _
  refine go_iload_n dX3_setReserve_0 rfl ?_
  refine go_iconst (v := 0) dX3_setReserve_1 (by decide) ?_
  refine go_sipush (v := 3000) dX3_setReserve_2 (by decide) ?_
  refine go_callSi dX3_setReserve_5 moX3_isWithin csX3_27 (kX3_isWithin γ l _ _ _ _ _) rfl rfl (Nat.le_refl _) (Nat.zero_le _) (Nat.zero_le _) (Nat.le_of_ble_eq_true rfl) ?_
  refine go_if_ne (tgt := 14) dX3_setReserve_8 (by decide) (fun c8 => ?_) (fun c8 => ?_)
  · replace c8 := zi_nz.mp c8
    refine go_aload_n dX3_setReserve_14 rfl ?_
    refine go_getf dX3_setReserve_15 flX3_10 (by first | exact hx | exact hs 0 (by decide) | exact hs 3 (by decide) | exact hs 1 (by decide) | exact hs 2 (by decide)) rfl ?_
    refine go_getf dX3_setReserve_18 flX3_39 (by first | exact hx | exact hs 0 (by decide) | exact hs 3 (by decide) | exact hs 1 (by decide) | exact hs 2 (by decide)) rfl ?_
    refine go_istore_n dX3_setReserve_21 (Nat.le_of_ble_eq_true rfl) ?_
    refine go_aload_n dX3_setReserve_22 rfl ?_
    refine go_getf dX3_setReserve_23 flX3_10 (by first | exact hx | exact hs 0 (by decide) | exact hs 3 (by decide) | exact hs 1 (by decide) | exact hs 2 (by decide)) rfl ?_
    refine go_iload_n dX3_setReserve_26 rfl ?_
    refine go_putf dX3_setReserve_27 flX3_39 fnX2_4 (by first | exact hx | exact hs 0 (by decide) | exact hs 3 (by decide) | exact hs 1 (by decide) | exact hs 2 (by decide)) rfl rfl (Nat.le_of_ble_eq_true rfl) ?_
    refine go_iload_n dX3_setReserve_30 rfl ?_
    refine go_iret dX3_setReserve_31 rfl ?_ ?_ (Nat.zero_le _) (Nat.zero_le _)
    · rw [← hR]; simp [mRow, c8]
    · first | (rw [← hR]; simp [mRow, c8]; exact zps_id hs) | (rw [← hR]; simp [mRow, c8]; exact (zst_r2 (f := upd (σ 2) 0 v) hs rfl).symm)
  · replace c8 := zi_0.mp c8
    refine go_bipush (v := (-2)) dX3_setReserve_11 (by decide) ?_
    refine go_iret dX3_setReserve_13 rfl ?_ ?_ (Nat.zero_le _) (Nat.zero_le _)
    · rw [← hR]; simp [mRow, c8]
    · first | (rw [← hR]; simp [mRow, c8]; exact zps_id hs) | (rw [← hR]; simp [mRow, c8]; exact (zst_r2 (f := upd (σ 2) 0 v) hs rfl).symm)
set_option maxRecDepth 4000 in
theorem kX3_setRestartGap_ (γ : zG) (l : Launch) (n : Nat) (h : zH) (x : Nat) (σ : zS) (hx : h.1 x = some (zsw x)) (hs : zSt16 γ h (x + 1) σ) (v : Int32) (R : Int32 × zS) (hR : mRow σ 1 1 30 v = R) : Con γ l (n + 1) 0 0 MX3_setRestartGap [.ref x, .int v] h (some (.int R.1)) (zps γ h (x + 1) R.2) := by
  refine Con.go (by decide +kernel) (Nat.le_of_ble_eq_true rfl) ⟨rfl, rfl, trivial⟩ ?_
  show Go _ 0 0 0 [some (.ref x), some (.int v), none] [] _
  refine go_iload_n dX3_setRestartGap_0 rfl ?_
  refine go_iconst (v := 1) dX3_setRestartGap_1 (by decide) ?_
  refine go_bipush (v := 30) dX3_setRestartGap_2 (by decide) ?_
  refine go_callSi dX3_setRestartGap_4 moX3_isWithin csX3_27 (kX3_isWithin γ l _ _ _ _ _) rfl rfl (Nat.le_refl _) (Nat.zero_le _) (Nat.zero_le _) (Nat.le_of_ble_eq_true rfl) ?_
  refine go_if_ne (tgt := 13) dX3_setRestartGap_7 (by decide) (fun c7 => ?_) (fun c7 => ?_)
  · replace c7 := zi_nz.mp c7
    refine go_aload_n dX3_setRestartGap_13 rfl ?_
    refine go_getf dX3_setRestartGap_14 flX3_10 (by first | exact hx | exact hs 0 (by decide) | exact hs 3 (by decide) | exact hs 1 (by decide) | exact hs 2 (by decide)) rfl ?_
    refine go_getf dX3_setRestartGap_17 flX3_43 (by first | exact hx | exact hs 0 (by decide) | exact hs 3 (by decide) | exact hs 1 (by decide) | exact hs 2 (by decide)) rfl ?_
    refine go_istore_n dX3_setRestartGap_20 (Nat.le_of_ble_eq_true rfl) ?_
    refine go_aload_n dX3_setRestartGap_21 rfl ?_
    refine go_getf dX3_setRestartGap_22 flX3_10 (by first | exact hx | exact hs 0 (by decide) | exact hs 3 (by decide) | exact hs 1 (by decide) | exact hs 2 (by decide)) rfl ?_
    refine go_iload_n dX3_setRestartGap_25 rfl ?_
    refine go_putf dX3_setRestartGap_26 flX3_43 fnX2_5 (by first | exact hx | exact hs 0 (by decide) | exact hs 3 (by decide) | exact hs 1 (by decide) | exact hs 2 (by decide)) rfl rfl (Nat.le_of_ble_eq_true rfl) ?_
    refine go_iload_n dX3_setRestartGap_29 rfl ?_
    refine go_iret dX3_setRestartGap_30 rfl ?_ ?_ (Nat.zero_le _) (Nat.zero_le _)
    · rw [← hR]; simp [mRow, c7]
    · first | (rw [← hR]; simp [mRow, c7]; exact zps_id hs) | (rw [← hR]; simp [mRow, c7]; exact (zst_r2 (f := upd (σ 2) 1 v) hs rfl).symm)
  · replace c7 := zi_0.mp c7
    refine go_bipush (v := (-2)) dX3_setRestartGap_10 (by decide) ?_
    refine go_iret dX3_setRestartGap_12 rfl ?_ ?_ (Nat.zero_le _) (Nat.zero_le _)
    · rw [← hR]; simp [mRow, c7]
    · first | (rw [← hR]; simp [mRow, c7]; exact zps_id hs) | (rw [← hR]; simp [mRow, c7]; exact (zst_r2 (f := upd (σ 2) 1 v) hs rfl).symm)
set_option maxRecDepth 4000 in
theorem kX3_setOverloadLimit_ (γ : zG) (l : Launch) (n : Nat) (h : zH) (x : Nat) (σ : zS) (hx : h.1 x = some (zsw x)) (hs : zSt16 γ h (x + 1) σ) (v : Int32) (R : Int32 × zS) (hR : mRow σ 2 1 30 v = R) : Con γ l (n + 1) 0 0 MX3_setOverloadLimit [.ref x, .int v] h (some (.int R.1)) (zps γ h (x + 1) R.2) := by
  refine Con.go (by decide +kernel) (Nat.le_of_ble_eq_true rfl) ⟨rfl, rfl, trivial⟩ ?_
  show Go _ 0 0 0 [some (.ref x), some (.int v), none] [] _
  refine go_iload_n dX3_setOverloadLimit_0 rfl ?_
  refine go_iconst (v := 1) dX3_setOverloadLimit_1 (by decide) ?_
  refine go_bipush (v := 30) dX3_setOverloadLimit_2 (by decide) ?_
  refine go_callSi dX3_setOverloadLimit_4 moX3_isWithin csX3_27 (kX3_isWithin γ l _ _ _ _ _) rfl rfl (Nat.le_refl _) (Nat.zero_le _) (Nat.zero_le _) (Nat.le_of_ble_eq_true rfl) ?_
  refine go_if_ne (tgt := 13) dX3_setOverloadLimit_7 (by decide) (fun c7 => ?_) (fun c7 => ?_)
  · replace c7 := zi_nz.mp c7
    refine go_aload_n dX3_setOverloadLimit_13 rfl ?_
    refine go_getf dX3_setOverloadLimit_14 flX3_10 (by first | exact hx | exact hs 0 (by decide) | exact hs 3 (by decide) | exact hs 1 (by decide) | exact hs 2 (by decide)) rfl ?_
    refine go_getf dX3_setOverloadLimit_17 flX3_46 (by first | exact hx | exact hs 0 (by decide) | exact hs 3 (by decide) | exact hs 1 (by decide) | exact hs 2 (by decide)) rfl ?_
    refine go_istore_n dX3_setOverloadLimit_20 (Nat.le_of_ble_eq_true rfl) ?_
    refine go_aload_n dX3_setOverloadLimit_21 rfl ?_
    refine go_getf dX3_setOverloadLimit_22 flX3_10 (by first | exact hx | exact hs 0 (by decide) | exact hs 3 (by decide) | exact hs 1 (by decide) | exact hs 2 (by decide)) rfl ?_
    refine go_iload_n dX3_setOverloadLimit_25 rfl ?_
    refine go_putf dX3_setOverloadLimit_26 flX3_46 fnX2_6 (by first | exact hx | exact hs 0 (by decide) | exact hs 3 (by decide) | exact hs 1 (by decide) | exact hs 2 (by decide)) rfl rfl (Nat.le_of_ble_eq_true rfl) ?_
    refine go_iload_n dX3_setOverloadLimit_29 rfl ?_
    refine go_iret dX3_setOverloadLimit_30 rfl ?_ ?_ (Nat.zero_le _) (Nat.zero_le _)
    · rw [← hR]; simp [mRow, c7]
    · first | (rw [← hR]; simp [mRow, c7]; exact zps_id hs) | (rw [← hR]; simp [mRow, c7]; exact (zst_r2 (f := upd (σ 2) 2 v) hs rfl).symm)
  · replace c7 := zi_0.mp c7
    refine go_bipush (v := (-2)) dX3_setOverloadLimit_10 (by decide) ?_
    refine go_iret dX3_setOverloadLimit_12 rfl ?_ ?_ (Nat.zero_le _) (Nat.zero_le _)
    · rw [← hR]; simp [mRow, c7]
    · first | (rw [← hR]; simp [mRow, c7]; exact zps_id hs) | (rw [← hR]; simp [mRow, c7]; exact (zst_r2 (f := upd (σ 2) 2 v) hs rfl).symm)
set_option maxRecDepth 4000 in
theorem kX3_setCooldownTime_ (γ : zG) (l : Launch) (n : Nat) (h : zH) (x : Nat) (σ : zS) (hx : h.1 x = some (zsw x)) (hs : zSt16 γ h (x + 1) σ) (v : Int32) (R : Int32 × zS) (hR : mRow σ 3 1 60 v = R) : Con γ l (n + 1) 0 0 MX3_setCooldownTime [.ref x, .int v] h (some (.int R.1)) (zps γ h (x + 1) R.2) := by
  refine Con.go (by decide +kernel) (Nat.le_of_ble_eq_true rfl) ⟨rfl, rfl, trivial⟩ ?_
  show Go _ 0 0 0 [some (.ref x), some (.int v), none] [] _
  refine go_iload_n dX3_setCooldownTime_0 rfl ?_
  refine go_iconst (v := 1) dX3_setCooldownTime_1 (by decide) ?_
  refine go_bipush (v := 60) dX3_setCooldownTime_2 (by decide) ?_
  refine go_callSi dX3_setCooldownTime_4 moX3_isWithin csX3_27 (kX3_isWithin γ l _ _ _ _ _) rfl rfl (Nat.le_refl _) (Nat.zero_le _) (Nat.zero_le _) (Nat.le_of_ble_eq_true rfl) ?_
  refine go_if_ne (tgt := 13) dX3_setCooldownTime_7 (by decide) (fun c7 => ?_) (fun c7 => ?_)
  · replace c7 := zi_nz.mp c7
    refine go_aload_n dX3_setCooldownTime_13 rfl ?_
    refine go_getf dX3_setCooldownTime_14 flX3_10 (by first | exact hx | exact hs 0 (by decide) | exact hs 3 (by decide) | exact hs 1 (by decide) | exact hs 2 (by decide)) rfl ?_
    refine go_getf dX3_setCooldownTime_17 flX3_49 (by first | exact hx | exact hs 0 (by decide) | exact hs 3 (by decide) | exact hs 1 (by decide) | exact hs 2 (by decide)) rfl ?_
    refine go_istore_n dX3_setCooldownTime_20 (Nat.le_of_ble_eq_true rfl) ?_
    refine go_aload_n dX3_setCooldownTime_21 rfl ?_
    refine go_getf dX3_setCooldownTime_22 flX3_10 (by first | exact hx | exact hs 0 (by decide) | exact hs 3 (by decide) | exact hs 1 (by decide) | exact hs 2 (by decide)) rfl ?_
    refine go_iload_n dX3_setCooldownTime_25 rfl ?_
    refine go_putf dX3_setCooldownTime_26 flX3_49 fnX2_7 (by first | exact hx | exact hs 0 (by decide) | exact hs 3 (by decide) | exact hs 1 (by decide) | exact hs 2 (by decide)) rfl rfl (Nat.le_of_ble_eq_true rfl) ?_
    refine go_iload_n dX3_setCooldownTime_29 rfl ?_
    refine go_iret dX3_setCooldownTime_30 rfl ?_ ?_ (Nat.zero_le _) (Nat.zero_le _)
    · rw [← hR]; simp [mRow, c7]
    · first | (rw [← hR]; simp [mRow, c7]; exact zps_id hs) | (rw [← hR]; simp [mRow, c7]; exact (zst_r2 (f := upd (σ 2) 3 v) hs rfl).symm)
  · replace c7 := zi_0.mp c7
    refine go_bipush (v := (-2)) dX3_setCooldownTime_10 (by decide) ?_
    refine go_iret dX3_setCooldownTime_12 rfl ?_ ?_ (Nat.zero_le _) (Nat.zero_le _)
    · rw [← hR]; simp [mRow, c7]
    · first | (rw [← hR]; simp [mRow, c7]; exact zps_id hs) | (rw [← hR]; simp [mRow, c7]; exact (zst_r2 (f := upd (σ 2) 3 v) hs rfl).symm)
set_option maxRecDepth 4000 in
theorem kX3_budget (γ : zG) (l : Launch) (n : Nat) (h : zH) (x : Nat) (σ : zS) (hx : h.1 x = some (zsw x)) (hs : zSt16 γ h (x + 1) σ) : Con γ l (n + 2) 0 0 MX3_budget [.ref x] h (some (.int (sBud σ))) h := by
  refine Con.go (by decide +kernel) (Nat.le_of_ble_eq_true rfl) ⟨rfl, trivial⟩ ?_
  show Go _ 0 0 0 [some (.ref x)] [] _
  refine go_aload_n dX3_budget_0 rfl ?_
  refine go_getf dX3_budget_1 flX3_10 (by first | exact hx | exact hs 0 (by decide) | exact hs 3 (by decide) | exact hs 1 (by decide) | exact hs 2 (by decide)) rfl ?_
  refine go_callVi (ci := 2) dX3_budget_4 moX2_wholeBudget cvX3_52 ⟨rfl, rfl⟩ (kX2_wholeBudget γ l _ h (x + 1) σ hs) (by first | exact hx | exact hs 0 (by decide) | exact hs 3 (by decide) | exact hs 1 (by decide) | exact hs 2 (by decide)) rfl rfl (Nat.le_refl _) (Nat.zero_le _) (Nat.zero_le _) (Nat.le_of_ble_eq_true rfl) ?_
  refine go_iret dX3_budget_7 rfl ?_ ?_ (Nat.zero_le _) (Nat.zero_le _)
  · rfl
  · rfl
set_option maxRecDepth 4000 in
theorem kX3_available (γ : zG) (l : Launch) (n : Nat) (h : zH) (x : Nat) (σ : zS) (hx : h.1 x = some (zsw x)) (hs : zSt16 γ h (x + 1) σ) : Con γ l (n + 3) 0 0 MX3_available [.ref x] h (some (.int (sSp σ 8))) h := by
  refine Con.go (by decide +kernel) (Nat.le_of_ble_eq_true rfl) ⟨rfl, trivial⟩ ?_
  show Go _ 0 0 0 [some (.ref x)] [] _
  refine go_aload_n dX3_available_0 rfl ?_
  refine go_getf dX3_available_1 flX3_10 (by first | exact hx | exact hs 0 (by decide) | exact hs 3 (by decide) | exact hs 1 (by decide) | exact hs 2 (by decide)) rfl ?_
  refine go_callVi (ci := 2) dX3_available_4 moX2_sparePower cvX3_56 ⟨rfl, rfl⟩ (kX2_sparePower γ l _ h (x + 1) σ hs) (by first | exact hx | exact hs 0 (by decide) | exact hs 3 (by decide) | exact hs 1 (by decide) | exact hs 2 (by decide)) rfl rfl (Nat.le_refl _) (Nat.zero_le _) (Nat.zero_le _) (Nat.le_of_ble_eq_true rfl) ?_
  refine go_iret dX3_available_7 rfl ?_ ?_ (Nat.zero_le _) (Nat.zero_le _)
  · rfl
  · rfl
set_option maxRecDepth 4000 in
theorem kX3_eligiblePorts (γ : zG) (l : Launch) (n : Nat) (h : zH) (x : Nat) (σ : zS) (hx : h.1 x = some (zsw x)) (hs : zSt16 γ h (x + 1) σ) : Con γ l (n + 3) 0 0 MX3_eligiblePorts [.ref x] h (some (.int (sEl σ 8))) h := by
  refine Con.go (by decide +kernel) (Nat.le_of_ble_eq_true rfl) ⟨rfl, trivial⟩ ?_
  show Go _ 0 0 0 [some (.ref x)] [] _
  refine go_aload_n dX3_eligiblePorts_0 rfl ?_
  refine go_getf dX3_eligiblePorts_1 flX3_10 (by first | exact hx | exact hs 0 (by decide) | exact hs 3 (by decide) | exact hs 1 (by decide) | exact hs 2 (by decide)) rfl ?_
  refine go_callVi (ci := 2) dX3_eligiblePorts_4 moX2_eligibleSet cvX3_114 ⟨rfl, rfl⟩ (kX2_eligibleSet γ l _ h (x + 1) σ hs) (by first | exact hx | exact hs 0 (by decide) | exact hs 3 (by decide) | exact hs 1 (by decide) | exact hs 2 (by decide)) rfl rfl (Nat.le_refl _) (Nat.zero_le _) (Nat.zero_le _) (Nat.le_of_ble_eq_true rfl) ?_
  refine go_iret dX3_eligiblePorts_7 rfl ?_ ?_ (Nat.zero_le _) (Nat.zero_le _)
  · rfl
  · rfl
set_option maxRecDepth 4000 in
theorem kX3_poweredPorts (γ : zG) (l : Launch) (n : Nat) (h : zH) (x : Nat) (σ : zS) (hx : h.1 x = some (zsw x)) (hs : zSt16 γ h (x + 1) σ) : Con γ l (n + 2) 0 0 MX3_poweredPorts [.ref x] h (some (.int (sPw σ 8))) h := by
  refine Con.go (by decide +kernel) (Nat.le_of_ble_eq_true rfl) ⟨rfl, trivial⟩ ?_
  show Go _ 0 0 0 [some (.ref x)] [] _
  refine go_aload_n dX3_poweredPorts_0 rfl ?_
  refine go_getf dX3_poweredPorts_1 flX3_10 (by first | exact hx | exact hs 0 (by decide) | exact hs 3 (by decide) | exact hs 1 (by decide) | exact hs 2 (by decide)) rfl ?_
  refine go_callVi (ci := 2) dX3_poweredPorts_4 moX2_poweredSet cvX3_117 ⟨rfl, rfl⟩ (kX2_poweredSet γ l _ h (x + 1) σ hs) (by first | exact hx | exact hs 0 (by decide) | exact hs 3 (by decide) | exact hs 1 (by decide) | exact hs 2 (by decide)) rfl rfl (Nat.le_refl _) (Nat.zero_le _) (Nat.zero_le _) (Nat.le_of_ble_eq_true rfl) ?_
  refine go_iret dX3_poweredPorts_7 rfl ?_ ?_ (Nat.zero_le _) (Nat.zero_le _)
  · rfl
  · rfl
set_option maxRecDepth 4000 in
theorem kX3_fittingPorts (γ : zG) (l : Launch) (n : Nat) (h : zH) (x : Nat) (σ : zS) (hx : h.1 x = some (zsw x)) (hs : zSt16 γ h (x + 1) σ) : Con γ l (n + 3) 0 0 MX3_fittingPorts [.ref x] h (some (.int ((sFo σ 3).1))) h := by
  refine Con.go (by decide +kernel) (Nat.le_of_ble_eq_true rfl) ⟨rfl, trivial⟩ ?_
  show Go _ 0 0 0 [some (.ref x)] [] _
  refine go_aload_n dX3_fittingPorts_0 rfl ?_
  refine go_getf dX3_fittingPorts_1 flX3_10 (by first | exact hx | exact hs 0 (by decide) | exact hs 3 (by decide) | exact hs 1 (by decide) | exact hs 2 (by decide)) rfl ?_
  refine go_callVi (ci := 2) dX3_fittingPorts_4 moX2_fittingSet cvX3_162 ⟨rfl, rfl⟩ (kX2_fittingSet γ l _ h (x + 1) σ hs) (by first | exact hx | exact hs 0 (by decide) | exact hs 3 (by decide) | exact hs 1 (by decide) | exact hs 2 (by decide)) rfl rfl (Nat.le_refl _) (Nat.zero_le _) (Nat.zero_le _) (Nat.le_of_ble_eq_true rfl) ?_
  refine go_iret dX3_fittingPorts_7 rfl ?_ ?_ (Nat.zero_le _) (Nat.zero_le _)
  · rfl
  · rfl
end
section
/-! PoeSwitch: ports and devices, the log -/
set_option maxRecDepth 4000 in
theorem kX3_setPriority_ (γ : zG) (l : Launch) (n : Nat) (h : zH) (x : Nat) (σ : zS) (hx : h.1 x = some (zsw x)) (hs : zSt16 γ h (x + 1) σ) (p : Int32) (q : Int32) (R : Int32 × zS) (hR : mPri σ p q = R) : Con γ l (n + 2) 0 0 MX3_setPriority [.ref x, .int p, .int q] h (some (.int R.1)) (zps γ h (x + 1) R.2) := by
  refine Con.go (by decide +kernel) (Nat.le_of_ble_eq_true rfl) ⟨rfl, rfl, rfl, trivial⟩ ?_
  show Go _ 0 0 0 [some (.ref x), some (.int p), some (.int q), none, none] [] _
  refine go_iload_n dX3_setPriority_0 rfl ?_
  refine go_callSi dX3_setPriority_1 moX3_isPort csX3_59 (kX3_isPort γ l _ _ _) rfl rfl (Nat.le_refl _) (Nat.zero_le _) (Nat.zero_le _) (Nat.le_of_ble_eq_true rfl) ?_
  refine go_if_ne (tgt := 9) dX3_setPriority_4 (by decide) (fun c4 => ?_) (fun c4 => ?_)
  · replace c4 := zi_nz.mp c4
    refine go_iload_n dX3_setPriority_9 rfl ?_
    refine go_iconst (v := 0) dX3_setPriority_10 (by decide) ?_
    refine go_iconst (v := 2) dX3_setPriority_11 (by decide) ?_
    refine go_callSi dX3_setPriority_12 moX3_isWithin csX3_27 (kX3_isWithin γ l _ _ _ _ _) rfl rfl (Nat.le_refl _) (Nat.zero_le _) (Nat.zero_le _) (Nat.le_of_ble_eq_true rfl) ?_
    refine go_if_ne (tgt := 21) dX3_setPriority_15 (by decide) (fun c15 => ?_) (fun c15 => ?_)
    · replace c15 := zi_nz.mp c15
      refine go_aload_n dX3_setPriority_21 rfl ?_
      refine go_getf dX3_setPriority_22 flX3_10 (by first | exact zu_s _ _ _ | exact zst_port hs (zn8 c4).2 | exact hx | exact hs 0 (by decide) | exact hs 3 (by decide) | exact hs 1 (by decide) | exact hs 2 (by decide)) rfl ?_
      refine go_getf dX3_setPriority_25 flX3_62 (by first | exact zu_s _ _ _ | exact zst_port hs (zn8 c4).2 | exact hx | exact hs 0 (by decide) | exact hs 3 (by decide) | exact hs 1 (by decide) | exact hs 2 (by decide)) rfl ?_
      refine go_iload_n dX3_setPriority_28 rfl ?_
      refine go_ald (t0 := 2) (C := RX1) dX3_setPriority_29 (by first | exact zu_s _ _ _ | exact zst_port hs (zn8 c4).2 | exact hx | exact hs 0 (by decide) | exact hs 3 (by decide) | exact hs 1 (by decide) | exact hs 2 (by decide)) rfl (zin8 c4) rfl (zrf8 (zn8 c4).2) ?_
      refine go_astore_n dX3_setPriority_30 (Nat.le_of_ble_eq_true rfl) ?_
      refine go_aload_n dX3_setPriority_31 rfl ?_
      refine go_getf dX3_setPriority_32 flX3_75 (by first | exact zu_s _ _ _ | exact zst_port hs (zn8 c4).2 | exact hx | exact hs 0 (by decide) | exact hs 3 (by decide) | exact hs 1 (by decide) | exact hs 2 (by decide)) rfl ?_
      refine go_istore dX3_setPriority_35 (Nat.le_of_ble_eq_true rfl) ?_
      refine go_aload_n dX3_setPriority_37 rfl ?_
      refine go_iload_n dX3_setPriority_38 rfl ?_
      refine go_putf dX3_setPriority_39 flX3_75 fnX1_1 (by first | exact zu_s _ _ _ | exact zst_port hs (zn8 c4).2 | exact hx | exact hs 0 (by decide) | exact hs 3 (by decide) | exact hs 1 (by decide) | exact hs 2 (by decide)) rfl rfl (Nat.le_of_ble_eq_true rfl) ?_
      refine go_iload dX3_setPriority_42 rfl ?_
      refine go_iret dX3_setPriority_44 rfl ?_ ?_ (Nat.zero_le _) (Nat.zero_le _)
      · rw [← hR]; simp [mPri, aS, aP, aT, po, ix, c4, c15]
      · first | (rw [← hR]; simp [mPri, aS, aP, aT, po, ix, c4, c15]; exact zps_id hs) | (rw [← hR]; simp [mPri, aS, aP, aT, po, ix, c4, c15]; exact (zst_rp hs (zn8 c4).2).symm)
    · replace c15 := zi_0.mp c15
      refine go_bipush (v := (-2)) dX3_setPriority_18 (by decide) ?_
      refine go_iret dX3_setPriority_20 rfl ?_ ?_ (Nat.zero_le _) (Nat.zero_le _)
      · rw [← hR]; simp [mPri, aS, aP, aT, po, ix, c4, c15]
      · first | (rw [← hR]; simp [mPri, aS, aP, aT, po, ix, c4, c15]; exact zps_id hs) | (rw [← hR]; simp [mPri, aS, aP, aT, po, ix, c4, c15]; exact (zst_rp hs (zn8 c4).2).symm)
  · replace c4 := zi_0.mp c4
    refine go_iconst (v := (-1)) dX3_setPriority_7 (by decide) ?_
    refine go_iret dX3_setPriority_8 rfl ?_ ?_ (Nat.zero_le _) (Nat.zero_le _)
    · rw [← hR]; simp [mPri, aS, aP, aT, po, ix, c4]
    · first | (rw [← hR]; simp [mPri, aS, aP, aT, po, ix, c4]; exact zps_id hs) | (rw [← hR]; simp [mPri, aS, aP, aT, po, ix, c4]; exact (zst_rp hs (zn8 c4).2).symm)
set_option maxRecDepth 4000 in
theorem kX3_setLoad_ (γ : zG) (l : Launch) (n : Nat) (h : zH) (x : Nat) (σ : zS) (hx : h.1 x = some (zsw x)) (hs : zSt16 γ h (x + 1) σ) (p : Int32) (w : Int32) (R : Int32 × zS) (hR : mLoa σ p w = R) : Con γ l (n + 2) 0 0 MX3_setLoad [.ref x, .int p, .int w] h (some (.int R.1)) (zps γ h (x + 1) R.2) := by
  refine Con.go (by decide +kernel) (Nat.le_of_ble_eq_true rfl) ⟨rfl, rfl, rfl, trivial⟩ ?_
  show Go _ 0 0 0 [some (.ref x), some (.int p), some (.int w), none, none] [] _
  refine go_iload_n dX3_setLoad_0 rfl ?_
  refine go_callSi dX3_setLoad_1 moX3_isPort csX3_59 (kX3_isPort γ l _ _ _) rfl rfl (Nat.le_refl _) (Nat.zero_le _) (Nat.zero_le _) (Nat.le_of_ble_eq_true rfl) ?_
  refine go_if_ne (tgt := 9) dX3_setLoad_4 (by decide) (fun c4 => ?_) (fun c4 => ?_)
  · replace c4 := zi_nz.mp c4
    refine go_iload_n dX3_setLoad_9 rfl ?_
    refine go_iconst (v := 0) dX3_setLoad_10 (by decide) ?_
    refine go_sipush (v := 999) dX3_setLoad_11 (by decide) ?_
    refine go_callSi dX3_setLoad_14 moX3_isWithin csX3_27 (kX3_isWithin γ l _ _ _ _ _) rfl rfl (Nat.le_refl _) (Nat.zero_le _) (Nat.zero_le _) (Nat.le_of_ble_eq_true rfl) ?_
    refine go_if_ne (tgt := 23) dX3_setLoad_17 (by decide) (fun c17 => ?_) (fun c17 => ?_)
    · replace c17 := zi_nz.mp c17
      refine go_aload_n dX3_setLoad_23 rfl ?_
      refine go_getf dX3_setLoad_24 flX3_10 (by first | exact zu_s _ _ _ | exact zst_port hs (zn8 c4).2 | exact hx | exact hs 0 (by decide) | exact hs 3 (by decide) | exact hs 1 (by decide) | exact hs 2 (by decide)) rfl ?_
      refine go_getf dX3_setLoad_27 flX3_62 (by first | exact zu_s _ _ _ | exact zst_port hs (zn8 c4).2 | exact hx | exact hs 0 (by decide) | exact hs 3 (by decide) | exact hs 1 (by decide) | exact hs 2 (by decide)) rfl ?_
      refine go_iload_n dX3_setLoad_30 rfl ?_
      refine go_ald (t0 := 2) (C := RX1) dX3_setLoad_31 (by first | exact zu_s _ _ _ | exact zst_port hs (zn8 c4).2 | exact hx | exact hs 0 (by decide) | exact hs 3 (by decide) | exact hs 1 (by decide) | exact hs 2 (by decide)) rfl (zin8 c4) rfl (zrf8 (zn8 c4).2) ?_
      refine go_astore_n dX3_setLoad_32 (Nat.le_of_ble_eq_true rfl) ?_
      refine go_aload_n dX3_setLoad_33 rfl ?_
      refine go_getf dX3_setLoad_34 flX3_78 (by first | exact zu_s _ _ _ | exact zst_port hs (zn8 c4).2 | exact hx | exact hs 0 (by decide) | exact hs 3 (by decide) | exact hs 1 (by decide) | exact hs 2 (by decide)) rfl ?_
      refine go_if_ne (tgt := 43) dX3_setLoad_37 (by decide) (fun c37 => ?_) (fun c37 => ?_)
      · refine go_aload_n dX3_setLoad_43 rfl ?_
        refine go_getf dX3_setLoad_44 flX3_95 (by first | exact zu_s _ _ _ | exact zst_port hs (zn8 c4).2 | exact hx | exact hs 0 (by decide) | exact hs 3 (by decide) | exact hs 1 (by decide) | exact hs 2 (by decide)) rfl ?_
        refine go_istore dX3_setLoad_47 (Nat.le_of_ble_eq_true rfl) ?_
        refine go_aload_n dX3_setLoad_49 rfl ?_
        refine go_iload_n dX3_setLoad_50 rfl ?_
        refine go_putf dX3_setLoad_51 flX3_95 fnX1_5 (by first | exact zu_s _ _ _ | exact zst_port hs (zn8 c4).2 | exact hx | exact hs 0 (by decide) | exact hs 3 (by decide) | exact hs 1 (by decide) | exact hs 2 (by decide)) rfl rfl (Nat.le_of_ble_eq_true rfl) ?_
        refine go_iload dX3_setLoad_54 rfl ?_
        refine go_iret dX3_setLoad_56 rfl ?_ ?_ (Nat.zero_le _) (Nat.zero_le _)
        · rw [← hR]; simp [mLoa, aS, aP, aT, po, ix, c4, c17, c37]
        · first | (rw [← hR]; simp [mLoa, aS, aP, aT, po, ix, c4, c17, c37]; exact zps_id hs) | (rw [← hR]; simp [mLoa, aS, aP, aT, po, ix, c4, c17, c37]; exact (zst_rp hs (zn8 c4).2).symm)
      · refine go_bipush (v := (-3)) dX3_setLoad_40 (by decide) ?_
        refine go_iret dX3_setLoad_42 rfl ?_ ?_ (Nat.zero_le _) (Nat.zero_le _)
        · rw [← hR]; simp [mLoa, aS, aP, aT, po, ix, c4, c17, c37]
        · first | (rw [← hR]; simp [mLoa, aS, aP, aT, po, ix, c4, c17, c37]; exact zps_id hs) | (rw [← hR]; simp [mLoa, aS, aP, aT, po, ix, c4, c17, c37]; exact (zst_rp hs (zn8 c4).2).symm)
    · replace c17 := zi_0.mp c17
      refine go_bipush (v := (-2)) dX3_setLoad_20 (by decide) ?_
      refine go_iret dX3_setLoad_22 rfl ?_ ?_ (Nat.zero_le _) (Nat.zero_le _)
      · rw [← hR]; simp [mLoa, aS, aP, aT, po, ix, c4, c17]
      · first | (rw [← hR]; simp [mLoa, aS, aP, aT, po, ix, c4, c17]; exact zps_id hs) | (rw [← hR]; simp [mLoa, aS, aP, aT, po, ix, c4, c17]; exact (zst_rp hs (zn8 c4).2).symm)
  · replace c4 := zi_0.mp c4
    refine go_iconst (v := (-1)) dX3_setLoad_7 (by decide) ?_
    refine go_iret dX3_setLoad_8 rfl ?_ ?_ (Nat.zero_le _) (Nat.zero_le _)
    · rw [← hR]; simp [mLoa, aS, aP, aT, po, ix, c4]
    · first | (rw [← hR]; simp [mLoa, aS, aP, aT, po, ix, c4]; exact zps_id hs) | (rw [← hR]; simp [mLoa, aS, aP, aT, po, ix, c4]; exact (zst_rp hs (zn8 c4).2).symm)
set_option maxRecDepth 4000 in
theorem kX3_setEnabled_ (γ : zG) (l : Launch) (n : Nat) (h : zH) (x : Nat) (σ : zS) (hx : h.1 x = some (zsw x)) (hs : zSt16 γ h (x + 1) σ) (p : Int32) (b : Int32) (hb : zB b) (R : Int32 × zS) (hR : mEna σ p b = R) : Con γ l (n + 3) 0 0 MX3_setEnabled [.ref x, .int p, .int b] h (some (.int R.1)) (zps γ h (x + 1) R.2) := by
  refine Con.go (by decide +kernel) (Nat.le_of_ble_eq_true rfl) ⟨rfl, rfl, rfl, trivial⟩ ?_
  show Go _ 0 0 0 [some (.ref x), some (.int p), some (.int b), none, none] [] _
  refine go_iload_n dX3_setEnabled_0 rfl ?_
  refine go_callSi dX3_setEnabled_1 moX3_isPort csX3_59 (kX3_isPort γ l _ _ _) rfl rfl (Nat.le_refl _) (Nat.zero_le _) (Nat.zero_le _) (Nat.le_of_ble_eq_true rfl) ?_
  refine go_if_ne (tgt := 9) dX3_setEnabled_4 (by decide) (fun c4 => ?_) (fun c4 => ?_)
  · replace c4 := zi_nz.mp c4
    refine go_aload_n dX3_setEnabled_9 rfl ?_
    refine go_getf dX3_setEnabled_10 flX3_10 (by first | exact zu_s _ _ _ | exact zst_port hs (zn8 c4).2 | exact hx | exact hs 0 (by decide) | exact hs 3 (by decide) | exact hs 1 (by decide) | exact hs 2 (by decide)) rfl ?_
    refine go_getf dX3_setEnabled_13 flX3_62 (by first | exact zu_s _ _ _ | exact zst_port hs (zn8 c4).2 | exact hx | exact hs 0 (by decide) | exact hs 3 (by decide) | exact hs 1 (by decide) | exact hs 2 (by decide)) rfl ?_
    refine go_iload_n dX3_setEnabled_16 rfl ?_
    refine go_ald (t0 := 2) (C := RX1) dX3_setEnabled_17 (by first | exact zu_s _ _ _ | exact zst_port hs (zn8 c4).2 | exact hx | exact hs 0 (by decide) | exact hs 3 (by decide) | exact hs 1 (by decide) | exact hs 2 (by decide)) rfl (zin8 c4) rfl (zrf8 (zn8 c4).2) ?_
    refine go_astore_n dX3_setEnabled_18 (Nat.le_of_ble_eq_true rfl) ?_
    refine go_aload_n dX3_setEnabled_19 rfl ?_
    refine go_getf dX3_setEnabled_20 flX3_66 (by first | exact zu_s _ _ _ | exact zst_port hs (zn8 c4).2 | exact hx | exact hs 0 (by decide) | exact hs 3 (by decide) | exact hs 1 (by decide) | exact hs 2 (by decide)) rfl ?_
    refine go_istore dX3_setEnabled_23 (Nat.le_of_ble_eq_true rfl) ?_
    refine go_aload_n dX3_setEnabled_25 rfl ?_
    refine go_iload_n dX3_setEnabled_26 rfl ?_
    refine go_putf dX3_setEnabled_27 flX3_66 fnX1_0 (by first | exact zu_s _ _ _ | exact zst_port hs (zn8 c4).2 | exact hx | exact hs 0 (by decide) | exact hs 3 (by decide) | exact hs 1 (by decide) | exact hs 2 (by decide)) (znb (by exact hb)) (zfb (by exact hb)) (Nat.le_of_ble_eq_true rfl) ?_
    refine go_iload_n dX3_setEnabled_30 rfl ?_
    refine go_if_ne (tgt := 38) dX3_setEnabled_31 (by decide) (fun c31 => ?_) (fun c31 => ?_)
    · refine go_iload dX3_setEnabled_38 rfl ?_
      refine go_if_eq (tgt := 47) dX3_setEnabled_40 (by decide) (fun c40 => ?_) (fun c40 => ?_)
      · refine go_iconst (v := 0) dX3_setEnabled_47 (by decide) ?_
        refine go_iret dX3_setEnabled_48 rfl ?_ ?_ (Nat.zero_le _) (Nat.zero_le _)
        · rw [← hR]; simp [mEna, zi, aP, po, ix, c4, c31, c40]
        · first | (rw [← hR]; simp [mEna, aS, aP, aT, po, ix, c4, c31, c40]; exact zps_id hs) | (rw [← hR]; simp [mEna, aS, aP, aT, po, ix, c4, c31, c40]; first | exact (zst_rp hs (zn8 c4).2).symm | (simp only [zu_zu]; exact (zst_rp hs (zn8 c4).2).symm))
      · refine go_iconst (v := 1) dX3_setEnabled_43 (by decide) ?_
        refine go_goto (tgt := 48) dX3_setEnabled_44 (by decide) ?_
        refine go_iret dX3_setEnabled_48 rfl ?_ ?_ (Nat.zero_le _) (Nat.zero_le _)
        · rw [← hR]; simp [mEna, zi, aP, po, ix, c4, c31, c40]
        · first | (rw [← hR]; simp [mEna, aS, aP, aT, po, ix, c4, c31, c40]; exact zps_id hs) | (rw [← hR]; simp [mEna, aS, aP, aT, po, ix, c4, c31, c40]; first | exact (zst_rp hs (zn8 c4).2).symm | (simp only [zu_zu]; exact (zst_rp hs (zn8 c4).2).symm))
    · refine go_aload_n dX3_setEnabled_34 rfl ?_
      refine go_callVv (ci := 1) dX3_setEnabled_35 moX1_reset cvX3_72 ⟨rfl, rfl⟩ (kX1_reset γ l _ _ _ (upd (po σ p) 0 b) (zu_s _ _ _)) (by exact zu_s _ _ _) rfl rfl (Nat.le_refl _) (Nat.zero_le _) (Nat.zero_le _) (Nat.le_of_ble_eq_true rfl) ?_
      refine go_iload dX3_setEnabled_38 rfl ?_
      refine go_if_eq (tgt := 47) dX3_setEnabled_40 (by decide) (fun c40 => ?_) (fun c40 => ?_)
      · refine go_iconst (v := 0) dX3_setEnabled_47 (by decide) ?_
        refine go_iret dX3_setEnabled_48 rfl ?_ ?_ (Nat.zero_le _) (Nat.zero_le _)
        · rw [← hR]; simp [mEna, zi, aP, po, ix, c4, c31, c40]
        · first | (rw [← hR]; simp [mEna, aS, aP, aT, po, ix, c4, c31, c40]; exact zps_id hs) | (rw [← hR]; simp [mEna, aS, aP, aT, po, ix, c4, c31, c40]; first | exact (zst_rp hs (zn8 c4).2).symm | (simp only [zu_zu]; exact (zst_rp hs (zn8 c4).2).symm))
      · refine go_iconst (v := 1) dX3_setEnabled_43 (by decide) ?_
        refine go_goto (tgt := 48) dX3_setEnabled_44 (by decide) ?_
        refine go_iret dX3_setEnabled_48 rfl ?_ ?_ (Nat.zero_le _) (Nat.zero_le _)
        · rw [← hR]; simp [mEna, zi, aP, po, ix, c4, c31, c40]
        · first | (rw [← hR]; simp [mEna, aS, aP, aT, po, ix, c4, c31, c40]; exact zps_id hs) | (rw [← hR]; simp [mEna, aS, aP, aT, po, ix, c4, c31, c40]; first | exact (zst_rp hs (zn8 c4).2).symm | (simp only [zu_zu]; exact (zst_rp hs (zn8 c4).2).symm))
  · replace c4 := zi_0.mp c4
    refine go_iconst (v := (-1)) dX3_setEnabled_7 (by decide) ?_
    refine go_iret dX3_setEnabled_8 rfl ?_ ?_ (Nat.zero_le _) (Nat.zero_le _)
    · rw [← hR]; simp [mEna, zi, aP, po, ix, c4]
    · first | (rw [← hR]; simp [mEna, aS, aP, aT, po, ix, c4]; exact zps_id hs) | (rw [← hR]; simp [mEna, aS, aP, aT, po, ix, c4]; first | exact (zst_rp hs (zn8 c4).2).symm | (simp only [zu_zu]; exact (zst_rp hs (zn8 c4).2).symm))
set_option maxRecDepth 4000 in
theorem kX3_disconnect_ (γ : zG) (l : Launch) (n : Nat) (h : zH) (x : Nat) (σ : zS) (hx : h.1 x = some (zsw x)) (hs : zSt16 γ h (x + 1) σ) (p : Int32) (R : Int32 × zS) (hR : mDis σ p = R) : Con γ l (n + 3) 0 0 MX3_disconnect [.ref x, .int p] h (some (.int R.1)) (zps γ h (x + 1) R.2) := by
  refine Con.go (by decide +kernel) (Nat.le_of_ble_eq_true rfl) ⟨rfl, rfl, trivial⟩ ?_
  show Go _ 0 0 0 [some (.ref x), some (.int p), none, none] [] _
  refine go_iload_n dX3_disconnect_0 rfl ?_
  refine go_callSi dX3_disconnect_1 moX3_isPort csX3_59 (kX3_isPort γ l _ _ _) rfl rfl (Nat.le_refl _) (Nat.zero_le _) (Nat.zero_le _) (Nat.le_of_ble_eq_true rfl) ?_
  refine go_if_ne (tgt := 9) dX3_disconnect_4 (by decide) (fun c4 => ?_) (fun c4 => ?_)
  · replace c4 := zi_nz.mp c4
    refine go_aload_n dX3_disconnect_9 rfl ?_
    refine go_getf dX3_disconnect_10 flX3_10 (by first | exact zu_s _ _ _ | exact zst_port hs (zn8 c4).2 | exact hx | exact hs 0 (by decide) | exact hs 3 (by decide) | exact hs 1 (by decide) | exact hs 2 (by decide)) rfl ?_
    refine go_getf dX3_disconnect_13 flX3_62 (by first | exact zu_s _ _ _ | exact zst_port hs (zn8 c4).2 | exact hx | exact hs 0 (by decide) | exact hs 3 (by decide) | exact hs 1 (by decide) | exact hs 2 (by decide)) rfl ?_
    refine go_iload_n dX3_disconnect_16 rfl ?_
    refine go_ald (t0 := 2) (C := RX1) dX3_disconnect_17 (by first | exact zu_s _ _ _ | exact zst_port hs (zn8 c4).2 | exact hx | exact hs 0 (by decide) | exact hs 3 (by decide) | exact hs 1 (by decide) | exact hs 2 (by decide)) rfl (zin8 c4) rfl (zrf8 (zn8 c4).2) ?_
    refine go_astore_n dX3_disconnect_18 (Nat.le_of_ble_eq_true rfl) ?_
    refine go_aload_n dX3_disconnect_19 rfl ?_
    refine go_getf dX3_disconnect_20 flX3_78 (by first | exact zu_s _ _ _ | exact zst_port hs (zn8 c4).2 | exact hx | exact hs 0 (by decide) | exact hs 3 (by decide) | exact hs 1 (by decide) | exact hs 2 (by decide)) rfl ?_
    refine go_if_ne (tgt := 29) dX3_disconnect_23 (by decide) (fun c23 => ?_) (fun c23 => ?_)
    · refine go_aload_n dX3_disconnect_29 rfl ?_
      refine go_callVi (ci := 1) dX3_disconnect_30 moX1_isPowered cvX3_104 ⟨rfl, rfl⟩ (kX1_isPowered γ l _ _ _ _ (zst_port hs (zn8 c4).2)) (by exact zst_port hs (zn8 c4).2) rfl rfl (Nat.le_refl _) (Nat.zero_le _) (Nat.zero_le _) (Nat.le_of_ble_eq_true rfl) ?_
      refine go_istore_n dX3_disconnect_33 (Nat.le_of_ble_eq_true rfl) ?_
      refine go_aload_n dX3_disconnect_34 rfl ?_
      refine go_iconst (v := 0) dX3_disconnect_35 (by decide) ?_
      refine go_putf dX3_disconnect_36 flX3_78 fnX1_2 (by first | exact zu_s _ _ _ | exact zst_port hs (zn8 c4).2 | exact hx | exact hs 0 (by decide) | exact hs 3 (by decide) | exact hs 1 (by decide) | exact hs 2 (by decide)) (znb (by first | exact Or.inl rfl | exact Or.inr rfl | exact zi_B)) (zfb (by first | exact Or.inl rfl | exact Or.inr rfl | exact zi_B)) (Nat.le_of_ble_eq_true rfl) ?_
      refine go_aload_n dX3_disconnect_39 rfl ?_
      refine go_callVv (ci := 1) dX3_disconnect_40 moX1_reset cvX3_72 ⟨rfl, rfl⟩ (kX1_reset γ l _ _ _ (upd (po σ p) 2 0) (zu_s _ _ _)) (by exact zu_s _ _ _) rfl rfl (Nat.le_refl _) (Nat.zero_le _) (Nat.zero_le _) (Nat.le_of_ble_eq_true rfl) ?_
      refine go_iload_n dX3_disconnect_43 rfl ?_
      refine go_if_eq (tgt := 51) dX3_disconnect_44 (by decide) (fun c44 => ?_) (fun c44 => ?_)
      · replace c44 := zi_0.mp c44
        refine go_iconst (v := 0) dX3_disconnect_51 (by decide) ?_
        refine go_iret dX3_disconnect_52 rfl ?_ ?_ (Nat.zero_le _) (Nat.zero_le _)
        · rw [← hR]; simp [mDis, zi, aP, po, ix, c4, c23, c44]
        · first | (rw [← hR]; simp [mDis, aS, aP, aT, po, ix, c4, c23, c44]; exact zps_id hs) | (rw [← hR]; simp [mDis, aS, aP, aT, po, ix, c4, c23, c44]; first | exact (zst_rp hs (zn8 c4).2).symm | (simp only [zu_zu]; exact (zst_rp hs (zn8 c4).2).symm))
      · replace c44 := zi_nz.mp c44
        refine go_iconst (v := 1) dX3_disconnect_47 (by decide) ?_
        refine go_goto (tgt := 52) dX3_disconnect_48 (by decide) ?_
        refine go_iret dX3_disconnect_52 rfl ?_ ?_ (Nat.zero_le _) (Nat.zero_le _)
        · rw [← hR]; simp [mDis, zi, aP, po, ix, c4, c23, c44]
        · first | (rw [← hR]; simp [mDis, aS, aP, aT, po, ix, c4, c23, c44]; exact zps_id hs) | (rw [← hR]; simp [mDis, aS, aP, aT, po, ix, c4, c23, c44]; first | exact (zst_rp hs (zn8 c4).2).symm | (simp only [zu_zu]; exact (zst_rp hs (zn8 c4).2).symm))
    · refine go_bipush (v := (-3)) dX3_disconnect_26 (by decide) ?_
      refine go_iret dX3_disconnect_28 rfl ?_ ?_ (Nat.zero_le _) (Nat.zero_le _)
      · rw [← hR]; simp [mDis, zi, aP, po, ix, c4, c23]
      · first | (rw [← hR]; simp [mDis, aS, aP, aT, po, ix, c4, c23]; exact zps_id hs) | (rw [← hR]; simp [mDis, aS, aP, aT, po, ix, c4, c23]; first | exact (zst_rp hs (zn8 c4).2).symm | (simp only [zu_zu]; exact (zst_rp hs (zn8 c4).2).symm))
  · replace c4 := zi_0.mp c4
    refine go_iconst (v := (-1)) dX3_disconnect_7 (by decide) ?_
    refine go_iret dX3_disconnect_8 rfl ?_ ?_ (Nat.zero_le _) (Nat.zero_le _)
    · rw [← hR]; simp [mDis, zi, aP, po, ix, c4]
    · first | (rw [← hR]; simp [mDis, aS, aP, aT, po, ix, c4]; exact zps_id hs) | (rw [← hR]; simp [mDis, aS, aP, aT, po, ix, c4]; first | exact (zst_rp hs (zn8 c4).2).symm | (simp only [zu_zu]; exact (zst_rp hs (zn8 c4).2).symm))
set_option maxRecDepth 4000 in
theorem kX3_connect_ (γ : zG) (l : Launch) (n : Nat) (h : zH) (x : Nat) (σ : zS) (hx : h.1 x = some (zsw x)) (hs : zSt16 γ h (x + 1) σ) (p : Int32) (r : Int32) (c : Int32) (i : Int32) (w : Int32) (R : Int32 × zS) (hR : mCon σ p r c i w = R) : Con γ l (n + 3) 0 0 MX3_connect [.ref x, .int p, .int r, .int c, .int i, .int w] h (some (.int R.1)) (zps γ h (x + 1) R.2) := by
  refine Con.go (by decide +kernel) (Nat.le_of_ble_eq_true rfl) ⟨rfl, rfl, rfl, rfl, rfl, rfl, trivial⟩ ?_
  show Go _ 0 0 0 [some (.ref x), some (.int p), some (.int r), some (.int c), some (.int i), some (.int w), none, none] [] _
  refine go_iload_n dX3_connect_0 rfl ?_
  refine go_callSi dX3_connect_1 moX3_isPort csX3_59 (kX3_isPort γ l _ _ _) rfl rfl (Nat.le_refl _) (Nat.zero_le _) (Nat.zero_le _) (Nat.le_of_ble_eq_true rfl) ?_
  refine go_if_ne (tgt := 9) dX3_connect_4 (by decide) (fun c4 => ?_) (fun c4 => ?_)
  · replace c4 := zi_nz.mp c4
    refine go_iload_n dX3_connect_9 rfl ?_
    refine go_iconst (v := 1) dX3_connect_10 (by decide) ?_
    refine go_sipush (v := 999) dX3_connect_11 (by decide) ?_
    refine go_callSi dX3_connect_14 moX3_isWithin csX3_27 (kX3_isWithin γ l _ _ _ _ _) rfl rfl (Nat.le_refl _) (Nat.zero_le _) (Nat.zero_le _) (Nat.le_of_ble_eq_true rfl) ?_
    refine go_if_eq (tgt := 53) dX3_connect_17 (by decide) (fun c17 => ?_) (fun c17 => ?_)
    · replace c17 := zi_0.mp c17
      refine go_bipush (v := (-2)) dX3_connect_53 (by decide) ?_
      refine go_iret dX3_connect_55 rfl ?_ ?_ (Nat.zero_le _) (Nat.zero_le _)
      · rw [← hR]; simp [mCon, aS, aP, aT, po, ix, c4, c17]
      · first | (rw [← hR]; simp [mCon, aS, aP, aT, po, ix, c4, c17]; exact zps_id hs) | (rw [← hR]; simp [mCon, aS, aP, aT, po, ix, c4, c17]; first | exact (zst_rp hs (zn8 c4).2).symm | (simp only [zu_zu]; exact (zst_rp hs (zn8 c4).2).symm))
    · replace c17 := zi_nz.mp c17
      refine go_iload_n dX3_connect_20 rfl ?_
      refine go_iconst (v := 0) dX3_connect_21 (by decide) ?_
      refine go_bipush (v := 99) dX3_connect_22 (by decide) ?_
      refine go_callSi dX3_connect_24 moX3_isWithin csX3_27 (kX3_isWithin γ l _ _ _ _ _) rfl rfl (Nat.le_refl _) (Nat.zero_le _) (Nat.zero_le _) (Nat.le_of_ble_eq_true rfl) ?_
      refine go_if_eq (tgt := 53) dX3_connect_27 (by decide) (fun c27 => ?_) (fun c27 => ?_)
      · replace c27 := zi_0.mp c27
        refine go_bipush (v := (-2)) dX3_connect_53 (by decide) ?_
        refine go_iret dX3_connect_55 rfl ?_ ?_ (Nat.zero_le _) (Nat.zero_le _)
        · rw [← hR]; simp [mCon, aS, aP, aT, po, ix, c4, c17, c27]
        · first | (rw [← hR]; simp [mCon, aS, aP, aT, po, ix, c4, c17, c27]; exact zps_id hs) | (rw [← hR]; simp [mCon, aS, aP, aT, po, ix, c4, c17, c27]; first | exact (zst_rp hs (zn8 c4).2).symm | (simp only [zu_zu]; exact (zst_rp hs (zn8 c4).2).symm))
      · replace c27 := zi_nz.mp c27
        refine go_iload dX3_connect_30 rfl ?_
        refine go_iconst (v := 0) dX3_connect_32 (by decide) ?_
        refine go_bipush (v := 60) dX3_connect_33 (by decide) ?_
        refine go_callSi dX3_connect_35 moX3_isWithin csX3_27 (kX3_isWithin γ l _ _ _ _ _) rfl rfl (Nat.le_refl _) (Nat.zero_le _) (Nat.zero_le _) (Nat.le_of_ble_eq_true rfl) ?_
        refine go_if_eq (tgt := 53) dX3_connect_38 (by decide) (fun c38 => ?_) (fun c38 => ?_)
        · replace c38 := zi_0.mp c38
          refine go_bipush (v := (-2)) dX3_connect_53 (by decide) ?_
          refine go_iret dX3_connect_55 rfl ?_ ?_ (Nat.zero_le _) (Nat.zero_le _)
          · rw [← hR]; simp [mCon, aS, aP, aT, po, ix, c4, c17, c27, c38]
          · first | (rw [← hR]; simp [mCon, aS, aP, aT, po, ix, c4, c17, c27, c38]; exact zps_id hs) | (rw [← hR]; simp [mCon, aS, aP, aT, po, ix, c4, c17, c27, c38]; first | exact (zst_rp hs (zn8 c4).2).symm | (simp only [zu_zu]; exact (zst_rp hs (zn8 c4).2).symm))
        · replace c38 := zi_nz.mp c38
          refine go_iload dX3_connect_41 rfl ?_
          refine go_iconst (v := 0) dX3_connect_43 (by decide) ?_
          refine go_sipush (v := 999) dX3_connect_44 (by decide) ?_
          refine go_callSi dX3_connect_47 moX3_isWithin csX3_27 (kX3_isWithin γ l _ _ _ _ _) rfl rfl (Nat.le_refl _) (Nat.zero_le _) (Nat.zero_le _) (Nat.le_of_ble_eq_true rfl) ?_
          refine go_if_ne (tgt := 56) dX3_connect_50 (by decide) (fun c50 => ?_) (fun c50 => ?_)
          · replace c50 := zi_nz.mp c50
            refine go_aload_n dX3_connect_56 rfl ?_
            refine go_getf dX3_connect_57 flX3_10 (by first | exact zu_s _ _ _ | exact zst_port hs (zn8 c4).2 | exact hx | exact hs 0 (by decide) | exact hs 3 (by decide) | exact hs 1 (by decide) | exact hs 2 (by decide)) rfl ?_
            refine go_getf dX3_connect_60 flX3_62 (by first | exact zu_s _ _ _ | exact zst_port hs (zn8 c4).2 | exact hx | exact hs 0 (by decide) | exact hs 3 (by decide) | exact hs 1 (by decide) | exact hs 2 (by decide)) rfl ?_
            refine go_iload_n dX3_connect_63 rfl ?_
            refine go_ald (t0 := 2) (C := RX1) dX3_connect_64 (by first | exact zu_s _ _ _ | exact zst_port hs (zn8 c4).2 | exact hx | exact hs 0 (by decide) | exact hs 3 (by decide) | exact hs 1 (by decide) | exact hs 2 (by decide)) rfl (zin8 c4) rfl (zrf8 (zn8 c4).2) ?_
            refine go_astore dX3_connect_65 (Nat.le_of_ble_eq_true rfl) ?_
            refine go_aload dX3_connect_67 rfl ?_
            refine go_getf dX3_connect_69 flX3_78 (by first | exact zu_s _ _ _ | exact zst_port hs (zn8 c4).2 | exact hx | exact hs 0 (by decide) | exact hs 3 (by decide) | exact hs 1 (by decide) | exact hs 2 (by decide)) rfl ?_
            refine go_if_eq (tgt := 78) dX3_connect_72 (by decide) (fun c72 => ?_) (fun c72 => ?_)
            · refine go_iload dX3_connect_78 rfl ?_
              refine go_callSi dX3_connect_80 moX3_classOf csX3_81 (kX3_classOf γ l _ _ _) rfl rfl (Nat.le_refl _) (Nat.zero_le _) (Nat.zero_le _) (Nat.le_of_ble_eq_true rfl) ?_
              refine go_istore dX3_connect_83 (Nat.le_of_ble_eq_true rfl) ?_
              refine go_aload dX3_connect_85 rfl ?_
              refine go_iconst (v := 1) dX3_connect_87 (by decide) ?_
              refine go_putf dX3_connect_88 flX3_78 fnX1_2 (by first | exact zu_s _ _ _ | exact zst_port hs (zn8 c4).2 | exact hx | exact hs 0 (by decide) | exact hs 3 (by decide) | exact hs 1 (by decide) | exact hs 2 (by decide)) (znb (by first | exact zi_B | exact Or.inr rfl)) (zfb (by first | exact zi_B | exact Or.inr rfl)) (Nat.le_of_ble_eq_true rfl) ?_
              refine go_aload dX3_connect_91 rfl ?_
              refine go_iload_n dX3_connect_93 rfl ?_
              refine go_iload_n dX3_connect_94 rfl ?_
              refine go_callSi dX3_connect_95 moX3_isDetected csX3_85 (kX3_isDetected γ l _ _ _ _) rfl rfl (Nat.le_refl _) (Nat.zero_le _) (Nat.zero_le _) (Nat.le_of_ble_eq_true rfl) ?_
              refine go_putf dX3_connect_98 flX3_89 fnX1_3 (by first | exact zu_s _ _ _ | exact zst_port hs (zn8 c4).2 | exact hx | exact hs 0 (by decide) | exact hs 3 (by decide) | exact hs 1 (by decide) | exact hs 2 (by decide)) (znb (by first | exact zi_B | exact Or.inr rfl)) (zfb (by first | exact zi_B | exact Or.inr rfl)) (Nat.le_of_ble_eq_true rfl) ?_
              refine go_aload dX3_connect_101 rfl ?_
              refine go_iload dX3_connect_103 rfl ?_
              refine go_putf dX3_connect_105 flX3_92 fnX1_4 (by first | exact zu_s _ _ _ | exact zst_port hs (zn8 c4).2 | exact hx | exact hs 0 (by decide) | exact hs 3 (by decide) | exact hs 1 (by decide) | exact hs 2 (by decide)) rfl rfl (Nat.le_of_ble_eq_true rfl) ?_
              refine go_aload dX3_connect_108 rfl ?_
              refine go_iload dX3_connect_110 rfl ?_
              refine go_putf dX3_connect_112 flX3_95 fnX1_5 (by first | exact zu_s _ _ _ | exact zst_port hs (zn8 c4).2 | exact hx | exact hs 0 (by decide) | exact hs 3 (by decide) | exact hs 1 (by decide) | exact hs 2 (by decide)) rfl rfl (Nat.le_of_ble_eq_true rfl) ?_
              refine go_aload dX3_connect_115 rfl ?_
              refine go_iload dX3_connect_117 rfl ?_
              refine go_callSi dX3_connect_119 moX3_maximumOf csX3_98 (kX3_maximumOf γ l _ _ _) rfl rfl (Nat.le_refl _) (Nat.zero_le _) (Nat.zero_le _) (Nat.le_of_ble_eq_true rfl) ?_
              refine go_putf dX3_connect_122 flX3_101 fnX1_6 (by first | exact zu_s _ _ _ | exact zst_port hs (zn8 c4).2 | exact hx | exact hs 0 (by decide) | exact hs 3 (by decide) | exact hs 1 (by decide) | exact hs 2 (by decide)) rfl rfl (Nat.le_of_ble_eq_true rfl) ?_
              refine go_iload dX3_connect_125 rfl ?_
              refine go_iret dX3_connect_127 rfl ?_ ?_ (Nat.zero_le _) (Nat.zero_le _)
              · rw [← hR]; simp [mCon, aS, aP, aT, po, ix, c4, c17, c27, c38, c50, c72]
              · first | (rw [← hR]; simp [mCon, aS, aP, aT, po, ix, c4, c17, c27, c38, c50, c72]; exact zps_id hs) | (rw [← hR]; simp [mCon, aS, aP, aT, po, ix, c4, c17, c27, c38, c50, c72]; first | exact (zst_rp hs (zn8 c4).2).symm | (simp only [zu_zu]; exact (zst_rp hs (zn8 c4).2).symm))
            · refine go_bipush (v := (-3)) dX3_connect_75 (by decide) ?_
              refine go_iret dX3_connect_77 rfl ?_ ?_ (Nat.zero_le _) (Nat.zero_le _)
              · rw [← hR]; simp [mCon, aS, aP, aT, po, ix, c4, c17, c27, c38, c50, c72]
              · first | (rw [← hR]; simp [mCon, aS, aP, aT, po, ix, c4, c17, c27, c38, c50, c72]; exact zps_id hs) | (rw [← hR]; simp [mCon, aS, aP, aT, po, ix, c4, c17, c27, c38, c50, c72]; first | exact (zst_rp hs (zn8 c4).2).symm | (simp only [zu_zu]; exact (zst_rp hs (zn8 c4).2).symm))
          · replace c50 := zi_0.mp c50
            refine go_bipush (v := (-2)) dX3_connect_53 (by decide) ?_
            refine go_iret dX3_connect_55 rfl ?_ ?_ (Nat.zero_le _) (Nat.zero_le _)
            · rw [← hR]; simp [mCon, aS, aP, aT, po, ix, c4, c17, c27, c38, c50]
            · first | (rw [← hR]; simp [mCon, aS, aP, aT, po, ix, c4, c17, c27, c38, c50]; exact zps_id hs) | (rw [← hR]; simp [mCon, aS, aP, aT, po, ix, c4, c17, c27, c38, c50]; first | exact (zst_rp hs (zn8 c4).2).symm | (simp only [zu_zu]; exact (zst_rp hs (zn8 c4).2).symm))
  · replace c4 := zi_0.mp c4
    refine go_iconst (v := (-1)) dX3_connect_7 (by decide) ?_
    refine go_iret dX3_connect_8 rfl ?_ ?_ (Nat.zero_le _) (Nat.zero_le _)
    · rw [← hR]; simp [mCon, aS, aP, aT, po, ix, c4]
    · first | (rw [← hR]; simp [mCon, aS, aP, aT, po, ix, c4]; exact zps_id hs) | (rw [← hR]; simp [mCon, aS, aP, aT, po, ix, c4]; first | exact (zst_rp hs (zn8 c4).2).symm | (simp only [zu_zu]; exact (zst_rp hs (zn8 c4).2).symm))
set_option maxRecDepth 4000 in
theorem kX3_setRequest_ (γ : zG) (l : Launch) (n : Nat) (h : zH) (x : Nat) (σ : zS) (hx : h.1 x = some (zsw x)) (hs : zSt16 γ h (x + 1) σ) (p : Int32) (w : Int32) (R : Int32 × zS) (hR : mReq σ p w = R) : Con γ l (n + 3) 0 0 MX3_setRequest [.ref x, .int p, .int w] h (some (.int R.1)) (zps γ h (x + 1) R.2) := by
  refine Con.go (by decide +kernel) (Nat.le_of_ble_eq_true rfl) ⟨rfl, rfl, rfl, trivial⟩ ?_
  show Go _ 0 0 0 [some (.ref x), some (.int p), some (.int w), none, none] [] _
  refine go_iload_n dX3_setRequest_0 rfl ?_
  refine go_callSi dX3_setRequest_1 moX3_isPort csX3_59 (kX3_isPort γ l _ _ _) rfl rfl (Nat.le_refl _) (Nat.zero_le _) (Nat.zero_le _) (Nat.le_of_ble_eq_true rfl) ?_
  refine go_if_ne (tgt := 9) dX3_setRequest_4 (by decide) (fun c4 => ?_) (fun c4 => ?_)
  · replace c4 := zi_nz.mp c4
    refine go_aload_n dX3_setRequest_9 rfl ?_
    refine go_getf dX3_setRequest_10 flX3_10 (by first | exact zu_s _ _ _ | exact zst_port hs (zn8 c4).2 | exact hx | exact hs 0 (by decide) | exact hs 3 (by decide) | exact hs 1 (by decide) | exact hs 2 (by decide)) rfl ?_
    refine go_getf dX3_setRequest_13 flX3_62 (by first | exact zu_s _ _ _ | exact zst_port hs (zn8 c4).2 | exact hx | exact hs 0 (by decide) | exact hs 3 (by decide) | exact hs 1 (by decide) | exact hs 2 (by decide)) rfl ?_
    refine go_iload_n dX3_setRequest_16 rfl ?_
    refine go_ald (t0 := 2) (C := RX1) dX3_setRequest_17 (by first | exact zu_s _ _ _ | exact zst_port hs (zn8 c4).2 | exact hx | exact hs 0 (by decide) | exact hs 3 (by decide) | exact hs 1 (by decide) | exact hs 2 (by decide)) rfl (zin8 c4) rfl (zrf8 (zn8 c4).2) ?_
    refine go_astore_n dX3_setRequest_18 (Nat.le_of_ble_eq_true rfl) ?_
    refine go_aload_n dX3_setRequest_19 rfl ?_
    refine go_callVi (ci := 1) dX3_setRequest_20 moX1_hasRequest cvX3_108 ⟨rfl, rfl⟩ (kX1_hasRequest γ l _ _ _ _ (zst_port hs (zn8 c4).2)) (by exact zst_port hs (zn8 c4).2) rfl rfl (Nat.le_refl _) (Nat.zero_le _) (Nat.zero_le _) (Nat.le_of_ble_eq_true rfl) ?_
    refine go_if_ne (tgt := 29) dX3_setRequest_23 (by decide) (fun c23 => ?_) (fun c23 => ?_)
    · replace c23 := zi_nz.mp c23
      refine go_iload_n dX3_setRequest_29 rfl ?_
      refine go_iconst (v := 1) dX3_setRequest_30 (by decide) ?_
      refine go_aload_n dX3_setRequest_31 rfl ?_
      refine go_getf dX3_setRequest_32 flX3_92 (by first | exact zu_s _ _ _ | exact zst_port hs (zn8 c4).2 | exact hx | exact hs 0 (by decide) | exact hs 3 (by decide) | exact hs 1 (by decide) | exact hs 2 (by decide)) rfl ?_
      refine go_callSi dX3_setRequest_35 moX3_maximumOf csX3_98 (kX3_maximumOf γ l _ _ _) rfl rfl (Nat.le_refl _) (Nat.zero_le _) (Nat.zero_le _) (Nat.le_of_ble_eq_true rfl) ?_
      refine go_callSi dX3_setRequest_38 moX3_isWithin csX3_27 (kX3_isWithin γ l _ _ _ _ _) rfl rfl (Nat.le_refl _) (Nat.zero_le _) (Nat.zero_le _) (Nat.le_of_ble_eq_true rfl) ?_
      refine go_if_ne (tgt := 47) dX3_setRequest_41 (by decide) (fun c41 => ?_) (fun c41 => ?_)
      · replace c41 := zi_nz.mp c41
        refine go_aload_n dX3_setRequest_47 rfl ?_
        refine go_callVi (ci := 1) dX3_setRequest_48 moX1_isPowered cvX3_104 ⟨rfl, rfl⟩ (kX1_isPowered γ l _ _ _ _ (zst_port hs (zn8 c4).2)) (by exact zst_port hs (zn8 c4).2) rfl rfl (Nat.le_refl _) (Nat.zero_le _) (Nat.zero_le _) (Nat.le_of_ble_eq_true rfl) ?_
        refine go_if_eq (tgt := 87) dX3_setRequest_51 (by decide) (fun c51 => ?_) (fun c51 => ?_)
        · replace c51 := zi_0.mp c51
          refine go_aload_n dX3_setRequest_87 rfl ?_
          refine go_getf dX3_setRequest_88 flX3_101 (by first | exact zu_s _ _ _ | exact zst_port hs (zn8 c4).2 | exact hx | exact hs 0 (by decide) | exact hs 3 (by decide) | exact hs 1 (by decide) | exact hs 2 (by decide)) rfl ?_
          refine go_istore dX3_setRequest_91 (Nat.le_of_ble_eq_true rfl) ?_
          refine go_aload_n dX3_setRequest_93 rfl ?_
          refine go_iload_n dX3_setRequest_94 rfl ?_
          refine go_putf dX3_setRequest_95 flX3_101 fnX1_6 (by first | exact zu_s _ _ _ | exact zst_port hs (zn8 c4).2 | exact hx | exact hs 0 (by decide) | exact hs 3 (by decide) | exact hs 1 (by decide) | exact hs 2 (by decide)) rfl rfl (Nat.le_of_ble_eq_true rfl) ?_
          refine go_iload dX3_setRequest_98 rfl ?_
          refine go_iret dX3_setRequest_100 rfl ?_ ?_ (Nat.zero_le _) (Nat.zero_le _)
          · rw [← hR]; simp [mReq, aP, po, ix, c4, c23, c41, c51]
          · first | (rw [← hR]; simp [mReq, aS, aP, aT, po, ix, c4, c23, c41, c51]; exact zps_id hs) | (rw [← hR]; simp [mReq, aS, aP, aT, po, ix, c4, c23, c41, c51]; first | exact (zst_rp hs (zn8 c4).2).symm | (simp only [zu_zu]; exact (zst_rp hs (zn8 c4).2).symm))
        · replace c51 := zi_nz.mp c51
          refine go_iload_n dX3_setRequest_54 rfl ?_
          refine go_aload_n dX3_setRequest_55 rfl ?_
          refine go_getf dX3_setRequest_56 flX3_111 (by first | exact zu_s _ _ _ | exact zst_port hs (zn8 c4).2 | exact hx | exact hs 0 (by decide) | exact hs 3 (by decide) | exact hs 1 (by decide) | exact hs 2 (by decide)) rfl ?_
          refine go_isub dX3_setRequest_59 ?_
          refine go_istore dX3_setRequest_60 (Nat.le_of_ble_eq_true rfl) ?_
          refine go_iload dX3_setRequest_62 rfl ?_
          refine go_if_le (tgt := 82) dX3_setRequest_64 (by decide) (fun c64 => ?_) (fun c64 => ?_)
          · try simp only [zle] at c64
            try simp only [zle] at c76
            refine go_aload_n dX3_setRequest_82 rfl ?_
            refine go_iload_n dX3_setRequest_83 rfl ?_
            refine go_putf dX3_setRequest_84 flX3_111 fnX1_7 (by first | exact zu_s _ _ _ | exact zst_port hs (zn8 c4).2 | exact hx | exact hs 0 (by decide) | exact hs 3 (by decide) | exact hs 1 (by decide) | exact hs 2 (by decide)) rfl rfl (Nat.le_of_ble_eq_true rfl) ?_
            refine go_aload_n dX3_setRequest_87 rfl ?_
            refine go_getf dX3_setRequest_88 flX3_101 (by first | exact zu_s _ _ _ | exact zst_port hs (zn8 c4).2 | exact hx | exact hs 0 (by decide) | exact hs 3 (by decide) | exact hs 1 (by decide) | exact hs 2 (by decide)) rfl ?_
            refine go_istore dX3_setRequest_91 (Nat.le_of_ble_eq_true rfl) ?_
            refine go_aload_n dX3_setRequest_93 rfl ?_
            refine go_iload_n dX3_setRequest_94 rfl ?_
            refine go_putf dX3_setRequest_95 flX3_101 fnX1_6 (by first | exact zu_s _ _ _ | exact zst_port hs (zn8 c4).2 | exact hx | exact hs 0 (by decide) | exact hs 3 (by decide) | exact hs 1 (by decide) | exact hs 2 (by decide)) rfl rfl (Nat.le_of_ble_eq_true rfl) ?_
            refine go_iload dX3_setRequest_98 rfl ?_
            refine go_iret dX3_setRequest_100 rfl ?_ ?_ (Nat.zero_le _) (Nat.zero_le _)
            · rw [← hR]; simp [mReq, aP, po, ix, c4, c23, c41, c51, c64]
            · first | (rw [← hR]; simp [mReq, aS, aP, aT, po, ix, c4, c23, c41, c51, c64]; exact zps_id hs) | (rw [← hR]; simp [mReq, aS, aP, aT, po, ix, c4, c23, c41, c51, c64]; first | exact (zst_rp hs (zn8 c4).2).symm | (simp only [zu_zu]; exact (zst_rp hs (zn8 c4).2).symm))
          · simp only [zle, Classical.not_not] at c64
            refine go_iload dX3_setRequest_67 rfl ?_
            refine go_aload_n dX3_setRequest_69 rfl ?_
            refine go_getf dX3_setRequest_70 flX3_10 (by first | exact zu_s _ _ _ | exact zst_port hs (zn8 c4).2 | exact hx | exact hs 0 (by decide) | exact hs 3 (by decide) | exact hs 1 (by decide) | exact hs 2 (by decide)) rfl ?_
            refine go_callVi (ci := 2) dX3_setRequest_73 moX2_sparePower cvX3_56 ⟨rfl, rfl⟩ (kX2_sparePower γ l _ _ (x + 1) σ hs) (by exact hs 0 (by decide)) rfl rfl (Nat.le_refl _) (Nat.zero_le _) (Nat.zero_le _) (Nat.le_of_ble_eq_true rfl) ?_
            refine go_icmp_le (tgt := 82) dX3_setRequest_76 (by decide) (fun c76 => ?_) (fun c76 => ?_)
            · try simp only [zle] at c64
              try simp only [zle] at c76
              refine go_aload_n dX3_setRequest_82 rfl ?_
              refine go_iload_n dX3_setRequest_83 rfl ?_
              refine go_putf dX3_setRequest_84 flX3_111 fnX1_7 (by first | exact zu_s _ _ _ | exact zst_port hs (zn8 c4).2 | exact hx | exact hs 0 (by decide) | exact hs 3 (by decide) | exact hs 1 (by decide) | exact hs 2 (by decide)) rfl rfl (Nat.le_of_ble_eq_true rfl) ?_
              refine go_aload_n dX3_setRequest_87 rfl ?_
              refine go_getf dX3_setRequest_88 flX3_101 (by first | exact zu_s _ _ _ | exact zst_port hs (zn8 c4).2 | exact hx | exact hs 0 (by decide) | exact hs 3 (by decide) | exact hs 1 (by decide) | exact hs 2 (by decide)) rfl ?_
              refine go_istore dX3_setRequest_91 (Nat.le_of_ble_eq_true rfl) ?_
              refine go_aload_n dX3_setRequest_93 rfl ?_
              refine go_iload_n dX3_setRequest_94 rfl ?_
              refine go_putf dX3_setRequest_95 flX3_101 fnX1_6 (by first | exact zu_s _ _ _ | exact zst_port hs (zn8 c4).2 | exact hx | exact hs 0 (by decide) | exact hs 3 (by decide) | exact hs 1 (by decide) | exact hs 2 (by decide)) rfl rfl (Nat.le_of_ble_eq_true rfl) ?_
              refine go_iload dX3_setRequest_98 rfl ?_
              refine go_iret dX3_setRequest_100 rfl ?_ ?_ (Nat.zero_le _) (Nat.zero_le _)
              · rw [← hR]; simp [mReq, aP, po, ix, c4, c23, c41, c51, c64, c76]
              · first | (rw [← hR]; simp [mReq, aS, aP, aT, po, ix, c4, c23, c41, c51, c64, c76]; exact zps_id hs) | (rw [← hR]; simp [mReq, aS, aP, aT, po, ix, c4, c23, c41, c51, c64, c76]; first | exact (zst_rp hs (zn8 c4).2).symm | (simp only [zu_zu]; exact (zst_rp hs (zn8 c4).2).symm))
            · simp only [zle, Classical.not_not] at c76
              refine go_bipush (v := (-5)) dX3_setRequest_79 (by decide) ?_
              refine go_iret dX3_setRequest_81 rfl ?_ ?_ (Nat.zero_le _) (Nat.zero_le _)
              · rw [← hR]; simp [mReq, aP, po, ix, c4, c23, c41, c51, c64, c76]
              · first | (rw [← hR]; simp [mReq, aS, aP, aT, po, ix, c4, c23, c41, c51, c64, c76]; exact zps_id hs) | (rw [← hR]; simp [mReq, aS, aP, aT, po, ix, c4, c23, c41, c51, c64, c76]; first | exact (zst_rp hs (zn8 c4).2).symm | (simp only [zu_zu]; exact (zst_rp hs (zn8 c4).2).symm))
      · replace c41 := zi_0.mp c41
        refine go_bipush (v := (-2)) dX3_setRequest_44 (by decide) ?_
        refine go_iret dX3_setRequest_46 rfl ?_ ?_ (Nat.zero_le _) (Nat.zero_le _)
        · rw [← hR]; simp [mReq, aP, po, ix, c4, c23, c41]
        · first | (rw [← hR]; simp [mReq, aS, aP, aT, po, ix, c4, c23, c41]; exact zps_id hs) | (rw [← hR]; simp [mReq, aS, aP, aT, po, ix, c4, c23, c41]; first | exact (zst_rp hs (zn8 c4).2).symm | (simp only [zu_zu]; exact (zst_rp hs (zn8 c4).2).symm))
    · replace c23 := zi_0.mp c23
      refine go_bipush (v := (-3)) dX3_setRequest_26 (by decide) ?_
      refine go_iret dX3_setRequest_28 rfl ?_ ?_ (Nat.zero_le _) (Nat.zero_le _)
      · rw [← hR]; simp [mReq, aP, po, ix, c4, c23]
      · first | (rw [← hR]; simp [mReq, aS, aP, aT, po, ix, c4, c23]; exact zps_id hs) | (rw [← hR]; simp [mReq, aS, aP, aT, po, ix, c4, c23]; first | exact (zst_rp hs (zn8 c4).2).symm | (simp only [zu_zu]; exact (zst_rp hs (zn8 c4).2).symm))
  · replace c4 := zi_0.mp c4
    refine go_iconst (v := (-1)) dX3_setRequest_7 (by decide) ?_
    refine go_iret dX3_setRequest_8 rfl ?_ ?_ (Nat.zero_le _) (Nat.zero_le _)
    · rw [← hR]; simp [mReq, aP, po, ix, c4]
    · first | (rw [← hR]; simp [mReq, aS, aP, aT, po, ix, c4]; exact zps_id hs) | (rw [← hR]; simp [mReq, aS, aP, aT, po, ix, c4]; first | exact (zst_rp hs (zn8 c4).2).symm | (simp only [zu_zu]; exact (zst_rp hs (zn8 c4).2).symm))
set_option maxRecDepth 4000 in
theorem kX3_request (γ : zG) (l : Launch) (n : Nat) (h : zH) (x : Nat) (σ : zS) (hx : h.1 x = some (zsw x)) (hs : zSt16 γ h (x + 1) σ) (p : Int32) : Con γ l (n + 2) 0 0 MX3_request [.ref x, .int p] h (some (.int (mRqt σ p))) h := by
  refine Con.go (by decide +kernel) (Nat.le_of_ble_eq_true rfl) ⟨rfl, rfl, trivial⟩ ?_
  show Go _ 0 0 0 [some (.ref x), some (.int p), none] [] _
  refine go_iload_n dX3_request_0 rfl ?_
  refine go_callSi dX3_request_1 moX3_isPort csX3_59 (kX3_isPort γ l _ _ _) rfl rfl (Nat.le_refl _) (Nat.zero_le _) (Nat.zero_le _) (Nat.le_of_ble_eq_true rfl) ?_
  refine go_if_ne (tgt := 9) dX3_request_4 (by decide) (fun c4 => ?_) (fun c4 => ?_)
  · replace c4 := zi_nz.mp c4
    refine go_aload_n dX3_request_9 rfl ?_
    refine go_getf dX3_request_10 flX3_10 (by first | exact zu_s _ _ _ | exact zst_port hs (zn8 c4).2 | exact hx | exact hs 0 (by decide) | exact hs 3 (by decide) | exact hs 1 (by decide) | exact hs 2 (by decide)) rfl ?_
    refine go_getf dX3_request_13 flX3_62 (by first | exact zu_s _ _ _ | exact zst_port hs (zn8 c4).2 | exact hx | exact hs 0 (by decide) | exact hs 3 (by decide) | exact hs 1 (by decide) | exact hs 2 (by decide)) rfl ?_
    refine go_iload_n dX3_request_16 rfl ?_
    refine go_ald (t0 := 2) (C := RX1) dX3_request_17 (by first | exact zu_s _ _ _ | exact zst_port hs (zn8 c4).2 | exact hx | exact hs 0 (by decide) | exact hs 3 (by decide) | exact hs 1 (by decide) | exact hs 2 (by decide)) rfl (zin8 c4) rfl (zrf8 (zn8 c4).2) ?_
    refine go_astore_n dX3_request_18 (Nat.le_of_ble_eq_true rfl) ?_
    refine go_aload_n dX3_request_19 rfl ?_
    refine go_callVi (ci := 1) dX3_request_20 moX1_hasRequest cvX3_108 ⟨rfl, rfl⟩ (kX1_hasRequest γ l _ _ _ _ (zst_port hs (zn8 c4).2)) (by exact zst_port hs (zn8 c4).2) rfl rfl (Nat.le_refl _) (Nat.zero_le _) (Nat.zero_le _) (Nat.le_of_ble_eq_true rfl) ?_
    refine go_if_eq (tgt := 33) dX3_request_23 (by decide) (fun c23 => ?_) (fun c23 => ?_)
    · replace c23 := zi_0.mp c23
      refine go_bipush (v := (-6)) dX3_request_33 (by decide) ?_
      refine go_iret dX3_request_35 rfl ?_ ?_ (Nat.zero_le _) (Nat.zero_le _)
      · simp [mRqt, aP, po, ix, c4, c23]
      · rfl
    · replace c23 := zi_nz.mp c23
      refine go_aload_n dX3_request_26 rfl ?_
      refine go_getf dX3_request_27 flX3_101 (by first | exact zu_s _ _ _ | exact zst_port hs (zn8 c4).2 | exact hx | exact hs 0 (by decide) | exact hs 3 (by decide) | exact hs 1 (by decide) | exact hs 2 (by decide)) rfl ?_
      refine go_goto (tgt := 35) dX3_request_30 (by decide) ?_
      refine go_iret dX3_request_35 rfl ?_ ?_ (Nat.zero_le _) (Nat.zero_le _)
      · simp [mRqt, aP, po, ix, c4, c23]
      · rfl
  · replace c4 := zi_0.mp c4
    refine go_iconst (v := (-1)) dX3_request_7 (by decide) ?_
    refine go_iret dX3_request_8 rfl ?_ ?_ (Nat.zero_le _) (Nat.zero_le _)
    · simp [mRqt, aP, po, ix, c4]
    · rfl
set_option maxRecDepth 4000 in
theorem kX3_grant (γ : zG) (l : Launch) (n : Nat) (h : zH) (x : Nat) (σ : zS) (hx : h.1 x = some (zsw x)) (hs : zSt16 γ h (x + 1) σ) (p : Int32) : Con γ l (n + 2) 0 0 MX3_grant [.ref x, .int p] h (some (.int (mFld σ 7 p))) h := by
  refine Con.go (by decide +kernel) (Nat.le_of_ble_eq_true rfl) ⟨rfl, rfl, trivial⟩ ?_
  show Go _ 0 0 0 [some (.ref x), some (.int p)] [] _
  refine go_iload_n dX3_grant_0 rfl ?_
  refine go_callSi dX3_grant_1 moX3_isPort csX3_59 (kX3_isPort γ l _ _ _) rfl rfl (Nat.le_refl _) (Nat.zero_le _) (Nat.zero_le _) (Nat.le_of_ble_eq_true rfl) ?_
  refine go_if_eq (tgt := 22) dX3_grant_4 (by decide) (fun c4 => ?_) (fun c4 => ?_)
  · replace c4 := zi_0.mp c4
    refine go_iconst (v := (-1)) dX3_grant_22 (by decide) ?_
    refine go_iret dX3_grant_23 rfl ?_ ?_ (Nat.zero_le _) (Nat.zero_le _)
    · simp [mFld, aP, po, ix, c4]
    · rfl
  · replace c4 := zi_nz.mp c4
    refine go_aload_n dX3_grant_7 rfl ?_
    refine go_getf dX3_grant_8 flX3_10 (by first | exact zu_s _ _ _ | exact zst_port hs (zn8 c4).2 | exact hx | exact hs 0 (by decide) | exact hs 3 (by decide) | exact hs 1 (by decide) | exact hs 2 (by decide)) rfl ?_
    refine go_getf dX3_grant_11 flX3_62 (by first | exact zu_s _ _ _ | exact zst_port hs (zn8 c4).2 | exact hx | exact hs 0 (by decide) | exact hs 3 (by decide) | exact hs 1 (by decide) | exact hs 2 (by decide)) rfl ?_
    refine go_iload_n dX3_grant_14 rfl ?_
    refine go_ald (t0 := 2) (C := RX1) dX3_grant_15 (by first | exact zu_s _ _ _ | exact zst_port hs (zn8 c4).2 | exact hx | exact hs 0 (by decide) | exact hs 3 (by decide) | exact hs 1 (by decide) | exact hs 2 (by decide)) rfl (zin8 c4) rfl (zrf8 (zn8 c4).2) ?_
    refine go_getf dX3_grant_16 flX3_111 (by first | exact zu_s _ _ _ | exact zst_port hs (zn8 c4).2 | exact hx | exact hs 0 (by decide) | exact hs 3 (by decide) | exact hs 1 (by decide) | exact hs 2 (by decide)) rfl ?_
    refine go_goto (tgt := 23) dX3_grant_19 (by decide) ?_
    refine go_iret dX3_grant_23 rfl ?_ ?_ (Nat.zero_le _) (Nat.zero_le _)
    · simp [mFld, aP, po, ix, c4]
    · rfl
set_option maxRecDepth 4000 in
theorem kX3_overload (γ : zG) (l : Launch) (n : Nat) (h : zH) (x : Nat) (σ : zS) (hx : h.1 x = some (zsw x)) (hs : zSt16 γ h (x + 1) σ) (p : Int32) : Con γ l (n + 2) 0 0 MX3_overload [.ref x, .int p] h (some (.int (mFld σ 8 p))) h := by
  refine Con.go (by decide +kernel) (Nat.le_of_ble_eq_true rfl) ⟨rfl, rfl, trivial⟩ ?_
  show Go _ 0 0 0 [some (.ref x), some (.int p)] [] _
  refine go_iload_n dX3_overload_0 rfl ?_
  refine go_callSi dX3_overload_1 moX3_isPort csX3_59 (kX3_isPort γ l _ _ _) rfl rfl (Nat.le_refl _) (Nat.zero_le _) (Nat.zero_le _) (Nat.le_of_ble_eq_true rfl) ?_
  refine go_if_eq (tgt := 22) dX3_overload_4 (by decide) (fun c4 => ?_) (fun c4 => ?_)
  · replace c4 := zi_0.mp c4
    refine go_iconst (v := (-1)) dX3_overload_22 (by decide) ?_
    refine go_iret dX3_overload_23 rfl ?_ ?_ (Nat.zero_le _) (Nat.zero_le _)
    · simp [mFld, aP, po, ix, c4]
    · rfl
  · replace c4 := zi_nz.mp c4
    refine go_aload_n dX3_overload_7 rfl ?_
    refine go_getf dX3_overload_8 flX3_10 (by first | exact zu_s _ _ _ | exact zst_port hs (zn8 c4).2 | exact hx | exact hs 0 (by decide) | exact hs 3 (by decide) | exact hs 1 (by decide) | exact hs 2 (by decide)) rfl ?_
    refine go_getf dX3_overload_11 flX3_62 (by first | exact zu_s _ _ _ | exact zst_port hs (zn8 c4).2 | exact hx | exact hs 0 (by decide) | exact hs 3 (by decide) | exact hs 1 (by decide) | exact hs 2 (by decide)) rfl ?_
    refine go_iload_n dX3_overload_14 rfl ?_
    refine go_ald (t0 := 2) (C := RX1) dX3_overload_15 (by first | exact zu_s _ _ _ | exact zst_port hs (zn8 c4).2 | exact hx | exact hs 0 (by decide) | exact hs 3 (by decide) | exact hs 1 (by decide) | exact hs 2 (by decide)) rfl (zin8 c4) rfl (zrf8 (zn8 c4).2) ?_
    refine go_getf dX3_overload_16 flX3_120 (by first | exact zu_s _ _ _ | exact zst_port hs (zn8 c4).2 | exact hx | exact hs 0 (by decide) | exact hs 3 (by decide) | exact hs 1 (by decide) | exact hs 2 (by decide)) rfl ?_
    refine go_goto (tgt := 23) dX3_overload_19 (by decide) ?_
    refine go_iret dX3_overload_23 rfl ?_ ?_ (Nat.zero_le _) (Nat.zero_le _)
    · simp [mFld, aP, po, ix, c4]
    · rfl
set_option maxRecDepth 4000 in
theorem kX3_cooldown (γ : zG) (l : Launch) (n : Nat) (h : zH) (x : Nat) (σ : zS) (hx : h.1 x = some (zsw x)) (hs : zSt16 γ h (x + 1) σ) (p : Int32) : Con γ l (n + 2) 0 0 MX3_cooldown [.ref x, .int p] h (some (.int (mFld σ 9 p))) h := by
  refine Con.go (by decide +kernel) (Nat.le_of_ble_eq_true rfl) ⟨rfl, rfl, trivial⟩ ?_
  show Go _ 0 0 0 [some (.ref x), some (.int p)] [] _
  refine go_iload_n dX3_cooldown_0 rfl ?_
  refine go_callSi dX3_cooldown_1 moX3_isPort csX3_59 (kX3_isPort γ l _ _ _) rfl rfl (Nat.le_refl _) (Nat.zero_le _) (Nat.zero_le _) (Nat.le_of_ble_eq_true rfl) ?_
  refine go_if_eq (tgt := 22) dX3_cooldown_4 (by decide) (fun c4 => ?_) (fun c4 => ?_)
  · replace c4 := zi_0.mp c4
    refine go_iconst (v := (-1)) dX3_cooldown_22 (by decide) ?_
    refine go_iret dX3_cooldown_23 rfl ?_ ?_ (Nat.zero_le _) (Nat.zero_le _)
    · simp [mFld, aP, po, ix, c4]
    · rfl
  · replace c4 := zi_nz.mp c4
    refine go_aload_n dX3_cooldown_7 rfl ?_
    refine go_getf dX3_cooldown_8 flX3_10 (by first | exact zu_s _ _ _ | exact zst_port hs (zn8 c4).2 | exact hx | exact hs 0 (by decide) | exact hs 3 (by decide) | exact hs 1 (by decide) | exact hs 2 (by decide)) rfl ?_
    refine go_getf dX3_cooldown_11 flX3_62 (by first | exact zu_s _ _ _ | exact zst_port hs (zn8 c4).2 | exact hx | exact hs 0 (by decide) | exact hs 3 (by decide) | exact hs 1 (by decide) | exact hs 2 (by decide)) rfl ?_
    refine go_iload_n dX3_cooldown_14 rfl ?_
    refine go_ald (t0 := 2) (C := RX1) dX3_cooldown_15 (by first | exact zu_s _ _ _ | exact zst_port hs (zn8 c4).2 | exact hx | exact hs 0 (by decide) | exact hs 3 (by decide) | exact hs 1 (by decide) | exact hs 2 (by decide)) rfl (zin8 c4) rfl (zrf8 (zn8 c4).2) ?_
    refine go_getf dX3_cooldown_16 flX3_123 (by first | exact zu_s _ _ _ | exact zst_port hs (zn8 c4).2 | exact hx | exact hs 0 (by decide) | exact hs 3 (by decide) | exact hs 1 (by decide) | exact hs 2 (by decide)) rfl ?_
    refine go_goto (tgt := 23) dX3_cooldown_19 (by decide) ?_
    refine go_iret dX3_cooldown_23 rfl ?_ ?_ (Nat.zero_le _) (Nat.zero_le _)
    · simp [mFld, aP, po, ix, c4]
    · rfl
set_option maxRecDepth 4000 in
theorem kX3_clock (γ : zG) (l : Launch) (n : Nat) (h : zH) (x : Nat) (σ : zS) (hx : h.1 x = some (zsw x)) (hs : zSt16 γ h (x + 1) σ) : Con γ l (n) 0 0 MX3_clock [.ref x] h (some (.int (σ 2 5))) h := by
  refine Con.go (by decide +kernel) (Nat.le_of_ble_eq_true rfl) ⟨rfl, trivial⟩ ?_
  show Go _ 0 0 0 [some (.ref x)] [] _
  refine go_aload_n dX3_clock_0 rfl ?_
  refine go_getf dX3_clock_1 flX3_10 (by first | exact hx | exact hs 0 (by decide) | exact hs 4 (by decide)) rfl ?_
  refine go_getf dX3_clock_4 flX3_129 (by first | exact hx | exact hs 0 (by decide) | exact hs 4 (by decide)) rfl ?_
  refine go_iret dX3_clock_7 rfl ?_ ?_ (Nat.zero_le _) (Nat.zero_le _)
  · rfl
  · rfl
set_option maxRecDepth 4000 in
theorem kX3_eventCount (γ : zG) (l : Launch) (n : Nat) (h : zH) (x : Nat) (σ : zS) (hx : h.1 x = some (zsw x)) (hs : zSt16 γ h (x + 1) σ) : Con γ l (n) 0 0 MX3_eventCount [.ref x] h (some (.int (σ 6 1))) h := by
  refine Con.go (by decide +kernel) (Nat.le_of_ble_eq_true rfl) ⟨rfl, trivial⟩ ?_
  show Go _ 0 0 0 [some (.ref x)] [] _
  refine go_aload_n dX3_eventCount_0 rfl ?_
  refine go_getf dX3_eventCount_1 flX3_10 (by first | exact hx | exact hs 0 (by decide) | exact hs 4 (by decide)) rfl ?_
  refine go_getf dX3_eventCount_4 flX3_132 (by first | exact hx | exact hs 0 (by decide) | exact hs 4 (by decide)) rfl ?_
  refine go_getf dX3_eventCount_7 flX3_136 (by first | exact hx | exact hs 0 (by decide) | exact hs 4 (by decide)) rfl ?_
  refine go_iret dX3_eventCount_10 rfl ?_ ?_ (Nat.zero_le _) (Nat.zero_le _)
  · rfl
  · rfl
theorem zev {σ : zS} {i : Int32} (hok : sOk σ) (hi : 0 ≤ i ∧ i < σ 6 1) : σ 6 0 + i = nI ((σ 6 0).toNatClampNeg + ix i) ∧ (σ 6 0).toNatClampNeg + ix i < 2 ^ 31 ∧ i = nI (ix i) ∧ ix i < (σ 6 1).toNatClampNeg := by
  obtain ⟨ho, hc, h0, h1⟩ := hok
  generalize (σ 6 0).toNatClampNeg = o at ho h0 ⊢
  generalize (σ 6 1).toNatClampNeg = c at hc h1 ⊢
  have h0 : σ 6 0 = nI o := h0
  have h1 : σ 6 1 = nI c := h1
  rw [h1] at hi
  have hn : ¬ i < 0 := zle.mp hi.1
  obtain ⟨j, hj, e⟩ := nI_of hn
  have hcj : ix i = j := by rw [e]; exact nI_clamp hj
  rw [hcj]
  have hjc : j < c := by
    have := hi.2
    rw [e] at this
    exact (nI_ltI hj (by omega)).mp this
  exact ⟨by rw [h0, e, nI_add], by omega, e, hjc⟩
set_option maxRecDepth 4000 in
theorem kX3_eventTime (γ : zG) (l : Launch) (n : Nat) (h : zH) (x : Nat) (σ : zS) (hx : h.1 x = some (zsw x)) (hs : zSt16 γ h (x + 1) σ) (hok : sOk σ) (i : Int32) : Con γ l (n + 2) 0 0 MX3_eventTime [.ref x, .int i] h (some (.int (mEvt σ 0 i))) h := by
  refine Con.go (by decide +kernel) (Nat.le_of_ble_eq_true rfl) ⟨rfl, rfl, trivial⟩ ?_
  show Go _ 0 0 0 [some (.ref x), some (.int i), none] [] _
  refine go_aload_n dX3_eventTime_0 rfl ?_
  refine go_getf dX3_eventTime_1 flX3_10 (by first | exact hx | exact hs 0 (by decide)) rfl ?_
  refine go_getf dX3_eventTime_4 flX3_132 (by first | exact hx | exact hs 0 (by decide)) rfl ?_
  refine go_astore_n dX3_eventTime_7 (Nat.le_of_ble_eq_true rfl) ?_
  refine go_aload_n dX3_eventTime_8 rfl ?_
  refine go_iload_n dX3_eventTime_9 rfl ?_
  refine go_callVi (ci := 0) dX3_eventTime_10 moX0_holds cvX3_141 ⟨rfl, rfl⟩ (kX0_holds γ l _ _ (x + 1 + 4) (fun c => σ (3 + c)) (zst_log hs) _) (by exact hs 4 (by decide)) rfl rfl (Nat.le_refl _) (Nat.zero_le _) (Nat.zero_le _) (Nat.le_of_ble_eq_true rfl) ?_
  refine go_if_eq (tgt := 29) dX3_eventTime_13 (by decide) (fun c13 => ?_) (fun c13 => ?_)
  · replace c13 := zi_0.mp c13
    refine go_iconst (v := (-1)) dX3_eventTime_29 (by decide) ?_
    refine go_iret dX3_eventTime_30 rfl ?_ ?_ (Nat.zero_le _) (Nat.zero_le _)
    · first | exact congrArg (fun v => some (Value.int v)) (if_pos c13) | exact congrArg (fun v => some (Value.int v)) (if_neg c13)
    · rfl
  · replace c13 := zi_nz.mp c13
    refine go_aload_n dX3_eventTime_16 rfl ?_
    refine go_getf dX3_eventTime_17 flX3_144 (by exact hs 4 (by decide)) rfl ?_
    refine go_aload_n dX3_eventTime_20 rfl ?_
    refine go_iload_n dX3_eventTime_21 rfl ?_
    refine go_callVi (ci := 0) dX3_eventTime_22 moX0_placeOf cvX3_147 ⟨rfl, rfl⟩ (kX0_placeOf γ l _ _ (x + 1 + 4) (fun c => σ (3 + c)) (zst_log hs) _ _ (zev hok c13).1 (zev hok c13).2.1) (by exact hs 4 (by decide)) rfl rfl (Nat.le_refl _) (Nat.zero_le _) (Nat.zero_le _) (Nat.le_of_ble_eq_true rfl) ?_
    refine go_iald dX3_eventTime_25 (by exact zst_log hs 1 (by decide)) (zix rfl (Nat.mod_lt _ (by decide)) (by decide)).1 (zix rfl (Nat.mod_lt _ (by decide)) (by decide)).2 ?_
    refine go_goto (tgt := 30) dX3_eventTime_26 (by decide) ?_
    refine go_iret dX3_eventTime_30 rfl ?_ ?_ (Nat.zero_le _) (Nat.zero_le _)
    · first | exact congrArg (fun v => some (Value.int v)) (if_pos c13) | exact congrArg (fun v => some (Value.int v)) (if_neg c13)
    · rfl
set_option maxRecDepth 4000 in
theorem kX3_eventPort (γ : zG) (l : Launch) (n : Nat) (h : zH) (x : Nat) (σ : zS) (hx : h.1 x = some (zsw x)) (hs : zSt16 γ h (x + 1) σ) (hok : sOk σ) (i : Int32) : Con γ l (n + 2) 0 0 MX3_eventPort [.ref x, .int i] h (some (.int (mEvt σ 1 i))) h := by
  refine Con.go (by decide +kernel) (Nat.le_of_ble_eq_true rfl) ⟨rfl, rfl, trivial⟩ ?_
  show Go _ 0 0 0 [some (.ref x), some (.int i), none] [] _
  refine go_aload_n dX3_eventPort_0 rfl ?_
  refine go_getf dX3_eventPort_1 flX3_10 (by first | exact hx | exact hs 0 (by decide)) rfl ?_
  refine go_getf dX3_eventPort_4 flX3_132 (by first | exact hx | exact hs 0 (by decide)) rfl ?_
  refine go_astore_n dX3_eventPort_7 (Nat.le_of_ble_eq_true rfl) ?_
  refine go_aload_n dX3_eventPort_8 rfl ?_
  refine go_iload_n dX3_eventPort_9 rfl ?_
  refine go_callVi (ci := 0) dX3_eventPort_10 moX0_holds cvX3_141 ⟨rfl, rfl⟩ (kX0_holds γ l _ _ (x + 1 + 4) (fun c => σ (3 + c)) (zst_log hs) _) (by exact hs 4 (by decide)) rfl rfl (Nat.le_refl _) (Nat.zero_le _) (Nat.zero_le _) (Nat.le_of_ble_eq_true rfl) ?_
  refine go_if_eq (tgt := 29) dX3_eventPort_13 (by decide) (fun c13 => ?_) (fun c13 => ?_)
  · replace c13 := zi_0.mp c13
    refine go_iconst (v := (-1)) dX3_eventPort_29 (by decide) ?_
    refine go_iret dX3_eventPort_30 rfl ?_ ?_ (Nat.zero_le _) (Nat.zero_le _)
    · first | exact congrArg (fun v => some (Value.int v)) (if_pos c13) | exact congrArg (fun v => some (Value.int v)) (if_neg c13)
    · rfl
  · replace c13 := zi_nz.mp c13
    refine go_aload_n dX3_eventPort_16 rfl ?_
    refine go_getf dX3_eventPort_17 flX3_150 (by exact hs 4 (by decide)) rfl ?_
    refine go_aload_n dX3_eventPort_20 rfl ?_
    refine go_iload_n dX3_eventPort_21 rfl ?_
    refine go_callVi (ci := 0) dX3_eventPort_22 moX0_placeOf cvX3_147 ⟨rfl, rfl⟩ (kX0_placeOf γ l _ _ (x + 1 + 4) (fun c => σ (3 + c)) (zst_log hs) _ _ (zev hok c13).1 (zev hok c13).2.1) (by exact hs 4 (by decide)) rfl rfl (Nat.le_refl _) (Nat.zero_le _) (Nat.zero_le _) (Nat.le_of_ble_eq_true rfl) ?_
    refine go_iald dX3_eventPort_25 (by exact zst_log hs 2 (by decide)) (zix rfl (Nat.mod_lt _ (by decide)) (by decide)).1 (zix rfl (Nat.mod_lt _ (by decide)) (by decide)).2 ?_
    refine go_goto (tgt := 30) dX3_eventPort_26 (by decide) ?_
    refine go_iret dX3_eventPort_30 rfl ?_ ?_ (Nat.zero_le _) (Nat.zero_le _)
    · first | exact congrArg (fun v => some (Value.int v)) (if_pos c13) | exact congrArg (fun v => some (Value.int v)) (if_neg c13)
    · rfl
set_option maxRecDepth 4000 in
theorem kX3_eventKind (γ : zG) (l : Launch) (n : Nat) (h : zH) (x : Nat) (σ : zS) (hx : h.1 x = some (zsw x)) (hs : zSt16 γ h (x + 1) σ) (hok : sOk σ) (i : Int32) : Con γ l (n + 2) 0 0 MX3_eventKind [.ref x, .int i] h (some (.int (mEvt σ 2 i))) h := by
  refine Con.go (by decide +kernel) (Nat.le_of_ble_eq_true rfl) ⟨rfl, rfl, trivial⟩ ?_
  show Go _ 0 0 0 [some (.ref x), some (.int i), none] [] _
  refine go_aload_n dX3_eventKind_0 rfl ?_
  refine go_getf dX3_eventKind_1 flX3_10 (by first | exact hx | exact hs 0 (by decide)) rfl ?_
  refine go_getf dX3_eventKind_4 flX3_132 (by first | exact hx | exact hs 0 (by decide)) rfl ?_
  refine go_astore_n dX3_eventKind_7 (Nat.le_of_ble_eq_true rfl) ?_
  refine go_aload_n dX3_eventKind_8 rfl ?_
  refine go_iload_n dX3_eventKind_9 rfl ?_
  refine go_callVi (ci := 0) dX3_eventKind_10 moX0_holds cvX3_141 ⟨rfl, rfl⟩ (kX0_holds γ l _ _ (x + 1 + 4) (fun c => σ (3 + c)) (zst_log hs) _) (by exact hs 4 (by decide)) rfl rfl (Nat.le_refl _) (Nat.zero_le _) (Nat.zero_le _) (Nat.le_of_ble_eq_true rfl) ?_
  refine go_if_eq (tgt := 29) dX3_eventKind_13 (by decide) (fun c13 => ?_) (fun c13 => ?_)
  · replace c13 := zi_0.mp c13
    refine go_iconst (v := (-1)) dX3_eventKind_29 (by decide) ?_
    refine go_iret dX3_eventKind_30 rfl ?_ ?_ (Nat.zero_le _) (Nat.zero_le _)
    · first | exact congrArg (fun v => some (Value.int v)) (if_pos c13) | exact congrArg (fun v => some (Value.int v)) (if_neg c13)
    · rfl
  · replace c13 := zi_nz.mp c13
    refine go_aload_n dX3_eventKind_16 rfl ?_
    refine go_getf dX3_eventKind_17 flX3_152 (by exact hs 4 (by decide)) rfl ?_
    refine go_aload_n dX3_eventKind_20 rfl ?_
    refine go_iload_n dX3_eventKind_21 rfl ?_
    refine go_callVi (ci := 0) dX3_eventKind_22 moX0_placeOf cvX3_147 ⟨rfl, rfl⟩ (kX0_placeOf γ l _ _ (x + 1 + 4) (fun c => σ (3 + c)) (zst_log hs) _ _ (zev hok c13).1 (zev hok c13).2.1) (by exact hs 4 (by decide)) rfl rfl (Nat.le_refl _) (Nat.zero_le _) (Nat.zero_le _) (Nat.le_of_ble_eq_true rfl) ?_
    refine go_iald dX3_eventKind_25 (by exact zst_log hs 3 (by decide)) (zix rfl (Nat.mod_lt _ (by decide)) (by decide)).1 (zix rfl (Nat.mod_lt _ (by decide)) (by decide)).2 ?_
    refine go_goto (tgt := 30) dX3_eventKind_26 (by decide) ?_
    refine go_iret dX3_eventKind_30 rfl ?_ ?_ (Nat.zero_le _) (Nat.zero_le _)
    · first | exact congrArg (fun v => some (Value.int v)) (if_pos c13) | exact congrArg (fun v => some (Value.int v)) (if_neg c13)
    · rfl
end
section
/-! PoeSwitch: advance, planning, snapshots, constructor -/
def sAd (σ : zS) : Nat → zS × Int32
  | 0 => (σ, 0)
  | k + 1 => ((sSec (sAd σ k).1).1, (sAd σ k).2 + (sSec (sAd σ k).1).2)
theorem sAd_ok {σ : zS} (h : sOk σ) : ∀ k, sOk (sAd σ k).1
  | 0 => h
  | k + 1 => sSec_ok (sAd_ok h k)
def mAdv (σ : zS) (v : Int32) : Int32 × zS := if 1 ≤ v ∧ v ≤ 60 then ((sAd σ (ix v)).2, (sAd σ (ix v)).1) else (-2, σ)
theorem zps_out {γ : zG} {h : zH} {a y : Nat} {σ : zS} (hy : y < a ∨ a + 16 ≤ y) : (zps γ h a σ).1 y = h.1 y := zput_out hy
theorem zn60 {v : Int32} (h : 1 ≤ v ∧ v ≤ 60) : v = nI (ix v) ∧ ix v < 61 := by
  refine znat (n := 61) (m := 60) (by decide) ⟨?_, h.2⟩ (by decide)
  have h1 := Int32.le_iff_toInt_le.mp h.1
  refine Int32.le_iff_toInt_le.mpr ?_
  have e1 : (1 : Int32).toInt = 1 := by decide
  have e0 : (0 : Int32).toInt = 0 := by decide
  omega
theorem sCp_6 {σ τ : zS} : (sCp σ τ 6 0 = τ 6 0) ∧ (sCp σ τ 6 1 = τ 6 1) := ⟨rfl, rfl⟩
theorem sCp_ok {σ τ : zS} (h : sOk τ) : sOk (sCp σ τ) := sOk.of h.1 h.2.1 (sCp_6.1.trans h.2.2.1) (sCp_6.2.trans h.2.2.2)
/-- settling: with m looks left, k seconds gone -/
def sSet : Nat → zS → Nat → Int32 × zS
  | 0, τ, _ => (-6, τ)
  | m + 1, τ, k => if sStab τ then (nI k, τ) else sSet m (sSec τ).1 (k + 1)
def mStl (σ τ : zS) : Int32 × zS := sSet 301 (sCp τ σ) 0
theorem sSet_t {m k : Nat} {τ : zS} (h : sStab τ) : sSet (m + 1) τ k = (nI k, τ) := if_pos h
theorem sSet_f {m k : Nat} {τ : zS} (h : ¬ sStab τ) : sSet (m + 1) τ k = sSet m (sSec τ).1 (k + 1) := if_neg h
set_option maxRecDepth 4000 in
theorem kX3_advance_ (γ : zG) (l : Launch) (n : Nat) (h : zH) (x : Nat) (σ : zS) (hx : h.1 x = some (zsw x)) (hs : zSt16 γ h (x + 1) σ) (hok : sOk σ) (v : Int32) (R : Int32 × zS) (hR : mAdv σ v = R) : Con γ l (n + 6) 0 0 MX3_advance [.ref x, .int v] h (some (.int R.1)) (zps γ h (x + 1) R.2) := by
  refine Con.go (by decide +kernel) (Nat.le_of_ble_eq_true rfl) ⟨rfl, rfl, trivial⟩ ?_
  show Go _ 0 0 0 [some (.ref x), some (.int v), none, none] [] _
  have loop : ∀ N : Nat, N < 61 → ((sAd σ N).2, (sAd σ N).1) = R → ∀ (m k : Nat), k + m = N → Go (γ, l, n + 6, (0, 0), MX3_advance, zF γ 0 0 (some (.int R.1)) (zps γ h (x + 1) R.2)) 0 0 17 [some (.ref x), some (.int (nI N)), some (.int (sAd σ k).2), some (.int (nI k))] [] (zps γ h (x + 1) (sAd σ k).1) := by
    intro N hN hf m
    induction m with
    | zero =>
      intro k hk
      have hkN : k = N := by omega
      subst hkN
      refine go_iload_n dX3_advance_17 rfl ?_
      refine go_iload_n dX3_advance_18 rfl ?_
      refine go_icmp_ge (tgt := 38) dX3_advance_19 (by decide) (fun c19 => ?_) (fun c19 => absurd (Int32.le_refl _) c19)
      refine go_iload_n dX3_advance_38 rfl ?_
      refine go_iret dX3_advance_39 rfl ?_ ?_ (Nat.zero_le _) (Nat.zero_le _)
      · rw [← hf]
      · rw [← hf]
    | succ m ih =>
      intro k hk
      refine go_iload_n dX3_advance_17 rfl ?_
      refine go_iload_n dX3_advance_18 rfl ?_
      refine go_icmp_ge (tgt := 38) dX3_advance_19 (by decide) (fun c19 => absurd c19 (nI_ge (by omega) (by omega))) (fun c19 => ?_)
      refine go_iload_n dX3_advance_22 rfl ?_
      refine go_aload_n dX3_advance_23 rfl ?_
      refine go_getf dX3_advance_24 flX3_10 (by exact (zps_out (by omega)).trans hx) rfl ?_
      refine go_callVi (ci := 2) dX3_advance_27 moX2_runSecond cvX3_126 ⟨rfl, rfl⟩ (kX2_runSecond_ γ l _ _ (x + 1) (sAd σ k).1 (zps_is γ h (x + 1) _) (sAd_ok hok k) _ rfl) (by exact zps_is γ h (x + 1) _ 0 (by decide)) rfl rfl (Nat.le_refl _) (Nat.zero_le _) (Nat.zero_le _) (Nat.le_of_ble_eq_true rfl) ?_
      refine go_h (zps_zps _ _ _ _ _) ?_
      refine go_iadd dX3_advance_30 ?_
      refine go_istore_n dX3_advance_31 (Nat.le_of_ble_eq_true rfl) ?_
      refine go_iinc dX3_advance_32 rfl (nI_1 k) (Nat.le_of_ble_eq_true rfl) ?_
      refine go_goto (tgt := 17) dX3_advance_35 (by decide) ?_
      exact ih (k + 1) (by omega)
  refine go_iload_n dX3_advance_0 rfl ?_
  refine go_iconst (v := 1) dX3_advance_1 (by decide) ?_
  refine go_bipush (v := 60) dX3_advance_2 (by decide) ?_
  refine go_callSi dX3_advance_4 moX3_isWithin csX3_27 (kX3_isWithin γ l _ _ _ _ _) rfl rfl (Nat.le_refl _) (Nat.zero_le _) (Nat.zero_le _) (Nat.le_of_ble_eq_true rfl) ?_
  refine go_if_ne (tgt := 13) dX3_advance_7 (by decide) (fun c7 => ?_) (fun c7 => ?_)
  · replace c7 := zi_nz.mp c7
    refine go_iconst (v := 0) dX3_advance_13 (by decide) ?_
    refine go_istore_n dX3_advance_14 (Nat.le_of_ble_eq_true rfl) ?_
    refine go_iconst (v := 0) dX3_advance_15 (by decide) ?_
    refine go_istore_n dX3_advance_16 (Nat.le_of_ble_eq_true rfl) ?_
    have h0 := loop (ix v) (zn60 c7).2 (by rw [← hR, mAdv, if_pos c7]) (ix v) 0 (Nat.zero_add _)
    rw [← (zn60 c7).1] at h0
    refine go_h (zps_id hs).symm ?_
    exact go_vl h0 ⟨rfl, rfl, rfl, rfl, trivial⟩
  · replace c7 := zi_0.mp c7
    refine go_bipush (v := (-2)) dX3_advance_10 (by decide) ?_
    refine go_iret dX3_advance_12 rfl ?_ ?_ (Nat.zero_le _) (Nat.zero_le _)
    · rw [← hR]; simp [mAdv, c7]
    · rw [← hR]; simp [mAdv, c7]; exact zps_id hs
set_option maxRecDepth 4000 in
theorem kX3_shedIfFails_ (γ : zG) (l : Launch) (n : Nat) (h : zH) (x : Nat) (σ : zS) (hx : h.1 x = some (zsw x)) (hs : zSt16 γ h (x + 1) σ) (τ : zS) (ht : zSt16 γ h (x + 17) τ) (hok : sOk σ) (hbo : sBo σ) (s : Int32) (S : zS × Int32) (hS : sSh 8 (up2 (sCp τ σ) 1 (ix s) 0, 0) = S) : Con γ l (n + 4) 0 0 MX3_shedIfFails [.ref x, .int s] h (some (.int (if aS s then S.2 else -1))) (zps γ h (x + 17) (if aS s then S.1 else τ)) := by
  refine Con.go (by decide +kernel) (Nat.le_of_ble_eq_true rfl) ⟨rfl, rfl, trivial⟩ ?_
  show Go _ 0 0 0 [some (.ref x), some (.int s)] [] _
  refine go_iload_n dX3_shedIfFails_0 rfl ?_
  refine go_callSi dX3_shedIfFails_1 moX3_isSupply csX3_23 (kX3_isSupply γ l _ _ _) rfl rfl (Nat.le_refl _) (Nat.zero_le _) (Nat.zero_le _) (Nat.le_of_ble_eq_true rfl) ?_
  refine go_if_ne (tgt := 9) dX3_shedIfFails_4 (by decide) (fun c4 => ?_) (fun c4 => ?_)
  · replace c4 := zi_nz.mp c4
    refine go_aload_n dX3_shedIfFails_9 rfl ?_
    refine go_getf dX3_shedIfFails_10 flX3_16 (by exact hx) rfl ?_
    refine go_aload_n dX3_shedIfFails_13 rfl ?_
    refine go_getf dX3_shedIfFails_14 flX3_10 (by exact hx) rfl ?_
    refine go_callVv (ci := 2) dX3_shedIfFails_17 moX2_copyFrom cvX3_155 ⟨rfl, rfl⟩ (kX2_copyFrom_ γ l _ _ (x + 17) τ ht (x + 1) σ hs (by omega) hbo _ rfl) (by exact ht 0 (by decide)) rfl rfl (Nat.le_refl _) (Nat.zero_le _) (Nat.zero_le _) (Nat.le_of_ble_eq_true rfl) ?_
    refine go_aload_n dX3_shedIfFails_20 rfl ?_
    refine go_getf dX3_shedIfFails_21 flX3_16 (by exact (zps_out (by omega)).trans hx) rfl ?_
    refine go_getf dX3_shedIfFails_24 flX3_35 (by exact zps_is γ h (x + 17) _ 0 (by decide)) rfl ?_
    refine go_iload_n dX3_shedIfFails_27 rfl ?_
    refine go_iconst (v := 0) dX3_shedIfFails_28 (by decide) ?_
    refine go_zast dX3_shedIfFails_29 (by exact zps_is γ h (x + 17) _ 2 (by decide)) (zin3 c4) rfl (zab (by first | exact Or.inl rfl | exact Or.inr rfl | exact zi_B)) ?_
    refine go_h zst_1 ?_
    refine go_aload_n dX3_shedIfFails_30 rfl ?_
    refine go_getf dX3_shedIfFails_31 flX3_16 (by exact (zps_out (by omega)).trans hx) rfl ?_
    refine go_callVi (ci := 2) dX3_shedIfFails_34 moX2_shedPorts cvX3_159 ⟨rfl, rfl⟩ (kX2_shedPorts_ γ l _ _ (x + 17) _ (zps_is γ h (x + 17) _) (sOk.up (sCp_ok hok) (c := 1) (by decide)) S hS) (by exact zps_is γ h (x + 17) _ 0 (by decide)) rfl rfl (Nat.le_refl _) (Nat.zero_le _) (Nat.zero_le _) (Nat.le_of_ble_eq_true rfl) ?_
    refine go_h (zps_zps _ _ _ _ _) ?_
    refine go_iret dX3_shedIfFails_37 rfl ?_ ?_ (Nat.zero_le _) (Nat.zero_le _)
    · simp [aS, c4]
    · first | (rw [if_neg c4]; exact zps_id ht) | rw [if_pos c4]
  · replace c4 := zi_0.mp c4
    refine go_iconst (v := (-1)) dX3_shedIfFails_7 (by decide) ?_
    refine go_iret dX3_shedIfFails_8 rfl ?_ ?_ (Nat.zero_le _) (Nat.zero_le _)
    · simp [aS, c4]
    · first | (rw [if_neg c4]; exact zps_id ht) | rw [if_pos c4]
theorem zgt300 {k m : Nat} (hk : k + (m + 1) = 301) : ¬ (300 : Int32) < nI k := by
  have h1 : (300 : Int32) = nI 300 := rfl
  rw [h1]
  exact nI_nlt (by omega) (by omega)
set_option maxRecDepth 4000 in
theorem kX3_settlePlan_ (γ : zG) (l : Launch) (n : Nat) (h : zH) (x : Nat) (σ : zS) (hx : h.1 x = some (zsw x)) (hs : zSt16 γ h (x + 1) σ) (τ : zS) (ht : zSt16 γ h (x + 17) τ) (hok : sOk σ) (hbo : sBo σ) (R : Int32 × zS) (hR : mStl σ τ = R) : Con γ l (n + 6) 0 0 MX3_settlePlan [.ref x] h (some (.int R.1)) (zps γ h (x + 17) R.2) := by
  refine Con.go (by decide +kernel) (Nat.le_of_ble_eq_true rfl) ⟨rfl, trivial⟩ ?_
  show Go _ 0 0 0 [some (.ref x), none] [] _
  have loop : ∀ (m k : Nat) (ρ : zS), k + m = 301 → sOk ρ → sSet m ρ k = R → Go (γ, l, n + 6, (0, 0), MX3_settlePlan, zF γ 0 0 (some (.int R.1)) (zps γ h (x + 17) R.2)) 0 0 13 [some (.ref x), some (.int (nI k))] [] (zps γ h (x + 17) ρ) := by
    intro m
    induction m with
    | zero =>
      intro k ρ hk hok hf
      have hkN : k = 301 := by omega
      subst hkN
      refine go_iload_n dX3_settlePlan_13 rfl ?_
      refine go_sipush (v := 300) dX3_settlePlan_14 (by decide) ?_
      refine go_icmp_gt (tgt := 46) dX3_settlePlan_17 (by decide) (fun c17 => ?_) (fun c17 => absurd (by decide) c17)
      refine go_bipush (v := (-6)) dX3_settlePlan_46 (by decide) ?_
      refine go_iret dX3_settlePlan_48 rfl ?_ ?_ (Nat.zero_le _) (Nat.zero_le _)
      · rw [← hf]; rfl
      · rw [← hf]; rfl
    | succ m ih =>
      intro k ρ hk hok hf
      refine go_iload_n dX3_settlePlan_13 rfl ?_
      refine go_sipush (v := 300) dX3_settlePlan_14 (by decide) ?_
      refine go_icmp_gt (tgt := 46) dX3_settlePlan_17 (by decide) (fun c17 => absurd c17 (zgt300 hk)) (fun c17 => ?_)
      refine go_aload_n dX3_settlePlan_20 rfl ?_
      refine go_getf dX3_settlePlan_21 flX3_16 (by exact (zps_out (by omega)).trans hx) rfl ?_
      refine go_callVi (ci := 2) dX3_settlePlan_24 moX2_isStable cvX3_171 ⟨rfl, rfl⟩ (kX2_isStable γ l _ _ (x + 17) ρ (zps_is γ h (x + 17) _)) (by exact zps_is γ h (x + 17) _ 0 (by decide)) rfl rfl (Nat.le_refl _) (Nat.zero_le _) (Nat.zero_le _) (Nat.le_of_ble_eq_true rfl) ?_
      refine go_if_eq (tgt := 32) dX3_settlePlan_27 (by decide) (fun c27 => ?_) (fun c27 => ?_)
      · replace c27 := zi_0.mp c27
        refine go_aload_n dX3_settlePlan_32 rfl ?_
        refine go_getf dX3_settlePlan_33 flX3_16 (by exact (zps_out (by omega)).trans hx) rfl ?_
        refine go_callVi (ci := 2) dX3_settlePlan_36 moX2_runSecond cvX3_126 ⟨rfl, rfl⟩ (kX2_runSecond_ γ l _ _ (x + 17) ρ (zps_is γ h (x + 17) _) hok _ rfl) (by exact zps_is γ h (x + 17) _ 0 (by decide)) rfl rfl (Nat.le_refl _) (Nat.zero_le _) (Nat.zero_le _) (Nat.le_of_ble_eq_true rfl) ?_
        refine go_h (zps_zps _ _ _ _ _) ?_
        refine go_pop dX3_settlePlan_39 rfl ?_
        refine go_iinc dX3_settlePlan_40 rfl (nI_1 k) (Nat.le_of_ble_eq_true rfl) ?_
        refine go_goto (tgt := 13) dX3_settlePlan_43 (by decide) ?_
        exact ih (k + 1) _ (by omega) (sSec_ok hok) ((sSet_f c27).symm.trans hf)
      · replace c27 := zi_nz.mp c27
        refine go_iload_n dX3_settlePlan_30 rfl ?_
        refine go_iret dX3_settlePlan_31 rfl ?_ ?_ (Nat.zero_le _) (Nat.zero_le _)
        · rw [← hf, sSet_t c27]
        · rw [← hf, sSet_t c27]
  refine go_aload_n dX3_settlePlan_0 rfl ?_
  refine go_getf dX3_settlePlan_1 flX3_16 (by exact hx) rfl ?_
  refine go_aload_n dX3_settlePlan_4 rfl ?_
  refine go_getf dX3_settlePlan_5 flX3_10 (by exact hx) rfl ?_
  refine go_callVv (ci := 2) dX3_settlePlan_8 moX2_copyFrom cvX3_155 ⟨rfl, rfl⟩ (kX2_copyFrom_ γ l _ _ (x + 17) τ ht (x + 1) σ hs (by omega) hbo _ rfl) (by exact ht 0 (by decide)) rfl rfl (Nat.le_refl _) (Nat.zero_le _) (Nat.zero_le _) (Nat.le_of_ble_eq_true rfl) ?_
  refine go_iconst (v := 0) dX3_settlePlan_11 (by decide) ?_
  refine go_istore_n dX3_settlePlan_12 (Nat.le_of_ble_eq_true rfl) ?_
  exact go_vl (loop 301 0 _ rfl (sCp_ok hok) hR) ⟨rfl, rfl, trivial⟩
set_option maxRecDepth 4000 in
theorem kX3_secondsToStable_ (γ : zG) (l : Launch) (n : Nat) (h : zH) (x : Nat) (σ : zS) (hx : h.1 x = some (zsw x)) (hs : zSt16 γ h (x + 1) σ) (τ : zS) (ht : zSt16 γ h (x + 17) τ) (hok : sOk σ) (hbo : sBo σ) (R : Int32 × zS) (hR : mStl σ τ = R) : Con γ l (n + 7) 0 0 MX3_secondsToStable [.ref x] h (some (.int R.1)) (zps γ h (x + 17) R.2) := by
  refine Con.go (by decide +kernel) (Nat.le_of_ble_eq_true rfl) ⟨rfl, trivial⟩ ?_
  show Go _ 0 0 0 [some (.ref x)] [] _
  refine go_aload_n dX3_secondsToStable_0 rfl ?_
  refine go_callVi (ci := 3) dX3_secondsToStable_1 moX3_settlePlan cvX3_165 ⟨rfl, rfl⟩ (kX3_settlePlan_ γ l _ _ x σ hx hs τ ht hok hbo R hR) (by exact hx) rfl rfl (Nat.le_refl _) (Nat.zero_le _) (Nat.zero_le _) (Nat.le_of_ble_eq_true rfl) ?_
  refine go_iret dX3_secondsToStable_4 rfl ?_ ?_ (Nat.zero_le _) (Nat.zero_le _)
  · rfl
  · rfl
set_option maxRecDepth 4000 in
theorem kX3_stablePorts_ (γ : zG) (l : Launch) (n : Nat) (h : zH) (x : Nat) (σ : zS) (hx : h.1 x = some (zsw x)) (hs : zSt16 γ h (x + 1) σ) (τ : zS) (ht : zSt16 γ h (x + 17) τ) (hok : sOk σ) (hbo : sBo σ) (R : Int32 × zS) (hR : mStl σ τ = R) : Con γ l (n + 7) 0 0 MX3_stablePorts [.ref x] h (some (.int (if R.1 = -6 then -6 else sPw R.2 8))) (zps γ h (x + 17) R.2) := by
  refine Con.go (by decide +kernel) (Nat.le_of_ble_eq_true rfl) ⟨rfl, trivial⟩ ?_
  show Go _ 0 0 0 [some (.ref x)] [] _
  refine go_aload_n dX3_stablePorts_0 rfl ?_
  refine go_callVi (ci := 3) dX3_stablePorts_1 moX3_settlePlan cvX3_165 ⟨rfl, rfl⟩ (kX3_settlePlan_ γ l _ _ x σ hx hs τ ht hok hbo R hR) (by exact hx) rfl rfl (Nat.le_refl _) (Nat.zero_le _) (Nat.zero_le _) (Nat.le_of_ble_eq_true rfl) ?_
  refine go_bipush (v := (-6)) dX3_stablePorts_4 (by decide) ?_
  refine go_icmp_ne (tgt := 14) dX3_stablePorts_6 (by decide) (fun c6 => ?_) (fun c6 => ?_)
  · refine go_aload_n dX3_stablePorts_14 rfl ?_
    refine go_getf dX3_stablePorts_15 flX3_16 (by exact (zps_out (by omega)).trans hx) rfl ?_
    refine go_callVi (ci := 2) dX3_stablePorts_18 moX2_poweredSet cvX3_117 ⟨rfl, rfl⟩ (kX2_poweredSet γ l _ _ (x + 17) R.2 (zps_is γ h (x + 17) _)) (by exact zps_is γ h (x + 17) _ 0 (by decide)) rfl rfl (Nat.le_refl _) (Nat.zero_le _) (Nat.zero_le _) (Nat.le_of_ble_eq_true rfl) ?_
    refine go_iret dX3_stablePorts_21 rfl ?_ ?_ (Nat.zero_le _) (Nat.zero_le _)
    · simp [c6]
    · rfl
  · refine go_bipush (v := (-6)) dX3_stablePorts_9 (by decide) ?_
    refine go_goto (tgt := 21) dX3_stablePorts_11 (by decide) ?_
    refine go_iret dX3_stablePorts_21 rfl ?_ ?_ (Nat.zero_le _) (Nat.zero_le _)
    · simp [c6]
    · rfl
end
section
/-! PoeSwitch: snapshots, constructor -/
theorem zal_zps {γ : zG} {h : zH} {a n : Nat} {σ : zS} : zal (zps γ h a σ) n = zps γ (zal h n) a σ := rfl
theorem zps_zp {γ : zG} {h : zH} {e : va_E} {σ : zS} : zal (zps γ (zp h e) h.2 σ) 15 = zps γ (zal h 16) h.2 σ := by
  refine Prod.ext ?_ (by show h.2 + 1 + 15 = h.2 + 16; omega)
  funext y
  by_cases hy : h.2 ≤ y ∧ y < h.2 + 16
  · obtain ⟨k, rfl⟩ : ∃ k, y = h.2 + k := ⟨y - h.2, by omega⟩
    rw [show (zal (zps γ (zp h e) h.2 σ) 15).1 (h.2 + k) = _ from zps_is γ (zp h e) h.2 σ k (by omega), show (zps γ (zal h 16) h.2 σ).1 (h.2 + k) = _ from zps_is γ (zal h 16) h.2 σ k (by omega)]
  · rw [show (zal (zps γ (zp h e) h.2 σ) 15).1 y = (zp h e).1 y from zps_out (by omega), zps_out (by omega), zp_o (by omega)]
    rfl
theorem zu_zps {γ : zG} {h : zH} {a y : Nat} {σ : zS} {e : va_E} (hy : y < a ∨ a + 16 ≤ y) : zu (zps γ h a σ) y e = zps γ (zu h y e) a σ := by
  refine Prod.ext ?_ rfl
  funext z
  by_cases hz : z = y
  · subst hz
    rw [zu_s, zps_out hy, zu_s]
  · rw [zu_n hz]
    by_cases hi : a ≤ z ∧ z < a + 16
    · obtain ⟨k, rfl⟩ : ∃ k, z = a + k := ⟨z - a, by omega⟩
      rw [zps_is γ h a σ k (by omega), zps_is γ (zu h y e) a σ k (by omega)]
    · rw [zps_out (by omega), zps_out (by omega), zu_n hz]
theorem sI_bo : sBo sI := by
  refine ⟨fun k hk => ?_, fun k hk => ?_⟩
  · rcases (show k = 0 ∨ k = 1 ∨ k = 2 by omega) with h | h | h <;> subst h <;> exact Or.inr rfl
  · rcases (show k = 0 ∨ k = 1 ∨ k = 2 ∨ k = 3 ∨ k = 4 ∨ k = 5 ∨ k = 6 ∨ k = 7 by omega) with h | h | h | h | h | h | h | h <;> subst h <;> exact ⟨Or.inr rfl, Or.inl rfl, Or.inl rfl⟩
theorem go_aload_nN {E : zE} {cs sl pc : Nat} {lv : zLv} {st : List Value} {h : zH} {j : Fin 4} (hd : decode (zb E) pc = .ok (.aload_n j, 1)) (hx : zat lv (j : Nat) = some .null) (k : Go E cs sl (pc + 1) lv (.null :: st) h) : Go E cs sl pc lv st h := by
  intro p e R s m args below meth c H locs ls hC hR hL hl
  exact lv_aload_nN hC.1 hC.2.1 hd rfl (hl.at hx) (k p e R s m args below meth c H locs ls hC hR hL hl)
theorem go_astore_nN {E : zE} {cs sl pc : Nat} {lv : zLv} {st : List Value} {h : zH} {j : Fin 4} (hd : decode (zb E) pc = .ok (.astore_n j, 1)) (hn : (j : Nat) < (zm E).2.2.1) (k : Go E cs sl (pc + 1) (lv.set j (some .null)) st h) : Go E cs sl pc lv (.null :: st) h := by
  intro p e R s m args below meth c H locs ls hC hR hL hl
  exact lv_astore_nN hC.1 hC.2.1 hd rfl hl.has hn rfl (fun ls' hl' => k p e R s m args below meth c H locs ls' hC hR hL (hl.set rfl hl'))
theorem zrfN {f : Nat → Option Nat} {k : Nat} (h : f k = none) : va_rf (f k) = .null := by rw [h]; rfl
theorem zrfS {f : Nat → Option Nat} {k q : Nat} (h : f k = some q) : va_rf (f k) = .ref q := by rw [h]; rfl
set_option maxRecDepth 4000 in
theorem kX3_save_b (γ : zG) (l : Launch) (n : Nat) (h : zH) (x : Nat) (s : Int32) (hb : ¬ aT s) : Con γ l (n + 3) 16 157 MX3_save [.ref x, .int s] h (some (.int (-1))) h := by
  refine Con.go (by decide +kernel) (Nat.le_of_ble_eq_true rfl) ⟨rfl, rfl, trivial⟩ ?_
  show Go _ 0 0 0 [some (.ref x), some (.int s), none] [] _
  refine go_iload_n dX3_save_0 rfl ?_
  refine go_callSi dX3_save_1 moX3_isSlot csX3_168 (kX3_isSlot γ l _ _ _) rfl rfl (Nat.le_refl _) (Nat.le_of_ble_eq_true rfl) (Nat.le_of_ble_eq_true rfl) (Nat.le_of_ble_eq_true rfl) ?_
  refine go_if_ne (tgt := 9) dX3_save_4 (by decide) (fun c4 => ?_) (fun c4 => ?_)
  · replace c4 := zi_nz.mp c4
    exact absurd c4 hb
  · replace c4 := zi_0.mp c4
    refine go_iconst (v := (-1)) dX3_save_7 (by decide) ?_
    refine go_iret dX3_save_8 rfl ?_ ?_ (Nat.le_of_ble_eq_true rfl) (Nat.le_of_ble_eq_true rfl)
    · rfl
    · rfl
set_option maxRecDepth 4000 in
theorem kX3_save_o (γ : zG) (l : Launch) (n : Nat) (h : zH) (x : Nat) (σ : zS) (hx : h.1 x = some (zsw x)) (hs : zSt16 γ h (x + 1) σ) (sn : Nat → Option Nat) (ha : h.1 (x + 33) = some (zas γ 2 sn)) (hbo : sBo σ) (s : Int32) (hb : aT s) (q : Nat) (ρ : zS) (hq : sn (ix s) = some q) (hr : zSt16 γ h q ρ) (hd : x + 34 ≤ q) : Con γ l (n + 3) 16 157 MX3_save [.ref x, .int s] h (some (.int (σ 2 5))) (zps γ h q (sCp ρ σ)) := by
  refine Con.go (by decide +kernel) (Nat.le_of_ble_eq_true rfl) ⟨rfl, rfl, trivial⟩ ?_
  show Go _ 0 0 0 [some (.ref x), some (.int s), none] [] _
  refine go_iload_n dX3_save_0 rfl ?_
  refine go_callSi dX3_save_1 moX3_isSlot csX3_168 (kX3_isSlot γ l _ _ _) rfl rfl (Nat.le_refl _) (Nat.le_of_ble_eq_true rfl) (Nat.le_of_ble_eq_true rfl) (Nat.le_of_ble_eq_true rfl) ?_
  refine go_if_ne (tgt := 9) dX3_save_4 (by decide) (fun c4 => ?_) (fun c4 => ?_)
  · replace c4 := zi_nz.mp c4
    refine go_aload_n dX3_save_9 rfl ?_
    refine go_getf dX3_save_10 flX3_19 (by exact hx) rfl ?_
    refine go_iload_n dX3_save_13 rfl ?_
    refine go_ald (t0 := 3) (C := RX2) dX3_save_14 (by exact ha) rfl (zin2 c4) rfl (zrfS hq) ?_
    refine go_astore_n dX3_save_15 (Nat.le_of_ble_eq_true rfl) ?_
    refine go_aload_n dX3_save_16 rfl ?_
    refine go_ifnonnull_r (tgt := 35) dX3_save_17 (by decide) ?_
    refine go_aload_n dX3_save_35 rfl ?_
    refine go_aload_n dX3_save_36 rfl ?_
    refine go_getf dX3_save_37 flX3_10 (by exact hx) rfl ?_
    refine go_callVv (ci := 2) dX3_save_40 moX2_copyFrom cvX3_155 ⟨rfl, rfl⟩ (kX2_copyFrom_ γ l _ _ q ρ hr (x + 1) σ hs (by omega) hbo _ rfl) (by exact hr 0 (by decide)) rfl rfl (Nat.le_refl _) (Nat.le_of_ble_eq_true rfl) (Nat.le_of_ble_eq_true rfl) (Nat.le_of_ble_eq_true rfl) ?_
    refine go_aload_n dX3_save_43 rfl ?_
    refine go_getf dX3_save_44 flX3_10 (by exact (zps_out (by omega)).trans hx) rfl ?_
    refine go_getf dX3_save_47 flX3_129 (by exact zps_o hs (by omega) 0 (by decide)) rfl ?_
    refine go_iret dX3_save_50 rfl ?_ ?_ (Nat.le_of_ble_eq_true rfl) (Nat.le_of_ble_eq_true rfl)
    · rfl
    · rfl
  · replace c4 := zi_0.mp c4
    exact absurd hb c4
set_option maxRecDepth 4000 in
theorem kX3_save_n (γ : zG) (l : Launch) (n : Nat) (h : zH) (x : Nat) (σ : zS) (hx : h.1 x = some (zsw x)) (hs : zSt16 γ h (x + 1) σ) (sn : Nat → Option Nat) (ha : h.1 (x + 33) = some (zas γ 2 sn)) (hbo : sBo σ) (s : Int32) (hb : aT s) (hq : sn (ix s) = none) (hd : x + 34 ≤ h.2) : Con γ l (n + 4) 16 157 MX3_save [.ref x, .int s] h (some (.int (σ 2 5))) (zps γ (zal (zu h (x + 33) (zas γ 2 (va_up sn (ix s) (some h.2)))) 16) h.2 (sCp sI σ)) := by
  refine Con.go (by decide +kernel) (Nat.le_of_ble_eq_true rfl) ⟨rfl, rfl, trivial⟩ ?_
  show Go _ 0 0 0 [some (.ref x), some (.int s), none] [] _
  refine go_iload_n dX3_save_0 rfl ?_
  refine go_callSi dX3_save_1 moX3_isSlot csX3_168 (kX3_isSlot γ l _ _ _) rfl rfl (Nat.le_refl _) (Nat.le_of_ble_eq_true rfl) (Nat.le_of_ble_eq_true rfl) (Nat.le_of_ble_eq_true rfl) ?_
  refine go_if_ne (tgt := 9) dX3_save_4 (by decide) (fun c4 => ?_) (fun c4 => ?_)
  · replace c4 := zi_nz.mp c4
    refine go_aload_n dX3_save_9 rfl ?_
    refine go_getf dX3_save_10 flX3_19 (by exact hx) rfl ?_
    refine go_iload_n dX3_save_13 rfl ?_
    refine go_ald (t0 := 3) (C := RX2) dX3_save_14 (by exact ha) rfl (zin2 c4) rfl (zrfN hq) ?_
    refine go_astore_nN dX3_save_15 (Nat.le_of_ble_eq_true rfl) ?_
    refine go_aload_nN dX3_save_16 rfl ?_
    refine go_ifnonnull_n dX3_save_17 ?_
    refine go_newA (ci := 2) (fs := [.null, .null, .null, .null, .int 0, .int 0, .int 0, .int 0, .int 0, .int 0]) rfl rfl dX3_save_20 rfl clX3_7 (fun j hj => by rcases (show j = 0 ∨ j = 1 ∨ j = 2 ∨ j = 3 ∨ j = 4 ∨ j = 5 ∨ j = 6 ∨ j = 7 ∨ j = 8 ∨ j = 9 by omega) with h | h | h | h | h | h | h | h | h | h <;> subst h <;> rfl) (Nat.le_of_ble_eq_true rfl) (Nat.le_of_ble_eq_true rfl) ?_
    refine go_dup dX3_save_23 rfl ?_
    refine go_callIv dX3_save_24 moX2_init ciX3_9 ⟨rfl, rfl⟩ (kX2_init γ l _ _ h.2 zp_s rfl) rfl rfl (Nat.le_refl _) (Nat.le_of_ble_eq_true rfl) (Nat.le_of_ble_eq_true rfl) (Nat.le_of_ble_eq_true rfl) ?_
    refine go_h zps_zp ?_
    refine go_astore_n dX3_save_27 (Nat.le_of_ble_eq_true rfl) ?_
    refine go_aload_n dX3_save_28 rfl ?_
    refine go_getf dX3_save_29 flX3_19 (by exact (zps_out (by omega)).trans hx) rfl ?_
    refine go_iload_n dX3_save_32 rfl ?_
    refine go_aload_n dX3_save_33 rfl ?_
    refine go_aast (t0 := 3) (ci := 2) (r := (RX2, TX2, 10)) dX3_save_34 ((zps_out (by omega)).trans ha) rfl (zps_is γ (zal h 16) h.2 sI 0 (by decide)) rfl (zin2 c4) rfl ?_
    refine go_h (zu_zps (by omega)) ?_
    refine go_h (show _ = zps γ (zal (zu h (x + 33) (zas γ 2 (va_up sn (ix s) (some h.2)))) 16) h.2 sI from rfl) ?_
    refine go_aload_n dX3_save_35 rfl ?_
    refine go_aload_n dX3_save_36 rfl ?_
    refine go_getf dX3_save_37 flX3_10 (by exact ((zps_out (by omega)).trans (zu_n (by omega))).trans hx) rfl ?_
    refine go_callVv (ci := 2) dX3_save_40 moX2_copyFrom cvX3_155 ⟨rfl, rfl⟩ (kX2_copyFrom_ γ l _ _ h.2 sI (zps_is γ _ h.2 sI) (x + 1) σ (show zSt16 γ (zps γ (zal (zu h (x + 33) (zas γ 2 (va_up sn (ix s) (some h.2)))) 16) h.2 sI) (x + 1) σ from fun k hk => ((zps_out (by omega)).trans (zu_n (by omega))).trans (hs k hk)) (by omega) hbo _ rfl) (by exact zps_is γ _ h.2 sI 0 (by decide)) rfl rfl (Nat.le_refl _) (Nat.le_of_ble_eq_true rfl) (Nat.le_of_ble_eq_true rfl) (Nat.le_of_ble_eq_true rfl) ?_
    refine go_aload_n dX3_save_43 rfl ?_
    refine go_getf dX3_save_44 flX3_10 (by exact ((zps_out (by omega)).trans ((zps_out (by omega)).trans (zu_n (by omega)))).trans hx) rfl ?_
    refine go_getf dX3_save_47 flX3_129 (by exact zps_o (show zSt16 γ (zps γ (zal (zu h (x + 33) (zas γ 2 (va_up sn (ix s) (some h.2)))) 16) h.2 sI) (x + 1) σ from fun k hk => ((zps_out (by omega)).trans (zu_n (by omega))).trans (hs k hk)) (by omega) 0 (by decide)) rfl ?_
    refine go_iret dX3_save_50 rfl ?_ ?_ (Nat.le_of_ble_eq_true rfl) (Nat.le_of_ble_eq_true rfl)
    · rfl
    · exact (zps_zps _ _ _ _ _).symm
  · replace c4 := zi_0.mp c4
    exact absurd hb c4
set_option maxRecDepth 4000 in
theorem kX3_restore_b (γ : zG) (l : Launch) (n : Nat) (h : zH) (x : Nat) (s : Int32) (hb : ¬ aT s) : Con γ l (n + 2) 0 0 MX3_restore [.ref x, .int s] h (some (.int (-1))) h := by
  refine Con.go (by decide +kernel) (Nat.le_of_ble_eq_true rfl) ⟨rfl, rfl, trivial⟩ ?_
  show Go _ 0 0 0 [some (.ref x), some (.int s), none] [] _
  refine go_iload_n dX3_restore_0 rfl ?_
  refine go_callSi dX3_restore_1 moX3_isSlot csX3_168 (kX3_isSlot γ l _ _ _) rfl rfl (Nat.le_refl _) (Nat.zero_le _) (Nat.zero_le _) (Nat.le_of_ble_eq_true rfl) ?_
  refine go_if_ne (tgt := 9) dX3_restore_4 (by decide) (fun c4 => ?_) (fun c4 => ?_)
  · replace c4 := zi_nz.mp c4
    exact absurd c4 hb
  · replace c4 := zi_0.mp c4
    refine go_iconst (v := (-1)) dX3_restore_7 (by decide) ?_
    refine go_iret dX3_restore_8 rfl ?_ ?_ (Nat.zero_le _) (Nat.zero_le _)
    · rfl
    · rfl
set_option maxRecDepth 4000 in
theorem kX3_restore_n (γ : zG) (l : Launch) (n : Nat) (h : zH) (x : Nat) (σ : zS) (hx : h.1 x = some (zsw x)) (hs : zSt16 γ h (x + 1) σ) (sn : Nat → Option Nat) (ha : h.1 (x + 33) = some (zas γ 2 sn)) (s : Int32) (hb : aT s) (hq : sn (ix s) = none) : Con γ l (n + 2) 0 0 MX3_restore [.ref x, .int s] h (some (.int (-3))) h := by
  refine Con.go (by decide +kernel) (Nat.le_of_ble_eq_true rfl) ⟨rfl, rfl, trivial⟩ ?_
  show Go _ 0 0 0 [some (.ref x), some (.int s), none] [] _
  refine go_iload_n dX3_restore_0 rfl ?_
  refine go_callSi dX3_restore_1 moX3_isSlot csX3_168 (kX3_isSlot γ l _ _ _) rfl rfl (Nat.le_refl _) (Nat.zero_le _) (Nat.zero_le _) (Nat.le_of_ble_eq_true rfl) ?_
  refine go_if_ne (tgt := 9) dX3_restore_4 (by decide) (fun c4 => ?_) (fun c4 => ?_)
  · replace c4 := zi_nz.mp c4
    refine go_aload_n dX3_restore_9 rfl ?_
    refine go_getf dX3_restore_10 flX3_19 (by exact hx) rfl ?_
    refine go_iload_n dX3_restore_13 rfl ?_
    refine go_ald (t0 := 3) (C := RX2) dX3_restore_14 (by exact ha) rfl (zin2 c4) rfl (zrfN hq) ?_
    refine go_astore_nN dX3_restore_15 (Nat.le_of_ble_eq_true rfl) ?_
    refine go_aload_nN dX3_restore_16 rfl ?_
    refine go_ifnonnull_n dX3_restore_17 ?_
    refine go_bipush (v := (-3)) dX3_restore_20 (by decide) ?_
    refine go_iret dX3_restore_22 rfl ?_ ?_ (Nat.zero_le _) (Nat.zero_le _)
    · rfl
    · rfl
  · replace c4 := zi_0.mp c4
    exact absurd hb c4
set_option maxRecDepth 4000 in
theorem kX3_restore_o (γ : zG) (l : Launch) (n : Nat) (h : zH) (x : Nat) (σ : zS) (hx : h.1 x = some (zsw x)) (hs : zSt16 γ h (x + 1) σ) (sn : Nat → Option Nat) (ha : h.1 (x + 33) = some (zas γ 2 sn)) (s : Int32) (hb : aT s) (q : Nat) (ρ : zS) (hbo : sBo ρ) (hq : sn (ix s) = some q) (hr : zSt16 γ h q ρ) (hd : x + 34 ≤ q) : Con γ l (n + 3) 0 0 MX3_restore [.ref x, .int s] h (some (.int (sCp σ ρ 2 5))) (zps γ h (x + 1) (sCp σ ρ)) := by
  refine Con.go (by decide +kernel) (Nat.le_of_ble_eq_true rfl) ⟨rfl, rfl, trivial⟩ ?_
  show Go _ 0 0 0 [some (.ref x), some (.int s), none] [] _
  refine go_iload_n dX3_restore_0 rfl ?_
  refine go_callSi dX3_restore_1 moX3_isSlot csX3_168 (kX3_isSlot γ l _ _ _) rfl rfl (Nat.le_refl _) (Nat.zero_le _) (Nat.zero_le _) (Nat.le_of_ble_eq_true rfl) ?_
  refine go_if_ne (tgt := 9) dX3_restore_4 (by decide) (fun c4 => ?_) (fun c4 => ?_)
  · replace c4 := zi_nz.mp c4
    refine go_aload_n dX3_restore_9 rfl ?_
    refine go_getf dX3_restore_10 flX3_19 (by exact hx) rfl ?_
    refine go_iload_n dX3_restore_13 rfl ?_
    refine go_ald (t0 := 3) (C := RX2) dX3_restore_14 (by exact ha) rfl (zin2 c4) rfl (zrfS hq) ?_
    refine go_astore_n dX3_restore_15 (Nat.le_of_ble_eq_true rfl) ?_
    refine go_aload_n dX3_restore_16 rfl ?_
    refine go_ifnonnull_r (tgt := 23) dX3_restore_17 (by decide) ?_
    refine go_aload_n dX3_restore_23 rfl ?_
    refine go_getf dX3_restore_24 flX3_10 (by exact hx) rfl ?_
    refine go_aload_n dX3_restore_27 rfl ?_
    refine go_callVv (ci := 2) dX3_restore_28 moX2_copyFrom cvX3_155 ⟨rfl, rfl⟩ (kX2_copyFrom_ γ l _ _ (x + 1) σ hs q ρ hr (by omega) hbo _ rfl) (by exact hs 0 (by decide)) rfl rfl (Nat.le_refl _) (Nat.zero_le _) (Nat.zero_le _) (Nat.le_of_ble_eq_true rfl) ?_
    refine go_aload_n dX3_restore_31 rfl ?_
    refine go_getf dX3_restore_32 flX3_10 (by exact (zps_out (by omega)).trans hx) rfl ?_
    refine go_getf dX3_restore_35 flX3_129 (by exact zps_is γ h (x + 1) _ 0 (by decide)) rfl ?_
    refine go_iret dX3_restore_38 rfl ?_ ?_ (Nat.zero_le _) (Nat.zero_le _)
    · rfl
    · rfl
  · replace c4 := zi_0.mp c4
    exact absurd hb c4
def zcP (γ : zG) (x : Nat) : Nat → va_E := fun j => if j = 0 then zsw x else if j < 17 then zst γ (x + 1) sI (j - 1) else if j < 33 then zst γ (x + 17) sI (j - 17) else zas γ 2 (fun _ => none)
set_option maxRecDepth 4000 in
theorem kX3_init (γ : zG) (l : Launch) (n : Nat) (h : zH) (x : Nat) (hp : h.1 x = some (.inr (3, [.null, .null, .null]))) (hnx : h.2 = x + 1) : Con γ l (n + 3) 33 316 MX3_init [.ref x] h none (zcan h x 34 (zcP γ x)) := by
  refine Con.go (by decide +kernel) (Nat.le_of_ble_eq_true rfl) ⟨rfl, trivial⟩ ?_
  show Go _ 0 0 0 [some (.ref x)] [] _
  refine go_h (zcan_1 hp) ?_
  refine go_aload_n dX3_init_0 rfl ?_
  refine go_objInit dX3_init_1 oiX3_1 (by show 1 ≤ _ + 1; omega) ?_
  refine go_aload_n dX3_init_4 rfl ?_
  refine go_newA (ci := 2) (fs := [.null, .null, .null, .null, .int 0, .int 0, .int 0, .int 0, .int 0, .int 0]) (zcan_nx hnx (by decide)) (zcan_push hnx (by decide)) dX3_init_5 rfl clX3_7 (fun j hj => by rcases (show j = 0 ∨ j = 1 ∨ j = 2 ∨ j = 3 ∨ j = 4 ∨ j = 5 ∨ j = 6 ∨ j = 7 ∨ j = 8 ∨ j = 9 by omega) with h | h | h | h | h | h | h | h | h | h <;> subst h <;> rfl) (Nat.le_of_ble_eq_true rfl) (Nat.le_of_ble_eq_true rfl) ?_
  refine go_dup dX3_init_8 rfl ?_
  refine go_callIv dX3_init_9 moX2_init ciX3_9 ⟨rfl, rfl⟩ (kX2_init γ l _ _ (x + 1) (zcan_rd 1 (by decide)) (zcan_nx hnx (by decide))) rfl rfl (Nat.le_refl _) (Nat.le_of_ble_eq_true rfl) (Nat.le_of_ble_eq_true rfl) (Nat.le_of_ble_eq_true rfl) ?_
  refine go_h (zcan_blk (k := 1) (M := 17) (m := 15) hnx (by decide) rfl rfl (by decide) rfl) ?_
  refine go_putF dX3_init_12 flX3_10 fnX3_0 rfl rfl (by exact zcan_rd 0 (by decide)) rfl rfl (Nat.le_of_ble_eq_true rfl) ?_
  refine go_h (zcan_zu (k := 0) (by decide) rfl) ?_
  refine go_aload_n dX3_init_15 rfl ?_
  refine go_newA (ci := 2) (fs := [.null, .null, .null, .null, .int 0, .int 0, .int 0, .int 0, .int 0, .int 0]) (zcan_nx hnx (by decide)) (zcan_push hnx (by decide)) dX3_init_16 rfl clX3_7 (fun j hj => by rcases (show j = 0 ∨ j = 1 ∨ j = 2 ∨ j = 3 ∨ j = 4 ∨ j = 5 ∨ j = 6 ∨ j = 7 ∨ j = 8 ∨ j = 9 by omega) with h | h | h | h | h | h | h | h | h | h <;> subst h <;> rfl) (Nat.le_of_ble_eq_true rfl) (Nat.le_of_ble_eq_true rfl) ?_
  refine go_dup dX3_init_19 rfl ?_
  refine go_callIv dX3_init_20 moX2_init ciX3_9 ⟨rfl, rfl⟩ (kX2_init γ l _ _ (x + 17) (zcan_rd 17 (by decide)) (zcan_nx hnx (by decide))) rfl rfl (Nat.le_refl _) (Nat.le_of_ble_eq_true rfl) (Nat.le_of_ble_eq_true rfl) (Nat.le_of_ble_eq_true rfl) ?_
  refine go_h (zcan_blk (k := 17) (M := 33) (m := 15) hnx (by decide) rfl rfl (by decide) rfl) ?_
  refine go_putF dX3_init_23 flX3_16 fnX3_1 rfl rfl (by exact zcan_rd 0 (by decide)) rfl rfl (Nat.le_of_ble_eq_true rfl) ?_
  refine go_h (zcan_zu (k := 0) (by decide) rfl) ?_
  refine go_aload_n dX3_init_26 rfl ?_
  refine go_iconst (v := 2) dX3_init_27 (by decide) ?_
  refine go_anewA (N := 2) (t0 := 3) (zcan_nx hnx (by decide)) (zcan_push hnx (by decide)) dX3_init_28 clX3_7.1 (fun U hU => hU.2.2.2) rfl (by decide) rfl (by decide) (Nat.le_of_ble_eq_true rfl) (Nat.le_of_ble_eq_true rfl) ?_
  refine go_putF dX3_init_31 flX3_19 fnX3_2 rfl rfl (by exact zcan_rd 0 (by decide)) rfl rfl (Nat.le_of_ble_eq_true rfl) ?_
  refine go_h (zcan_zu (k := 0) (by decide) rfl) ?_
  refine go_vret dX3_init_34 rfl rfl ?_ (Nat.le_of_ble_eq_true rfl) (Nat.le_of_ble_eq_true rfl)
  · refine zcan_congr (fun j hj => ?_)
    by_cases h0 : j = 0
    · subst h0; rfl
    · by_cases h1 : j < 17
      · have e : ¬ (j = 33) := by omega
        have e2 : ¬ (17 ≤ j ∧ j < 17 + 16) := by omega
        have e3 : ¬ (j = 17) := by omega
        have e4 : 1 ≤ j ∧ j < 1 + 16 := by omega
        simp [zcP, zcu, zcb, h0, h1, e, e2, e3, e4]
      · by_cases h2 : j < 33
        · have e : ¬ (j = 33) := by omega
          have e2 : 17 ≤ j ∧ j < 17 + 16 := by omega
          simp [zcP, zcu, zcb, h0, h1, h2, e, e2]
        · have e : j = 33 := by omega
          subst e
          rfl
end
section
/-! PoeSwitchModel: its cells. rows: 0 state, 1 before, 2 slots, 3 isSaved, 4 ahead, 5 occurred and stableSet -/
def zmo (γ : zG) (b : Nat) (μ : zS) : Nat → va_E := fun k => match k with
  | 0 => .inr (4, [.ref (b + 1), .ref (b + 2), .ref (b + 3), .ref (b + 4), .int (μ 5 0), .ref (b + 5), .int (μ 5 1)])
  | 1 => zai γ 149 (μ 0)
  | 2 => zai γ 149 (μ 1)
  | 3 => zai γ 298 (μ 2)
  | 4 => zaz γ 2 (μ 3)
  | _ => zai γ 149 (μ 4)
abbrev zMd (γ : zG) (h : zH) (b : Nat) (μ : zS) : Prop := zIs h b 6 (zmo γ b μ)
def zpm (γ : zG) (h : zH) (b : Nat) (μ : zS) : zH := zput h b 6 (zmo γ b μ)
theorem zpm_is (γ : zG) (h : zH) (b : Nat) (μ : zS) : zMd γ (zpm γ h b μ) b μ := zput_is _ _ _ _
theorem zpm_zpm (γ : zG) (h : zH) (b : Nat) (μ ν : zS) : zpm γ (zpm γ h b μ) b ν = zpm γ h b ν := zput_zput _ _ _ _ _
theorem zpm_id {γ : zG} {h : zH} {b : Nat} {μ : zS} (hm : zMd γ h b μ) : zpm γ h b μ = h := zput_id hm
theorem zlt6 {k : Nat} (h : k < 6) : k = 0 ∨ k = 1 ∨ k = 2 ∨ k = 3 ∨ k = 4 ∨ k = 5 := by omega
theorem zmo_r0 {γ : zG} {h : zH} {b : Nat} {μ : zS} {f : Nat → Int32} (hm : zMd γ h b μ) : zu h (b + 1) (zai γ 149 f) = zpm γ h b (upR μ 0 f) :=
  zu_zput hm (k := 1) (by decide) rfl (fun j hj hn => by rcases zlt6 hj with h | h | h | h | h | h <;> subst h <;> first | rfl | exact absurd rfl hn) rfl
theorem zmo_0 {γ : zG} {h : zH} {b : Nat} {μ : zS} {f : Nat → Int32} : zu (zpm γ h b μ) (b + 1) (zai γ 149 f) = zpm γ h b (upR μ 0 f) := (zmo_r0 (zpm_is γ h b μ)).trans (zpm_zpm _ _ _ _ _)
theorem zmo_r1 {γ : zG} {h : zH} {b : Nat} {μ : zS} {f : Nat → Int32} (hm : zMd γ h b μ) : zu h (b + 2) (zai γ 149 f) = zpm γ h b (upR μ 1 f) :=
  zu_zput hm (k := 2) (by decide) rfl (fun j hj hn => by rcases zlt6 hj with h | h | h | h | h | h <;> subst h <;> first | rfl | exact absurd rfl hn) rfl
theorem zmo_1 {γ : zG} {h : zH} {b : Nat} {μ : zS} {f : Nat → Int32} : zu (zpm γ h b μ) (b + 2) (zai γ 149 f) = zpm γ h b (upR μ 1 f) := (zmo_r1 (zpm_is γ h b μ)).trans (zpm_zpm _ _ _ _ _)
theorem zmo_r2 {γ : zG} {h : zH} {b : Nat} {μ : zS} {f : Nat → Int32} (hm : zMd γ h b μ) : zu h (b + 3) (zai γ 298 f) = zpm γ h b (upR μ 2 f) :=
  zu_zput hm (k := 3) (by decide) rfl (fun j hj hn => by rcases zlt6 hj with h | h | h | h | h | h <;> subst h <;> first | rfl | exact absurd rfl hn) rfl
theorem zmo_2 {γ : zG} {h : zH} {b : Nat} {μ : zS} {f : Nat → Int32} : zu (zpm γ h b μ) (b + 3) (zai γ 298 f) = zpm γ h b (upR μ 2 f) := (zmo_r2 (zpm_is γ h b μ)).trans (zpm_zpm _ _ _ _ _)
theorem zmo_r3 {γ : zG} {h : zH} {b : Nat} {μ : zS} {f : Nat → Int32} (hm : zMd γ h b μ) : zu h (b + 4) (zaz γ 2 f) = zpm γ h b (upR μ 3 f) :=
  zu_zput hm (k := 4) (by decide) rfl (fun j hj hn => by rcases zlt6 hj with h | h | h | h | h | h <;> subst h <;> first | rfl | exact absurd rfl hn) rfl
theorem zmo_3 {γ : zG} {h : zH} {b : Nat} {μ : zS} {f : Nat → Int32} : zu (zpm γ h b μ) (b + 4) (zaz γ 2 f) = zpm γ h b (upR μ 3 f) := (zmo_r3 (zpm_is γ h b μ)).trans (zpm_zpm _ _ _ _ _)
theorem zmo_r4 {γ : zG} {h : zH} {b : Nat} {μ : zS} {f : Nat → Int32} (hm : zMd γ h b μ) : zu h (b + 5) (zai γ 149 f) = zpm γ h b (upR μ 4 f) :=
  zu_zput hm (k := 5) (by decide) rfl (fun j hj hn => by rcases zlt6 hj with h | h | h | h | h | h <;> subst h <;> first | rfl | exact absurd rfl hn) rfl
theorem zmo_4 {γ : zG} {h : zH} {b : Nat} {μ : zS} {f : Nat → Int32} : zu (zpm γ h b μ) (b + 5) (zai γ 149 f) = zpm γ h b (upR μ 4 f) := (zmo_r4 (zpm_is γ h b μ)).trans (zpm_zpm _ _ _ _ _)
theorem zmo_r5 {γ : zG} {h : zH} {b : Nat} {μ : zS} {e : va_E} {f : Nat → Int32} (hm : zMd γ h b μ) (he : zmo γ b (upR μ 5 f) 0 = e) : zu h b e = zpm γ h b (upR μ 5 f) :=
  zu_zput hm (k := 0) (by decide) rfl (fun j hj hn => by rcases zlt6 hj with h | h | h | h | h | h <;> subst h <;> first | rfl | exact absurd rfl hn) he
theorem zmo_5 {γ : zG} {h : zH} {b : Nat} {μ : zS} {e : va_E} (f : Nat → Int32) (he : zmo γ b (upR μ 5 f) 0 = e) : zu (zpm γ h b μ) b e = zpm γ h b (upR μ 5 f) := (zmo_r5 (zpm_is γ h b μ) he).trans (zpm_zpm _ _ _ _ _)
abbrev mi (j k : Nat) : Nat := 61 + 11 * j + k
theorem mi_lt {j k : Nat} (hj : j < 8) (hk : k ≤ 10) : mi j k < 149 := by unfold mi; omega
theorem zlit {i : Int32} {n j : Nat} (h : i.toNatClampNeg = j) (h1 : vp_in i n) : vp_in i n ∧ i.toNatClampNeg = j := ⟨h1, h⟩
abbrev clM (x : Int32) : Int32 := if 0 ≤ x ∧ x ≤ 4 then 0 else if 9 ≤ x ∧ x ≤ 12 then 1 else if 17 ≤ x ∧ x ≤ 20 then 2 else if 26 ≤ x ∧ x ≤ 30 then 3 else if 36 ≤ x ∧ x ≤ 44 then 4 else -6
def nMx (c : Int32) : Int32 := if c = 0 ∨ c = 3 then 154 else if c = 1 then 40 else if c = 2 then 70 else 300
abbrev gM (M : Nat → Int32) (j k : Nat) : Int32 := M (mi j k)
abbrev nCo (M : Nat → Int32) (j : Nat) : Prop := gM M j 2 = 1
abbrev nCl (M : Nat → Int32) (j : Nat) : Int32 := if nCo M j then clM (gM M j 5) else -6
abbrev nDe (M : Nat → Int32) (j : Nat) : Prop := nCo M j ∧ (190 ≤ gM M j 3 ∧ gM M j 3 ≤ 265) ∧ gM M j 4 ≤ 15
abbrev nEl (M : Nat → Int32) (j : Nat) : Prop := gM M j 0 = 1 ∧ nDe M j ∧ ¬ nCl M j < 0
def nSum (M : Nat → Int32) : Nat → Int32
  | 0 => 0
  | k + 1 => nSum M k + M (3 + k) * M (0 + k)
def nBud (M : Nat → Int32) : Int32 := if nSum M 3 ≤ M 6 then 0 else nSum M 3 - M 6
def nAv (M : Nat → Int32) : Nat → Int32
  | 0 => nBud M
  | k + 1 => nAv M k - gM M k 8
def nEs (M : Nat → Int32) : Nat → Int32
  | 0 => 0
  | k + 1 => nEs M k ||| (if nEl M k then bit (nI k) else 0)
def nPs (M : Nat → Int32) : Nat → Int32
  | 0 => 0
  | k + 1 => nPs M k ||| (if 0 < gM M k 8 then bit (nI k) else 0)
def nLose (M : Nat → Int32) (j : Nat) : Nat → Int32 := upd (upd M (mi j 8) 0) (mi j 9) 0
set_option maxRecDepth 4000 in
theorem kX4_in (γ : zG) (l : Launch) (n : Nat) (h : zH) (v lo hi : Int32) : Con γ l (n) 0 0 MX4_in [.int v, .int lo, .int hi] h (some (.int (zi (lo ≤ v ∧ v ≤ hi)))) h := by
  refine Con.go (by decide +kernel) (Nat.le_of_ble_eq_true rfl) ⟨rfl, rfl, rfl, trivial⟩ ?_
  show Go _ 0 0 0 [some (.int v), some (.int lo), some (.int hi)] [] _
  refine go_iload_n dX4_in_0 rfl ?_
  refine go_iload_n dX4_in_1 rfl ?_
  refine go_icmp_lt (tgt := 14) dX4_in_2 (by decide) (fun c2 => ?_) (fun c2 => ?_)
  · refine go_iconst (v := 0) dX4_in_14 (by decide) ?_
    refine go_zret dX4_in_15 rfl (by first | rfl | exact zi_n) ?_ ?_ (Nat.zero_le _) (Nat.zero_le _)
    · first | rfl | exact zrt (by simp_all [-Int32.not_lt, -Int32.not_le, zle]) | exact zrf (by simp_all [-Int32.not_lt, -Int32.not_le, zle])
    · rfl
  · refine go_iload_n dX4_in_5 rfl ?_
    refine go_iload_n dX4_in_6 rfl ?_
    refine go_icmp_gt (tgt := 14) dX4_in_7 (by decide) (fun c7 => ?_) (fun c7 => ?_)
    · refine go_iconst (v := 0) dX4_in_14 (by decide) ?_
      refine go_zret dX4_in_15 rfl (by first | rfl | exact zi_n) ?_ ?_ (Nat.zero_le _) (Nat.zero_le _)
      · first | rfl | exact zrt (by simp_all [-Int32.not_lt, -Int32.not_le, zle]) | exact zrf (by simp_all [-Int32.not_lt, -Int32.not_le, zle])
      · rfl
    · refine go_iconst (v := 1) dX4_in_10 (by decide) ?_
      refine go_goto (tgt := 15) dX4_in_11 (by decide) ?_
      refine go_zret dX4_in_15 rfl (by first | rfl | exact zi_n) ?_ ?_ (Nat.zero_le _) (Nat.zero_le _)
      · first | rfl | exact zrt (by simp_all [-Int32.not_lt, -Int32.not_le, zle]) | exact zrf (by simp_all [-Int32.not_lt, -Int32.not_le, zle])
      · rfl
set_option maxRecDepth 4000 in
theorem kX4_isPort (γ : zG) (l : Launch) (n : Nat) (h : zH) (v : Int32) : Con γ l (n + 1) 0 0 MX4_isPort [.int v] h (some (.int (zi (0 ≤ v ∧ v ≤ 7)))) h := by
  refine Con.go (by decide +kernel) (Nat.le_of_ble_eq_true rfl) ⟨rfl, trivial⟩ ?_
  show Go _ 0 0 0 [some (.int v)] [] _
  refine go_iload_n dX4_isPort_0 rfl ?_
  refine go_iconst (v := 0) dX4_isPort_1 (by decide) ?_
  refine go_bipush (v := 7) dX4_isPort_2 (by decide) ?_
  refine go_callSi dX4_isPort_4 moX4_in csX4_30 (kX4_in γ l _ _ _ _ _) rfl rfl (Nat.le_refl _) (Nat.zero_le _) (Nat.zero_le _) (Nat.le_of_ble_eq_true rfl) ?_
  refine go_zret dX4_isPort_7 rfl (by first | rfl | exact zi_n) ?_ ?_ (Nat.zero_le _) (Nat.zero_le _)
  · rfl
  · rfl
set_option maxRecDepth 4000 in
theorem kX4_isSupply (γ : zG) (l : Launch) (n : Nat) (h : zH) (v : Int32) : Con γ l (n + 1) 0 0 MX4_isSupply [.int v] h (some (.int (zi (0 ≤ v ∧ v ≤ 2)))) h := by
  refine Con.go (by decide +kernel) (Nat.le_of_ble_eq_true rfl) ⟨rfl, trivial⟩ ?_
  show Go _ 0 0 0 [some (.int v)] [] _
  refine go_iload_n dX4_isSupply_0 rfl ?_
  refine go_iconst (v := 0) dX4_isSupply_1 (by decide) ?_
  refine go_iconst (v := 2) dX4_isSupply_2 (by decide) ?_
  refine go_callSi dX4_isSupply_3 moX4_in csX4_30 (kX4_in γ l _ _ _ _ _) rfl rfl (Nat.le_refl _) (Nat.zero_le _) (Nat.zero_le _) (Nat.le_of_ble_eq_true rfl) ?_
  refine go_zret dX4_isSupply_6 rfl (by first | rfl | exact zi_n) ?_ ?_ (Nat.zero_le _) (Nat.zero_le _)
  · rfl
  · rfl
set_option maxRecDepth 4000 in
theorem kX4_at (γ : zG) (l : Launch) (n : Nat) (h : zH) (p w : Int32) (j k : Nat) (hp : p = nI j) (hw : w = nI k) : Con γ l (n) 0 0 MX4_at [.int p, .int w] h (some (.int (nI (mi j k)))) h := by
  refine Con.go (by decide +kernel) (Nat.le_of_ble_eq_true rfl) ⟨rfl, rfl, trivial⟩ ?_
  show Go _ 0 0 0 [some (.int p), some (.int w)] [] _
  refine go_bipush (v := 61) dX4_at_0 (by decide) ?_
  refine go_bipush (v := 11) dX4_at_2 (by decide) ?_
  refine go_iload_n dX4_at_4 rfl ?_
  refine go_imul dX4_at_5 ?_
  refine go_iadd dX4_at_6 ?_
  refine go_iload_n dX4_at_7 rfl ?_
  refine go_iadd dX4_at_8 ?_
  refine go_iret dX4_at_9 rfl ?_ ?_ (Nat.zero_le _) (Nat.zero_le _)
  · rw [hp, hw, show (11 : Int32) = nI 11 from rfl, show (61 : Int32) = nI 61 from rfl, pk_mul, nI_add, nI_add]
  · rfl
set_option maxRecDepth 4000 in
theorem kX4_of (γ : zG) (l : Launch) (n : Nat) (h : zH) (b : Nat) (μ : zS) (hm : zMd γ h b μ) (p w : Int32) (j k : Nat) (hp : p = nI j) (hw : w = nI k) (hlt : mi j k < 149) : Con γ l (n + 1) 0 0 MX4_of [.ref b, .int p, .int w] h (some (.int (gM (μ 0) j k))) h := by
  refine Con.go (by decide +kernel) (Nat.le_of_ble_eq_true rfl) ⟨rfl, rfl, rfl, trivial⟩ ?_
  show Go _ 0 0 0 [some (.ref b), some (.int p), some (.int w)] [] _
  refine go_aload_n dX4_of_0 rfl ?_
  refine go_getf dX4_of_1 flX4_7 (by first | exact hm 0 (by decide) | exact hm 1 (by decide)) rfl ?_
  refine go_iload_n dX4_of_4 rfl ?_
  refine go_iload_n dX4_of_5 rfl ?_
  refine go_callSi dX4_of_6 moX4_at csX4_26 (kX4_at γ l _ _ _ _ j k hp hw) rfl rfl (Nat.le_refl _) (Nat.zero_le _) (Nat.zero_le _) (Nat.le_of_ble_eq_true rfl) ?_
  refine go_iald dX4_of_9 (by first | exact hm 0 (by decide) | exact hm 1 (by decide)) (zix rfl hlt (by decide)).1 (zix rfl hlt (by decide)).2 ?_
  refine go_iret dX4_of_10 rfl ?_ ?_ (Nat.zero_le _) (Nat.zero_le _)
  · rfl
  · rfl
set_option maxRecDepth 4000 in
theorem kX4_set (γ : zG) (l : Launch) (n : Nat) (h : zH) (b : Nat) (μ : zS) (hm : zMd γ h b μ) (i v : Int32) (q : Nat) (hi : i = nI q) (hlt : q < 149) : Con γ l (n) 0 0 MX4_set [.ref b, .int i, .int v] h (some (.int (μ 0 q))) (zpm γ h b (up2 μ 0 q v)) := by
  refine Con.go (by decide +kernel) (Nat.le_of_ble_eq_true rfl) ⟨rfl, rfl, rfl, trivial⟩ ?_
  show Go _ 0 0 0 [some (.ref b), some (.int i), some (.int v), none] [] _
  refine go_aload_n dX4_set_0 rfl ?_
  refine go_getf dX4_set_1 flX4_7 (by first | exact hm 0 (by decide) | exact hm 1 (by decide)) rfl ?_
  refine go_iload_n dX4_set_4 rfl ?_
  refine go_iald dX4_set_5 (by first | exact hm 0 (by decide) | exact hm 1 (by decide)) (zix hi hlt (by decide)).1 (zix hi hlt (by decide)).2 ?_
  refine go_istore_n dX4_set_6 (Nat.le_of_ble_eq_true rfl) ?_
  refine go_aload_n dX4_set_7 rfl ?_
  refine go_getf dX4_set_8 flX4_7 (by first | exact hm 0 (by decide) | exact hm 1 (by decide)) rfl ?_
  refine go_iload_n dX4_set_11 rfl ?_
  refine go_iload_n dX4_set_12 rfl ?_
  refine go_iast dX4_set_13 (by first | exact hm 0 (by decide) | exact hm 1 (by decide)) (zix hi hlt (by decide)).1 (zix hi hlt (by decide)).2 ?_
  refine go_iload_n dX4_set_14 rfl ?_
  refine go_iret dX4_set_15 rfl ?_ ?_ (Nat.zero_le _) (Nat.zero_le _)
  · rfl
  · exact (zmo_r0 hm).symm
set_option maxRecDepth 4000 in
theorem kX4_losePower (γ : zG) (l : Launch) (n : Nat) (h : zH) (b : Nat) (μ : zS) (hm : zMd γ h b μ) (p : Int32) (j : Nat) (hp : p = nI j) (hj : j < 8) : Con γ l (n + 1) 0 0 MX4_losePower [.ref b, .int p] h none (zpm γ h b (upR μ 0 (nLose (μ 0) j))) := by
  refine Con.go (by decide +kernel) (Nat.le_of_ble_eq_true rfl) ⟨rfl, rfl, trivial⟩ ?_
  show Go _ 0 0 0 [some (.ref b), some (.int p)] [] _
  refine go_aload_n dX4_losePower_0 rfl ?_
  refine go_getf dX4_losePower_1 flX4_7 (by first | exact hm 0 (by decide) | exact hm 1 (by decide) | exact zpm_is γ h b _ 0 (by decide) | exact zpm_is γ h b _ 1 (by decide)) rfl ?_
  refine go_iload_n dX4_losePower_4 rfl ?_
  refine go_bipush (v := 8) dX4_losePower_5 (by decide) ?_
  refine go_callSi dX4_losePower_7 moX4_at csX4_26 (kX4_at γ l _ _ _ _ j 8 hp rfl) rfl rfl (Nat.le_refl _) (Nat.zero_le _) (Nat.zero_le _) (Nat.le_of_ble_eq_true rfl) ?_
  refine go_iconst (v := 0) dX4_losePower_10 (by decide) ?_
  refine go_iast dX4_losePower_11 (by first | exact hm 0 (by decide) | exact hm 1 (by decide) | exact zpm_is γ h b _ 0 (by decide) | exact zpm_is γ h b _ 1 (by decide)) (zix (n := 149) rfl (mi_lt hj (by decide)) (by decide)).1 (zix (n := 149) rfl (mi_lt hj (by decide)) (by decide)).2 ?_
  refine go_h (zmo_r0 hm) ?_
  refine go_aload_n dX4_losePower_12 rfl ?_
  refine go_getf dX4_losePower_13 flX4_7 (by first | exact hm 0 (by decide) | exact hm 1 (by decide) | exact zpm_is γ h b _ 0 (by decide) | exact zpm_is γ h b _ 1 (by decide)) rfl ?_
  refine go_iload_n dX4_losePower_16 rfl ?_
  refine go_bipush (v := 9) dX4_losePower_17 (by decide) ?_
  refine go_callSi dX4_losePower_19 moX4_at csX4_26 (kX4_at γ l _ _ _ _ j 9 hp rfl) rfl rfl (Nat.le_refl _) (Nat.zero_le _) (Nat.zero_le _) (Nat.le_of_ble_eq_true rfl) ?_
  refine go_iconst (v := 0) dX4_losePower_22 (by decide) ?_
  refine go_iast dX4_losePower_23 (by first | exact hm 0 (by decide) | exact hm 1 (by decide) | exact zpm_is γ h b _ 0 (by decide) | exact zpm_is γ h b _ 1 (by decide)) (zix (n := 149) rfl (mi_lt hj (by decide)) (by decide)).1 (zix (n := 149) rfl (mi_lt hj (by decide)) (by decide)).2 ?_
  refine go_h zmo_0 ?_
  refine go_vret dX4_losePower_24 rfl rfl ?_ (Nat.zero_le _) (Nat.zero_le _)
  · (rw [upR_upR]; rfl)
set_option maxRecDepth 4000 in
theorem kX4_isPowered (γ : zG) (l : Launch) (n : Nat) (h : zH) (b : Nat) (μ : zS) (hm : zMd γ h b μ) (p : Int32) (j : Nat) (hp : p = nI j) (hj : j < 8) : Con γ l (n + 2) 0 0 MX4_isPowered [.ref b, .int p] h (some (.int (zi (0 < gM (μ 0) j 8)))) h := by
  refine Con.go (by decide +kernel) (Nat.le_of_ble_eq_true rfl) ⟨rfl, rfl, trivial⟩ ?_
  show Go _ 0 0 0 [some (.ref b), some (.int p)] [] _
  refine go_aload_n dX4_isPowered_0 rfl ?_
  refine go_iload_n dX4_isPowered_1 rfl ?_
  refine go_bipush (v := 8) dX4_isPowered_2 (by decide) ?_
  refine go_callVi (ci := 4) dX4_isPowered_4 moX4_of cvX4_45 ⟨rfl, rfl⟩ (kX4_of γ l _ _ b μ hm _ _ j 8 hp rfl (mi_lt hj (by decide))) (by first | exact hm 0 (by decide) | exact hm 1 (by decide)) rfl rfl (Nat.le_refl _) (Nat.zero_le _) (Nat.zero_le _) (Nat.le_of_ble_eq_true rfl) ?_
  refine go_if_le (tgt := 14) dX4_isPowered_7 (by decide) (fun c7 => ?_) (fun c7 => ?_)
  · refine go_iconst (v := 0) dX4_isPowered_14 (by decide) ?_
    refine go_zret dX4_isPowered_15 rfl (by first | rfl | exact zi_n) ?_ ?_ (Nat.zero_le _) (Nat.zero_le _)
    · first | rfl | exact zrt (by simp_all [-Int32.not_lt, -Int32.not_le, zle]) | exact zrf (by simp_all [-Int32.not_lt, -Int32.not_le, zle])
    · rfl
  · refine go_iconst (v := 1) dX4_isPowered_10 (by decide) ?_
    refine go_goto (tgt := 15) dX4_isPowered_11 (by decide) ?_
    refine go_zret dX4_isPowered_15 rfl (by first | rfl | exact zi_n) ?_ ?_ (Nat.zero_le _) (Nat.zero_le _)
    · first | rfl | exact zrt (by simp_all [-Int32.not_lt, -Int32.not_le, zle]) | exact zrf (by simp_all [-Int32.not_lt, -Int32.not_le, zle])
    · rfl
set_option maxRecDepth 4000 in
theorem kX4_isConnected (γ : zG) (l : Launch) (n : Nat) (h : zH) (b : Nat) (μ : zS) (hm : zMd γ h b μ) (p : Int32) (j : Nat) (hp : p = nI j) (hj : j < 8) : Con γ l (n + 2) 0 0 MX4_isConnected [.ref b, .int p] h (some (.int (zi (nCo (μ 0) j)))) h := by
  refine Con.go (by decide +kernel) (Nat.le_of_ble_eq_true rfl) ⟨rfl, rfl, trivial⟩ ?_
  show Go _ 0 0 0 [some (.ref b), some (.int p)] [] _
  refine go_aload_n dX4_isConnected_0 rfl ?_
  refine go_iload_n dX4_isConnected_1 rfl ?_
  refine go_iconst (v := 2) dX4_isConnected_2 (by decide) ?_
  refine go_callVi (ci := 4) dX4_isConnected_3 moX4_of cvX4_45 ⟨rfl, rfl⟩ (kX4_of γ l _ _ b μ hm _ _ j 2 hp rfl (mi_lt hj (by decide))) (by first | exact hm 0 (by decide) | exact hm 1 (by decide)) rfl rfl (Nat.le_refl _) (Nat.zero_le _) (Nat.zero_le _) (Nat.le_of_ble_eq_true rfl) ?_
  refine go_iconst (v := 1) dX4_isConnected_6 (by decide) ?_
  refine go_icmp_ne (tgt := 14) dX4_isConnected_7 (by decide) (fun c7 => ?_) (fun c7 => ?_)
  · refine go_iconst (v := 0) dX4_isConnected_14 (by decide) ?_
    refine go_zret dX4_isConnected_15 rfl (by first | rfl | exact zi_n) ?_ ?_ (Nat.zero_le _) (Nat.zero_le _)
    · first | exact zrt c7 | exact zrf c7
    · rfl
  · refine go_iconst (v := 1) dX4_isConnected_10 (by decide) ?_
    refine go_goto (tgt := 15) dX4_isConnected_11 (by decide) ?_
    refine go_zret dX4_isConnected_15 rfl (by first | rfl | exact zi_n) ?_ ?_ (Nat.zero_le _) (Nat.zero_le _)
    · first | exact zrt c7 | exact zrf c7
    · rfl
set_option maxRecDepth 4000 in
theorem kX4_classBy (γ : zG) (l : Launch) (n : Nat) (h : zH) (x : Int32) : Con γ l (n + 1) 0 0 MX4_classBy [.int x] h (some (.int (clM x))) h := by
  refine Con.go (by decide +kernel) (Nat.le_of_ble_eq_true rfl) ⟨rfl, trivial⟩ ?_
  show Go _ 0 0 0 [some (.int x)] [] _
  refine go_iload_n dX4_classBy_0 rfl ?_
  refine go_iconst (v := 0) dX4_classBy_1 (by decide) ?_
  refine go_iconst (v := 4) dX4_classBy_2 (by decide) ?_
  refine go_callSi dX4_classBy_3 moX4_in csX4_30 (kX4_in γ l _ _ _ _ _) rfl rfl (Nat.le_refl _) (Nat.zero_le _) (Nat.zero_le _) (Nat.le_of_ble_eq_true rfl) ?_
  refine go_if_eq (tgt := 11) dX4_classBy_6 (by decide) (fun c6 => ?_) (fun c6 => ?_)
  · replace c6 := zi_0.mp c6
    refine go_iload_n dX4_classBy_11 rfl ?_
    refine go_bipush (v := 9) dX4_classBy_12 (by decide) ?_
    refine go_bipush (v := 12) dX4_classBy_14 (by decide) ?_
    refine go_callSi dX4_classBy_16 moX4_in csX4_30 (kX4_in γ l _ _ _ _ _) rfl rfl (Nat.le_refl _) (Nat.zero_le _) (Nat.zero_le _) (Nat.le_of_ble_eq_true rfl) ?_
    refine go_if_eq (tgt := 24) dX4_classBy_19 (by decide) (fun c19 => ?_) (fun c19 => ?_)
    · replace c19 := zi_0.mp c19
      refine go_iload_n dX4_classBy_24 rfl ?_
      refine go_bipush (v := 17) dX4_classBy_25 (by decide) ?_
      refine go_bipush (v := 20) dX4_classBy_27 (by decide) ?_
      refine go_callSi dX4_classBy_29 moX4_in csX4_30 (kX4_in γ l _ _ _ _ _) rfl rfl (Nat.le_refl _) (Nat.zero_le _) (Nat.zero_le _) (Nat.le_of_ble_eq_true rfl) ?_
      refine go_if_eq (tgt := 37) dX4_classBy_32 (by decide) (fun c32 => ?_) (fun c32 => ?_)
      · replace c32 := zi_0.mp c32
        refine go_iload_n dX4_classBy_37 rfl ?_
        refine go_bipush (v := 26) dX4_classBy_38 (by decide) ?_
        refine go_bipush (v := 30) dX4_classBy_40 (by decide) ?_
        refine go_callSi dX4_classBy_42 moX4_in csX4_30 (kX4_in γ l _ _ _ _ _) rfl rfl (Nat.le_refl _) (Nat.zero_le _) (Nat.zero_le _) (Nat.le_of_ble_eq_true rfl) ?_
        refine go_if_eq (tgt := 50) dX4_classBy_45 (by decide) (fun c45 => ?_) (fun c45 => ?_)
        · replace c45 := zi_0.mp c45
          refine go_iload_n dX4_classBy_50 rfl ?_
          refine go_bipush (v := 36) dX4_classBy_51 (by decide) ?_
          refine go_bipush (v := 44) dX4_classBy_53 (by decide) ?_
          refine go_callSi dX4_classBy_55 moX4_in csX4_30 (kX4_in γ l _ _ _ _ _) rfl rfl (Nat.le_refl _) (Nat.zero_le _) (Nat.zero_le _) (Nat.le_of_ble_eq_true rfl) ?_
          refine go_if_eq (tgt := 65) dX4_classBy_58 (by decide) (fun c58 => ?_) (fun c58 => ?_)
          · replace c58 := zi_0.mp c58
            refine go_bipush (v := (-6)) dX4_classBy_65 (by decide) ?_
            refine go_iret dX4_classBy_67 rfl ?_ ?_ (Nat.zero_le _) (Nat.zero_le _)
            · simp [clM, c6, c19, c32, c45, c58]
            · rfl
          · replace c58 := zi_nz.mp c58
            refine go_iconst (v := 4) dX4_classBy_61 (by decide) ?_
            refine go_goto (tgt := 67) dX4_classBy_62 (by decide) ?_
            refine go_iret dX4_classBy_67 rfl ?_ ?_ (Nat.zero_le _) (Nat.zero_le _)
            · simp [clM, c6, c19, c32, c45, c58]
            · rfl
        · replace c45 := zi_nz.mp c45
          refine go_iconst (v := 3) dX4_classBy_48 (by decide) ?_
          refine go_iret dX4_classBy_49 rfl ?_ ?_ (Nat.zero_le _) (Nat.zero_le _)
          · simp [clM, c6, c19, c32, c45]
          · rfl
      · replace c32 := zi_nz.mp c32
        refine go_iconst (v := 2) dX4_classBy_35 (by decide) ?_
        refine go_iret dX4_classBy_36 rfl ?_ ?_ (Nat.zero_le _) (Nat.zero_le _)
        · simp [clM, c6, c19, c32]
        · rfl
    · replace c19 := zi_nz.mp c19
      refine go_iconst (v := 1) dX4_classBy_22 (by decide) ?_
      refine go_iret dX4_classBy_23 rfl ?_ ?_ (Nat.zero_le _) (Nat.zero_le _)
      · simp [clM, c6, c19]
      · rfl
  · replace c6 := zi_nz.mp c6
    refine go_iconst (v := 0) dX4_classBy_9 (by decide) ?_
    refine go_iret dX4_classBy_10 rfl ?_ ?_ (Nat.zero_le _) (Nat.zero_le _)
    · simp [clM, c6]
    · rfl
theorem nMx_o {c : Int32} (h : ¬ (c = 0 ∨ c = 1 ∨ c = 2 ∨ c = 3)) : nMx c = 300 := by
  unfold nMx
  rw [if_neg (fun q => h (q.elim Or.inl (fun q => Or.inr (Or.inr (Or.inr q))))), if_neg (fun q => h (Or.inr (Or.inl q))), if_neg (fun q => h (Or.inr (Or.inr (Or.inl q))))]
theorem t_out {c : Int32} (h : ¬ (c = 0 ∨ c = 1 ∨ c = 2 ∨ c = 3)) : c.toInt < 0 ∨ 3 < c.toInt := by
  have key : ∀ (d : Int32), c.toInt = d.toInt → c = d := fun d e => Int32.toInt_inj.mp e
  have h0 : ¬ c.toInt = 0 := fun e => h (Or.inl (key 0 e))
  have h1 : ¬ c.toInt = 1 := fun e => h (Or.inr (Or.inl (key 1 e)))
  have h2 : ¬ c.toInt = 2 := fun e => h (Or.inr (Or.inr (Or.inl (key 2 e))))
  have h3 : ¬ c.toInt = 3 := fun e => h (Or.inr (Or.inr (Or.inr (key 3 e))))
  omega
set_option maxRecDepth 4000 in
theorem kX4_maximumOf (γ : zG) (l : Launch) (n : Nat) (h : zH) (c : Int32) : Con γ l (n) 0 0 MX4_maximumOf [.int c] h (some (.int (nMx c))) h := by
  refine Con.go (by decide +kernel) (Nat.le_of_ble_eq_true rfl) ⟨rfl, trivial⟩ ?_
  show Go _ 0 0 0 [some (.int c)] [] _
  refine go_iload_n dX4_maximumOf_0 rfl ?_
  by_cases h0 : c = 0 ∨ c = 1 ∨ c = 2 ∨ c = 3
  · rcases h0 with hc | hc | hc | hc
    · subst hc
      refine go_tableIn (tgt := 32) dX4_maximumOf_1 (by decide) (by decide) (off := 31) (by decide) (by decide) ?_
      refine go_sipush (v := 154) dX4_maximumOf_32 (by decide) ?_
      refine go_iret dX4_maximumOf_35 rfl ?_ ?_ (Nat.zero_le _) (Nat.zero_le _)
      · rfl
      · rfl
    · subst hc
      refine go_tableIn (tgt := 36) dX4_maximumOf_1 (by decide) (by decide) (off := 35) (by decide) (by decide) ?_
      refine go_bipush (v := 40) dX4_maximumOf_36 (by decide) ?_
      refine go_iret dX4_maximumOf_38 rfl ?_ ?_ (Nat.zero_le _) (Nat.zero_le _)
      · rfl
      · rfl
    · subst hc
      refine go_tableIn (tgt := 39) dX4_maximumOf_1 (by decide) (by decide) (off := 38) (by decide) (by decide) ?_
      refine go_bipush (v := 70) dX4_maximumOf_39 (by decide) ?_
      refine go_iret dX4_maximumOf_41 rfl ?_ ?_ (Nat.zero_le _) (Nat.zero_le _)
      · rfl
      · rfl
    · subst hc
      refine go_tableIn (tgt := 32) dX4_maximumOf_1 (by decide) (by decide) (off := 31) (by decide) (by decide) ?_
      refine go_sipush (v := 154) dX4_maximumOf_32 (by decide) ?_
      refine go_iret dX4_maximumOf_35 rfl ?_ ?_ (Nat.zero_le _) (Nat.zero_le _)
      · rfl
      · rfl
  · refine go_tableOut (tgt := 42) dX4_maximumOf_1 (t_out h0) (by decide) ?_
    refine go_sipush (v := 300) dX4_maximumOf_42 (by decide) ?_
    refine go_iret dX4_maximumOf_45 rfl ?_ ?_ (Nat.zero_le _) (Nat.zero_le _)
    · rw [nMx_o h0]
    · rfl
set_option maxRecDepth 4000 in
theorem kX4_classOf (γ : zG) (l : Launch) (n : Nat) (h : zH) (b : Nat) (μ : zS) (hm : zMd γ h b μ) (p : Int32) (j : Nat) (hp : p = nI j) (hj : j < 8) : Con γ l (n + 3) 0 0 MX4_classOf [.ref b, .int p] h (some (.int (nCl (μ 0) j))) h := by
  refine Con.go (by decide +kernel) (Nat.le_of_ble_eq_true rfl) ⟨rfl, rfl, trivial⟩ ?_
  show Go _ 0 0 0 [some (.ref b), some (.int p)] [] _
  refine go_aload_n dX4_classOf_0 rfl ?_
  refine go_iload_n dX4_classOf_1 rfl ?_
  refine go_callVi (ci := 4) dX4_classOf_2 moX4_isConnected cvX4_55 ⟨rfl, rfl⟩ (kX4_isConnected γ l _ _ b μ hm _ j hp hj) (by first | exact hm 0 (by decide) | exact hm 1 (by decide)) rfl rfl (Nat.le_refl _) (Nat.zero_le _) (Nat.zero_le _) (Nat.le_of_ble_eq_true rfl) ?_
  refine go_if_eq (tgt := 20) dX4_classOf_5 (by decide) (fun c5 => ?_) (fun c5 => ?_)
  · replace c5 := zi_0.mp c5
    refine go_bipush (v := (-6)) dX4_classOf_20 (by decide) ?_
    refine go_iret dX4_classOf_22 rfl ?_ ?_ (Nat.zero_le _) (Nat.zero_le _)
    · simp [nCl, c5]
    · rfl
  · replace c5 := zi_nz.mp c5
    refine go_aload_n dX4_classOf_8 rfl ?_
    refine go_iload_n dX4_classOf_9 rfl ?_
    refine go_iconst (v := 5) dX4_classOf_10 (by decide) ?_
    refine go_callVi (ci := 4) dX4_classOf_11 moX4_of cvX4_45 ⟨rfl, rfl⟩ (kX4_of γ l _ _ b μ hm _ _ j 5 hp rfl (mi_lt hj (by decide))) (by first | exact hm 0 (by decide) | exact hm 1 (by decide)) rfl rfl (Nat.le_refl _) (Nat.zero_le _) (Nat.zero_le _) (Nat.le_of_ble_eq_true rfl) ?_
    refine go_callSi dX4_classOf_14 moX4_classBy csX4_58 (kX4_classBy γ l _ _ _) rfl rfl (Nat.le_refl _) (Nat.zero_le _) (Nat.zero_le _) (Nat.le_of_ble_eq_true rfl) ?_
    refine go_goto (tgt := 22) dX4_classOf_17 (by decide) ?_
    refine go_iret dX4_classOf_22 rfl ?_ ?_ (Nat.zero_le _) (Nat.zero_le _)
    · simp [nCl, c5]
    · rfl
set_option maxRecDepth 4000 in
theorem kX4_detects (γ : zG) (l : Launch) (n : Nat) (h : zH) (b : Nat) (μ : zS) (hm : zMd γ h b μ) (p : Int32) (j : Nat) (hp : p = nI j) (hj : j < 8) : Con γ l (n + 3) 0 0 MX4_detects [.ref b, .int p] h (some (.int (zi (nDe (μ 0) j)))) h := by
  refine Con.go (by decide +kernel) (Nat.le_of_ble_eq_true rfl) ⟨rfl, rfl, trivial⟩ ?_
  show Go _ 0 0 0 [some (.ref b), some (.int p)] [] _
  refine go_aload_n dX4_detects_0 rfl ?_
  refine go_iload_n dX4_detects_1 rfl ?_
  refine go_callVi (ci := 4) dX4_detects_2 moX4_isConnected cvX4_55 ⟨rfl, rfl⟩ (kX4_isConnected γ l _ _ b μ hm _ j hp hj) (by first | exact hm 0 (by decide) | exact hm 1 (by decide)) rfl rfl (Nat.le_refl _) (Nat.zero_le _) (Nat.zero_le _) (Nat.le_of_ble_eq_true rfl) ?_
  refine go_if_eq (tgt := 41) dX4_detects_5 (by decide) (fun c5 => ?_) (fun c5 => ?_)
  · replace c5 := zi_0.mp c5
    refine go_iconst (v := 0) dX4_detects_41 (by decide) ?_
    refine go_zret dX4_detects_42 rfl (by first | rfl | exact zi_n) ?_ ?_ (Nat.zero_le _) (Nat.zero_le _)
    · first | exact zrt ⟨c5, c23, zle.mpr c34⟩ | exact zrf (fun q => zle.mp q.2.2 c34) | exact zrf (fun q => c23 q.2.1) | exact zrf (fun q => c5 q.1)
    · rfl
  · replace c5 := zi_nz.mp c5
    refine go_aload_n dX4_detects_8 rfl ?_
    refine go_iload_n dX4_detects_9 rfl ?_
    refine go_iconst (v := 3) dX4_detects_10 (by decide) ?_
    refine go_callVi (ci := 4) dX4_detects_11 moX4_of cvX4_45 ⟨rfl, rfl⟩ (kX4_of γ l _ _ b μ hm _ _ j 3 hp rfl (mi_lt hj (by decide))) (by first | exact hm 0 (by decide) | exact hm 1 (by decide)) rfl rfl (Nat.le_refl _) (Nat.zero_le _) (Nat.zero_le _) (Nat.le_of_ble_eq_true rfl) ?_
    refine go_sipush (v := 190) dX4_detects_14 (by decide) ?_
    refine go_sipush (v := 265) dX4_detects_17 (by decide) ?_
    refine go_callSi dX4_detects_20 moX4_in csX4_30 (kX4_in γ l _ _ _ _ _) rfl rfl (Nat.le_refl _) (Nat.zero_le _) (Nat.zero_le _) (Nat.le_of_ble_eq_true rfl) ?_
    refine go_if_eq (tgt := 41) dX4_detects_23 (by decide) (fun c23 => ?_) (fun c23 => ?_)
    · replace c23 := zi_0.mp c23
      refine go_iconst (v := 0) dX4_detects_41 (by decide) ?_
      refine go_zret dX4_detects_42 rfl (by first | rfl | exact zi_n) ?_ ?_ (Nat.zero_le _) (Nat.zero_le _)
      · first | exact zrt ⟨c5, c23, zle.mpr c34⟩ | exact zrf (fun q => zle.mp q.2.2 c34) | exact zrf (fun q => c23 q.2.1) | exact zrf (fun q => c5 q.1)
      · rfl
    · replace c23 := zi_nz.mp c23
      refine go_aload_n dX4_detects_26 rfl ?_
      refine go_iload_n dX4_detects_27 rfl ?_
      refine go_iconst (v := 4) dX4_detects_28 (by decide) ?_
      refine go_callVi (ci := 4) dX4_detects_29 moX4_of cvX4_45 ⟨rfl, rfl⟩ (kX4_of γ l _ _ b μ hm _ _ j 4 hp rfl (mi_lt hj (by decide))) (by first | exact hm 0 (by decide) | exact hm 1 (by decide)) rfl rfl (Nat.le_refl _) (Nat.zero_le _) (Nat.zero_le _) (Nat.le_of_ble_eq_true rfl) ?_
      refine go_bipush (v := 15) dX4_detects_32 (by decide) ?_
      refine go_icmp_gt (tgt := 41) dX4_detects_34 (by decide) (fun c34 => ?_) (fun c34 => ?_)
      · refine go_iconst (v := 0) dX4_detects_41 (by decide) ?_
        refine go_zret dX4_detects_42 rfl (by first | rfl | exact zi_n) ?_ ?_ (Nat.zero_le _) (Nat.zero_le _)
        · first | exact zrt ⟨c5, c23, zle.mpr c34⟩ | exact zrf (fun q => zle.mp q.2.2 c34) | exact zrf (fun q => c23 q.2.1) | exact zrf (fun q => c5 q.1)
        · rfl
      · refine go_iconst (v := 1) dX4_detects_37 (by decide) ?_
        refine go_goto (tgt := 42) dX4_detects_38 (by decide) ?_
        refine go_zret dX4_detects_42 rfl (by first | rfl | exact zi_n) ?_ ?_ (Nat.zero_le _) (Nat.zero_le _)
        · first | exact zrt ⟨c5, c23, zle.mpr c34⟩ | exact zrf (fun q => zle.mp q.2.2 c34) | exact zrf (fun q => c23 q.2.1) | exact zrf (fun q => c5 q.1)
        · rfl
set_option maxRecDepth 4000 in
theorem kX4_isEligible (γ : zG) (l : Launch) (n : Nat) (h : zH) (b : Nat) (μ : zS) (hm : zMd γ h b μ) (p : Int32) (j : Nat) (hp : p = nI j) (hj : j < 8) : Con γ l (n + 4) 0 0 MX4_isEligible [.ref b, .int p] h (some (.int (zi (nEl (μ 0) j)))) h := by
  refine Con.go (by decide +kernel) (Nat.le_of_ble_eq_true rfl) ⟨rfl, rfl, trivial⟩ ?_
  show Go _ 0 0 0 [some (.ref b), some (.int p)] [] _
  refine go_aload_n dX4_isEligible_0 rfl ?_
  refine go_iload_n dX4_isEligible_1 rfl ?_
  refine go_iconst (v := 0) dX4_isEligible_2 (by decide) ?_
  refine go_callVi (ci := 4) dX4_isEligible_3 moX4_of cvX4_45 ⟨rfl, rfl⟩ (kX4_of γ l _ _ b μ hm _ _ j 0 hp rfl (mi_lt hj (by decide))) (by first | exact hm 0 (by decide) | exact hm 1 (by decide)) rfl rfl (Nat.le_refl _) (Nat.zero_le _) (Nat.zero_le _) (Nat.le_of_ble_eq_true rfl) ?_
  refine go_iconst (v := 1) dX4_isEligible_6 (by decide) ?_
  refine go_icmp_ne (tgt := 30) dX4_isEligible_7 (by decide) (fun c7 => ?_) (fun c7 => ?_)
  · refine go_iconst (v := 0) dX4_isEligible_30 (by decide) ?_
    refine go_zret dX4_isEligible_31 rfl (by first | rfl | exact zi_n) ?_ ?_ (Nat.zero_le _) (Nat.zero_le _)
    · first | exact zrt ⟨c7, c15, c23⟩ | exact zrf (fun q => q.2.2 c23) | exact zrf (fun q => c15 q.2.1) | exact zrf (fun q => c7 q.1)
    · rfl
  · refine go_aload_n dX4_isEligible_10 rfl ?_
    refine go_iload_n dX4_isEligible_11 rfl ?_
    refine go_callVi (ci := 4) dX4_isEligible_12 moX4_detects cvX4_74 ⟨rfl, rfl⟩ (kX4_detects γ l _ _ b μ hm _ j hp hj) (by first | exact hm 0 (by decide) | exact hm 1 (by decide)) rfl rfl (Nat.le_refl _) (Nat.zero_le _) (Nat.zero_le _) (Nat.le_of_ble_eq_true rfl) ?_
    refine go_if_eq (tgt := 30) dX4_isEligible_15 (by decide) (fun c15 => ?_) (fun c15 => ?_)
    · replace c15 := zi_0.mp c15
      refine go_iconst (v := 0) dX4_isEligible_30 (by decide) ?_
      refine go_zret dX4_isEligible_31 rfl (by first | rfl | exact zi_n) ?_ ?_ (Nat.zero_le _) (Nat.zero_le _)
      · first | exact zrt ⟨c7, c15, c23⟩ | exact zrf (fun q => q.2.2 c23) | exact zrf (fun q => c15 q.2.1) | exact zrf (fun q => c7 q.1)
      · rfl
    · replace c15 := zi_nz.mp c15
      refine go_aload_n dX4_isEligible_18 rfl ?_
      refine go_iload_n dX4_isEligible_19 rfl ?_
      refine go_callVi (ci := 4) dX4_isEligible_20 moX4_classOf cvX4_68 ⟨rfl, rfl⟩ (kX4_classOf γ l _ _ b μ hm _ j hp hj) (by first | exact hm 0 (by decide) | exact hm 1 (by decide)) rfl rfl (Nat.le_refl _) (Nat.zero_le _) (Nat.zero_le _) (Nat.le_of_ble_eq_true rfl) ?_
      refine go_if_lt (tgt := 30) dX4_isEligible_23 (by decide) (fun c23 => ?_) (fun c23 => ?_)
      · refine go_iconst (v := 0) dX4_isEligible_30 (by decide) ?_
        refine go_zret dX4_isEligible_31 rfl (by first | rfl | exact zi_n) ?_ ?_ (Nat.zero_le _) (Nat.zero_le _)
        · first | exact zrt ⟨c7, c15, c23⟩ | exact zrf (fun q => q.2.2 c23) | exact zrf (fun q => c15 q.2.1) | exact zrf (fun q => c7 q.1)
        · rfl
      · refine go_iconst (v := 1) dX4_isEligible_26 (by decide) ?_
        refine go_goto (tgt := 31) dX4_isEligible_27 (by decide) ?_
        refine go_zret dX4_isEligible_31 rfl (by first | rfl | exact zi_n) ?_ ?_ (Nat.zero_le _) (Nat.zero_le _)
        · first | exact zrt ⟨c7, c15, c23⟩ | exact zrf (fun q => q.2.2 c23) | exact zrf (fun q => c15 q.2.1) | exact zrf (fun q => c7 q.1)
        · rfl
end
section
/-! PoeSwitchModel: readers and setters -/
theorem upR_id {σ : zS} {c : Nat} : upR σ c (σ c) = σ := by
  funext x
  by_cases h : x = c <;> simp [upR, h]
theorem n3k (k : Nat) : (3 : Int32) + nI k = nI (3 + k) := nI_add 3 k
theorem n0k (k : Nat) : (0 : Int32) + nI k = nI (0 + k) := nI_add 0 k
theorem n0s {s : Int32} (h : aS s) : (0 : Int32) + s = nI (ix s) := by rw [Int32.zero_add]; exact (zn3 h).1
theorem n3s {s : Int32} (h : aS s) : (3 : Int32) + s = nI (3 + ix s) := by
  exact (congrArg (fun v => (3 : Int32) + v) (zn3 h).1).trans (n3k _)
def nCap (M : Nat → Int32) (s c : Int32) : Int32 × (Nat → Int32) := if aS s then (if 0 ≤ c ∧ c ≤ 3000 then (M (ix s), upd M (ix s) c) else (-2, M)) else (-1, M)
def nWrk (M : Nat → Int32) (s w : Int32) : Int32 × (Nat → Int32) := if aS s then (M (3 + ix s), upd M (3 + ix s) (if w = 0 then 0 else 1)) else (-1, M)
def nRow (M : Nat → Int32) (i : Nat) (lo hi v : Int32) : Int32 × (Nat → Int32) := if lo ≤ v ∧ v ≤ hi then (M i, upd M i v) else (-2, M)
abbrev nEn1 (M : Nat → Int32) (p w : Int32) : Nat → Int32 := if w = 0 then upd (nLose M (ix p)) (mi (ix p) 10) 0 else M
def nEna (M : Nat → Int32) (p w : Int32) : Int32 × (Nat → Int32) := if aP p then (if w = 0 then (upd (nLose M (ix p)) (mi (ix p) 10) 0 (mi (ix p) 0), upd (upd (nLose M (ix p)) (mi (ix p) 10) 0) (mi (ix p) 0) 0) else (M (mi (ix p) 0), upd M (mi (ix p) 0) 1)) else (-1, M)
def nPri (M : Nat → Int32) (p q : Int32) : Int32 × (Nat → Int32) := if aP p then (if 0 ≤ q ∧ q ≤ 2 then (M (mi (ix p) 1), upd M (mi (ix p) 1) q) else (-2, M)) else (-1, M)
def nCon (M : Nat → Int32) (p r c i w : Int32) : Int32 × (Nat → Int32) := if aP p then (if (1 ≤ r ∧ r ≤ 999) ∧ (0 ≤ c ∧ c ≤ 99) ∧ (0 ≤ i ∧ i ≤ 60) ∧ (0 ≤ w ∧ w ≤ 999) then (if nCo M (ix p) then (-3, M) else (clM i, upd (upd (upd (upd (upd (upd M (mi (ix p) 2) 1) (mi (ix p) 3) r) (mi (ix p) 4) c) (mi (ix p) 5) i) (mi (ix p) 6) w) (mi (ix p) 7) (if 0 ≤ clM i then nMx (clM i) else 0))) else (-2, M)) else (-1, M)
def nDz (M : Nat → Int32) (j : Nat) : Nat → Nat → Int32
  | 0 => M
  | t + 1 => upd (nDz M j t) (mi j (2 + t)) 0
def nDis (M : Nat → Int32) (p : Int32) : Int32 × (Nat → Int32) := if aP p then (if nCo M (ix p) then (zi (0 < gM M (ix p) 8), upd (nDz (nLose M (ix p)) (ix p) 6) (mi (ix p) 10) 0) else (-3, M)) else (-1, M)
def nLoa (M : Nat → Int32) (p w : Int32) : Int32 × (Nat → Int32) := if aP p then (if 0 ≤ w ∧ w ≤ 999 then (if nCo M (ix p) then (M (mi (ix p) 6), upd M (mi (ix p) 6) w) else (-3, M)) else (-2, M)) else (-1, M)
def nReq (M : Nat → Int32) (p w : Int32) : Int32 × (Nat → Int32) := if aP p then (if 0 ≤ nCl M (ix p) then (if 1 ≤ w ∧ w ≤ nMx (nCl M (ix p)) then (if 0 < gM M (ix p) 8 then (if 0 < w - gM M (ix p) 8 ∧ nAv M 8 < w - gM M (ix p) 8 then (-5, M) else (upd M (mi (ix p) 8) w (mi (ix p) 7), upd (upd M (mi (ix p) 8) w) (mi (ix p) 7) w)) else (M (mi (ix p) 7), upd M (mi (ix p) 7) w)) else (-2, M)) else (-3, M)) else (-1, M)
def nRqt (M : Nat → Int32) (p : Int32) : Int32 := if aP p then (if 0 ≤ nCl M (ix p) then M (mi (ix p) 7) else -6) else -1
def nFld (M : Nat → Int32) (k : Nat) (p : Int32) : Int32 := if aP p then M (mi (ix p) k) else -1
set_option maxRecDepth 4000 in
theorem kX4_budget (γ : zG) (l : Launch) (n : Nat) (h : zH) (b : Nat) (μ : zS) (hm : zMd γ h b μ) : Con γ l (n) 0 0 MX4_budget [.ref b] h (some (.int (nBud (μ 0)))) h := by
  refine Con.go (by decide +kernel) (Nat.le_of_ble_eq_true rfl) ⟨rfl, trivial⟩ ?_
  show Go _ 0 0 0 [some (.ref b), none, none] [] _
  have loop : ∀ (m k : Nat), k + m = 3 → Go (γ, l, n, (0, 0), MX4_budget, zF γ 0 0 (some (.int (nBud (μ 0)))) h) 0 0 4 [some (.ref b), some (.int (nSum (μ 0) k)), some (.int (nI k))] [] h := by
    intro m
    induction m with
    | zero =>
      intro k hk
      have hkN : k = 3 := by omega
      subst hkN
      refine go_iload_n dX4_budget_4 rfl ?_
      refine go_iconst (v := 3) dX4_budget_5 (by decide) ?_
      refine go_icmp_ge (tgt := 35) dX4_budget_6 (by decide) (fun c6 => ?_) (fun c6 => absurd (by decide) c6)
      refine go_iload_n dX4_budget_35 rfl ?_
      refine go_aload_n dX4_budget_36 rfl ?_
      refine go_getf dX4_budget_37 flX4_7 (by first | exact hm 0 (by decide) | exact hm 1 (by decide)) rfl ?_
      refine go_bipush (v := 6) dX4_budget_40 (by decide) ?_
      refine go_iald dX4_budget_42 (by first | exact hm 0 (by decide) | exact hm 1 (by decide)) (by unfold vp_in; decide) rfl ?_
      refine go_icmp_le (tgt := 58) dX4_budget_43 (by decide) (fun c43 => ?_) (fun c43 => ?_)
      · refine go_iconst (v := 0) dX4_budget_58 (by decide) ?_
        refine go_iret dX4_budget_59 rfl ?_ ?_ (Nat.zero_le _) (Nat.zero_le _)
        · first | exact congrArg (fun v => some (Value.int v)) (if_pos c43) | exact congrArg (fun v => some (Value.int v)) (if_neg c43)
        · rfl
      · refine go_iload_n dX4_budget_46 rfl ?_
        refine go_aload_n dX4_budget_47 rfl ?_
        refine go_getf dX4_budget_48 flX4_7 (by first | exact hm 0 (by decide) | exact hm 1 (by decide)) rfl ?_
        refine go_bipush (v := 6) dX4_budget_51 (by decide) ?_
        refine go_iald dX4_budget_53 (by first | exact hm 0 (by decide) | exact hm 1 (by decide)) (by unfold vp_in; decide) rfl ?_
        refine go_isub dX4_budget_54 ?_
        refine go_goto (tgt := 59) dX4_budget_55 (by decide) ?_
        refine go_iret dX4_budget_59 rfl ?_ ?_ (Nat.zero_le _) (Nat.zero_le _)
        · first | exact congrArg (fun v => some (Value.int v)) (if_pos c43) | exact congrArg (fun v => some (Value.int v)) (if_neg c43)
        · rfl
    | succ m ih =>
      intro k hk
      have hlt : k < 3 := by omega
      refine go_iload_n dX4_budget_4 rfl ?_
      refine go_iconst (v := 3) dX4_budget_5 (by decide) ?_
      refine go_icmp_ge (tgt := 35) dX4_budget_6 (by decide) (fun c6 => absurd c6 (zge3 hk)) (fun c6 => ?_)
      refine go_iload_n dX4_budget_9 rfl ?_
      refine go_aload_n dX4_budget_10 rfl ?_
      refine go_getf dX4_budget_11 flX4_7 (by first | exact hm 0 (by decide) | exact hm 1 (by decide)) rfl ?_
      refine go_iconst (v := 3) dX4_budget_14 (by decide) ?_
      refine go_iload_n dX4_budget_15 rfl ?_
      refine go_iadd dX4_budget_16 ?_
      refine go_iald dX4_budget_17 (by first | exact hm 0 (by decide) | exact hm 1 (by decide)) (zix (n3k k) (by omega) (by decide)).1 (zix (n3k k) (show 3 + k < 149 by omega) (by decide)).2 ?_
      refine go_aload_n dX4_budget_18 rfl ?_
      refine go_getf dX4_budget_19 flX4_7 (by first | exact hm 0 (by decide) | exact hm 1 (by decide)) rfl ?_
      refine go_iconst (v := 0) dX4_budget_22 (by decide) ?_
      refine go_iload_n dX4_budget_23 rfl ?_
      refine go_iadd dX4_budget_24 ?_
      refine go_iald dX4_budget_25 (by first | exact hm 0 (by decide) | exact hm 1 (by decide)) (zix (n0k k) (by omega) (by decide)).1 (zix (n0k k) (show 0 + k < 149 by omega) (by decide)).2 ?_
      refine go_imul dX4_budget_26 ?_
      refine go_iadd dX4_budget_27 ?_
      refine go_istore_n dX4_budget_28 (Nat.le_of_ble_eq_true rfl) ?_
      refine go_iinc dX4_budget_29 rfl (nI_1 k) (Nat.le_of_ble_eq_true rfl) ?_
      refine go_goto (tgt := 4) dX4_budget_32 (by decide) ?_
      exact ih (k + 1) (by omega)
  refine go_iconst (v := 0) dX4_budget_0 (by decide) ?_
  refine go_istore_n dX4_budget_1 (Nat.le_of_ble_eq_true rfl) ?_
  refine go_iconst (v := 0) dX4_budget_2 (by decide) ?_
  refine go_istore_n dX4_budget_3 (Nat.le_of_ble_eq_true rfl) ?_
  exact loop 3 0 rfl
set_option maxRecDepth 4000 in
theorem kX4_available (γ : zG) (l : Launch) (n : Nat) (h : zH) (b : Nat) (μ : zS) (hm : zMd γ h b μ) : Con γ l (n + 2) 0 0 MX4_available [.ref b] h (some (.int (nAv (μ 0) 8))) h := by
  refine Con.go (by decide +kernel) (Nat.le_of_ble_eq_true rfl) ⟨rfl, trivial⟩ ?_
  show Go _ 0 0 0 [some (.ref b), none, none] [] _
  have loop : ∀ (m k : Nat), k + m = 8 → Go (γ, l, n + 2, (0, 0), MX4_available, zF γ 0 0 (some (.int (nAv (μ 0) 8))) h) 0 0 7 [some (.ref b), some (.int (nAv (μ 0) k)), some (.int (nI k))] [] h := by
    intro m
    induction m with
    | zero =>
      intro k hk
      have hkN : k = 8 := by omega
      subst hkN
      refine go_iload_n dX4_available_7 rfl ?_
      refine go_bipush (v := 8) dX4_available_8 (by decide) ?_
      refine go_icmp_ge (tgt := 29) dX4_available_10 (by decide) (fun c10 => ?_) (fun c10 => absurd (by decide) c10)
      refine go_iload_n dX4_available_29 rfl ?_
      refine go_iret dX4_available_30 rfl ?_ ?_ (Nat.zero_le _) (Nat.zero_le _)
      · rfl
      · rfl
    | succ m ih =>
      intro k hk
      have hlt : k < 8 := by omega
      refine go_iload_n dX4_available_7 rfl ?_
      refine go_bipush (v := 8) dX4_available_8 (by decide) ?_
      refine go_icmp_ge (tgt := 29) dX4_available_10 (by decide) (fun c10 => absurd c10 (zge hk)) (fun c10 => ?_)
      refine go_iload_n dX4_available_13 rfl ?_
      refine go_aload_n dX4_available_14 rfl ?_
      refine go_iload_n dX4_available_15 rfl ?_
      refine go_bipush (v := 8) dX4_available_16 (by decide) ?_
      refine go_callVi (ci := 4) dX4_available_18 moX4_of cvX4_45 ⟨rfl, rfl⟩ (kX4_of γ l _ _ b μ hm _ _ k 8 rfl rfl (mi_lt hlt (by decide))) (by first | exact hm 0 (by decide) | exact hm 1 (by decide)) rfl rfl (Nat.le_refl _) (Nat.zero_le _) (Nat.zero_le _) (Nat.le_of_ble_eq_true rfl) ?_
      refine go_isub dX4_available_21 ?_
      refine go_istore_n dX4_available_22 (Nat.le_of_ble_eq_true rfl) ?_
      refine go_iinc dX4_available_23 rfl (nI_1 k) (Nat.le_of_ble_eq_true rfl) ?_
      refine go_goto (tgt := 7) dX4_available_26 (by decide) ?_
      exact ih (k + 1) (by omega)
  refine go_aload_n dX4_available_0 rfl ?_
  refine go_callVi (ci := 4) dX4_available_1 moX4_budget cvX4_41 ⟨rfl, rfl⟩ (kX4_budget γ l _ _ b μ hm) (by first | exact hm 0 (by decide) | exact hm 1 (by decide)) rfl rfl (Nat.le_refl _) (Nat.zero_le _) (Nat.zero_le _) (Nat.le_of_ble_eq_true rfl) ?_
  refine go_istore_n dX4_available_4 (Nat.le_of_ble_eq_true rfl) ?_
  refine go_iconst (v := 0) dX4_available_5 (by decide) ?_
  refine go_istore_n dX4_available_6 (Nat.le_of_ble_eq_true rfl) ?_
  exact loop 8 0 rfl
set_option maxRecDepth 4000 in
theorem kX4_eligiblePorts (γ : zG) (l : Launch) (n : Nat) (h : zH) (b : Nat) (μ : zS) (hm : zMd γ h b μ) : Con γ l (n + 5) 0 0 MX4_eligiblePorts [.ref b] h (some (.int (nEs (μ 0) 8))) h := by
  refine Con.go (by decide +kernel) (Nat.le_of_ble_eq_true rfl) ⟨rfl, trivial⟩ ?_
  show Go _ 0 0 0 [some (.ref b), none, none] [] _
  have loop : ∀ (m k : Nat), k + m = 8 → Go (γ, l, n + 5, (0, 0), MX4_eligiblePorts, zF γ 0 0 (some (.int (nEs (μ 0) 8))) h) 0 0 4 [some (.ref b), some (.int (nEs (μ 0) k)), some (.int (nI k))] [] h := by
    intro m
    induction m with
    | zero =>
      intro k hk
      have hkN : k = 8 := by omega
      subst hkN
      refine go_iload_n dX4_eligiblePorts_4 rfl ?_
      refine go_bipush (v := 8) dX4_eligiblePorts_5 (by decide) ?_
      refine go_icmp_ge (tgt := 34) dX4_eligiblePorts_7 (by decide) (fun c7 => ?_) (fun c7 => absurd (by decide) c7)
      refine go_iload_n dX4_eligiblePorts_34 rfl ?_
      refine go_iret dX4_eligiblePorts_35 rfl ?_ ?_ (Nat.zero_le _) (Nat.zero_le _)
      · rfl
      · rfl
    | succ m ih =>
      intro k hk
      have hlt : k < 8 := by omega
      refine go_iload_n dX4_eligiblePorts_4 rfl ?_
      refine go_bipush (v := 8) dX4_eligiblePorts_5 (by decide) ?_
      refine go_icmp_ge (tgt := 34) dX4_eligiblePorts_7 (by decide) (fun c7 => absurd c7 (zge hk)) (fun c7 => ?_)
      refine go_iload_n dX4_eligiblePorts_10 rfl ?_
      refine go_aload_n dX4_eligiblePorts_11 rfl ?_
      refine go_iload_n dX4_eligiblePorts_12 rfl ?_
      refine go_callVi (ci := 4) dX4_eligiblePorts_13 moX4_isEligible cvX4_77 ⟨rfl, rfl⟩ (kX4_isEligible γ l _ _ b μ hm _ k rfl hlt) (by first | exact hm 0 (by decide) | exact hm 1 (by decide)) rfl rfl (Nat.le_refl _) (Nat.zero_le _) (Nat.zero_le _) (Nat.le_of_ble_eq_true rfl) ?_
      refine go_if_eq (tgt := 25) dX4_eligiblePorts_16 (by decide) (fun c16 => ?_) (fun c16 => ?_)
      · replace c16 := zi_0.mp c16
        refine go_iconst (v := 0) dX4_eligiblePorts_25 (by decide) ?_
        refine go_ior dX4_eligiblePorts_26 ?_
        refine go_istore_n dX4_eligiblePorts_27 (Nat.le_of_ble_eq_true rfl) ?_
        refine go_iinc dX4_eligiblePorts_28 rfl (nI_1 k) (Nat.le_of_ble_eq_true rfl) ?_
        refine go_goto (tgt := 4) dX4_eligiblePorts_31 (by decide) ?_
        exact (show nEs (μ 0) (k + 1) = nEs (μ 0) k ||| 0 from congrArg (fun v => nEs (μ 0) k ||| v) (if_neg c16)) ▸ ih (k + 1) (by omega)
      · replace c16 := zi_nz.mp c16
        refine go_iconst (v := 1) dX4_eligiblePorts_19 (by decide) ?_
        refine go_iload_n dX4_eligiblePorts_20 rfl ?_
        refine go_ishl dX4_eligiblePorts_21 ?_
        refine go_goto (tgt := 26) dX4_eligiblePorts_22 (by decide) ?_
        refine go_ior dX4_eligiblePorts_26 ?_
        refine go_istore_n dX4_eligiblePorts_27 (Nat.le_of_ble_eq_true rfl) ?_
        refine go_iinc dX4_eligiblePorts_28 rfl (nI_1 k) (Nat.le_of_ble_eq_true rfl) ?_
        refine go_goto (tgt := 4) dX4_eligiblePorts_31 (by decide) ?_
        exact (show nEs (μ 0) (k + 1) = nEs (μ 0) k ||| bit (nI k) from congrArg (fun v => nEs (μ 0) k ||| v) (if_pos c16)) ▸ ih (k + 1) (by omega)
  refine go_iconst (v := 0) dX4_eligiblePorts_0 (by decide) ?_
  refine go_istore_n dX4_eligiblePorts_1 (Nat.le_of_ble_eq_true rfl) ?_
  refine go_iconst (v := 0) dX4_eligiblePorts_2 (by decide) ?_
  refine go_istore_n dX4_eligiblePorts_3 (Nat.le_of_ble_eq_true rfl) ?_
  exact loop 8 0 rfl
set_option maxRecDepth 4000 in
theorem kX4_poweredPorts (γ : zG) (l : Launch) (n : Nat) (h : zH) (b : Nat) (μ : zS) (hm : zMd γ h b μ) : Con γ l (n + 3) 0 0 MX4_poweredPorts [.ref b] h (some (.int (nPs (μ 0) 8))) h := by
  refine Con.go (by decide +kernel) (Nat.le_of_ble_eq_true rfl) ⟨rfl, trivial⟩ ?_
  show Go _ 0 0 0 [some (.ref b), none, none] [] _
  have loop : ∀ (m k : Nat), k + m = 8 → Go (γ, l, n + 3, (0, 0), MX4_poweredPorts, zF γ 0 0 (some (.int (nPs (μ 0) 8))) h) 0 0 4 [some (.ref b), some (.int (nPs (μ 0) k)), some (.int (nI k))] [] h := by
    intro m
    induction m with
    | zero =>
      intro k hk
      have hkN : k = 8 := by omega
      subst hkN
      refine go_iload_n dX4_poweredPorts_4 rfl ?_
      refine go_bipush (v := 8) dX4_poweredPorts_5 (by decide) ?_
      refine go_icmp_ge (tgt := 34) dX4_poweredPorts_7 (by decide) (fun c7 => ?_) (fun c7 => absurd (by decide) c7)
      refine go_iload_n dX4_poweredPorts_34 rfl ?_
      refine go_iret dX4_poweredPorts_35 rfl ?_ ?_ (Nat.zero_le _) (Nat.zero_le _)
      · rfl
      · rfl
    | succ m ih =>
      intro k hk
      have hlt : k < 8 := by omega
      refine go_iload_n dX4_poweredPorts_4 rfl ?_
      refine go_bipush (v := 8) dX4_poweredPorts_5 (by decide) ?_
      refine go_icmp_ge (tgt := 34) dX4_poweredPorts_7 (by decide) (fun c7 => absurd c7 (zge hk)) (fun c7 => ?_)
      refine go_iload_n dX4_poweredPorts_10 rfl ?_
      refine go_aload_n dX4_poweredPorts_11 rfl ?_
      refine go_iload_n dX4_poweredPorts_12 rfl ?_
      refine go_callVi (ci := 4) dX4_poweredPorts_13 moX4_isPowered cvX4_65 ⟨rfl, rfl⟩ (kX4_isPowered γ l _ _ b μ hm _ k rfl hlt) (by first | exact hm 0 (by decide) | exact hm 1 (by decide)) rfl rfl (Nat.le_refl _) (Nat.zero_le _) (Nat.zero_le _) (Nat.le_of_ble_eq_true rfl) ?_
      refine go_if_eq (tgt := 25) dX4_poweredPorts_16 (by decide) (fun c16 => ?_) (fun c16 => ?_)
      · replace c16 := zi_0.mp c16
        refine go_iconst (v := 0) dX4_poweredPorts_25 (by decide) ?_
        refine go_ior dX4_poweredPorts_26 ?_
        refine go_istore_n dX4_poweredPorts_27 (Nat.le_of_ble_eq_true rfl) ?_
        refine go_iinc dX4_poweredPorts_28 rfl (nI_1 k) (Nat.le_of_ble_eq_true rfl) ?_
        refine go_goto (tgt := 4) dX4_poweredPorts_31 (by decide) ?_
        exact (show nPs (μ 0) (k + 1) = nPs (μ 0) k ||| 0 from congrArg (fun v => nPs (μ 0) k ||| v) (if_neg c16)) ▸ ih (k + 1) (by omega)
      · replace c16 := zi_nz.mp c16
        refine go_iconst (v := 1) dX4_poweredPorts_19 (by decide) ?_
        refine go_iload_n dX4_poweredPorts_20 rfl ?_
        refine go_ishl dX4_poweredPorts_21 ?_
        refine go_goto (tgt := 26) dX4_poweredPorts_22 (by decide) ?_
        refine go_ior dX4_poweredPorts_26 ?_
        refine go_istore_n dX4_poweredPorts_27 (Nat.le_of_ble_eq_true rfl) ?_
        refine go_iinc dX4_poweredPorts_28 rfl (nI_1 k) (Nat.le_of_ble_eq_true rfl) ?_
        refine go_goto (tgt := 4) dX4_poweredPorts_31 (by decide) ?_
        exact (show nPs (μ 0) (k + 1) = nPs (μ 0) k ||| bit (nI k) from congrArg (fun v => nPs (μ 0) k ||| v) (if_pos c16)) ▸ ih (k + 1) (by omega)
  refine go_iconst (v := 0) dX4_poweredPorts_0 (by decide) ?_
  refine go_istore_n dX4_poweredPorts_1 (Nat.le_of_ble_eq_true rfl) ?_
  refine go_iconst (v := 0) dX4_poweredPorts_2 (by decide) ?_
  refine go_istore_n dX4_poweredPorts_3 (Nat.le_of_ble_eq_true rfl) ?_
  exact loop 8 0 rfl
set_option maxRecDepth 4000 in
theorem kX4_told (γ : zG) (l : Launch) (n : Nat) (h : zH) (b : Nat) (μ : zS) (hm : zMd γ h b μ) (p w : Int32) (k : Nat) (hw : w = nI k) (hk : k ≤ 10) : Con γ l (n + 2) 0 0 MX4_told [.ref b, .int p, .int w] h (some (.int (nFld (μ 0) k p))) h := by
  refine Con.go (by decide +kernel) (Nat.le_of_ble_eq_true rfl) ⟨rfl, rfl, rfl, trivial⟩ ?_
  show Go _ 0 0 0 [some (.ref b), some (.int p), some (.int w)] [] _
  refine go_iload_n dX4_told_0 rfl ?_
  refine go_callSi dX4_told_1 moX4_isPort csX4_48 (kX4_isPort γ l _ _ _) rfl rfl (Nat.le_refl _) (Nat.zero_le _) (Nat.zero_le _) (Nat.le_of_ble_eq_true rfl) ?_
  refine go_if_eq (tgt := 16) dX4_told_4 (by decide) (fun c4 => ?_) (fun c4 => ?_)
  · replace c4 := zi_0.mp c4
    refine go_iconst (v := (-1)) dX4_told_16 (by decide) ?_
    refine go_iret dX4_told_17 rfl ?_ ?_ (Nat.zero_le _) (Nat.zero_le _)
    · simp [nFld, aP, c4]
    · rfl
  · replace c4 := zi_nz.mp c4
    refine go_aload_n dX4_told_7 rfl ?_
    refine go_iload_n dX4_told_8 rfl ?_
    refine go_iload_n dX4_told_9 rfl ?_
    refine go_callVi (ci := 4) dX4_told_10 moX4_of cvX4_45 ⟨rfl, rfl⟩ (kX4_of γ l _ _ b μ hm _ _ (ix p) k (zn8 c4).1 hw (mi_lt (zn8 c4).2 hk)) (by first | exact hm 0 (by decide) | exact hm 1 (by decide)) rfl rfl (Nat.le_refl _) (Nat.zero_le _) (Nat.zero_le _) (Nat.le_of_ble_eq_true rfl) ?_
    refine go_goto (tgt := 17) dX4_told_13 (by decide) ?_
    refine go_iret dX4_told_17 rfl ?_ ?_ (Nat.zero_le _) (Nat.zero_le _)
    · simp [nFld, aP, c4]
    · rfl
set_option maxRecDepth 4000 in
theorem kX4_grant (γ : zG) (l : Launch) (n : Nat) (h : zH) (b : Nat) (μ : zS) (hm : zMd γ h b μ) (p : Int32) : Con γ l (n + 3) 0 0 MX4_grant [.ref b, .int p] h (some (.int (nFld (μ 0) 8 p))) h := by
  refine Con.go (by decide +kernel) (Nat.le_of_ble_eq_true rfl) ⟨rfl, rfl, trivial⟩ ?_
  show Go _ 0 0 0 [some (.ref b), some (.int p)] [] _
  refine go_aload_n dX4_grant_0 rfl ?_
  refine go_iload_n dX4_grant_1 rfl ?_
  refine go_bipush (v := 8) dX4_grant_2 (by decide) ?_
  refine go_callVi (ci := 4) dX4_grant_4 moX4_told cvX4_80 ⟨rfl, rfl⟩ (kX4_told γ l _ _ b μ hm _ _ 8 rfl (by decide)) (by first | exact hm 0 (by decide) | exact hm 1 (by decide)) rfl rfl (Nat.le_refl _) (Nat.zero_le _) (Nat.zero_le _) (Nat.le_of_ble_eq_true rfl) ?_
  refine go_iret dX4_grant_7 rfl ?_ ?_ (Nat.zero_le _) (Nat.zero_le _)
  · rfl
  · rfl
set_option maxRecDepth 4000 in
theorem kX4_overload (γ : zG) (l : Launch) (n : Nat) (h : zH) (b : Nat) (μ : zS) (hm : zMd γ h b μ) (p : Int32) : Con γ l (n + 3) 0 0 MX4_overload [.ref b, .int p] h (some (.int (nFld (μ 0) 9 p))) h := by
  refine Con.go (by decide +kernel) (Nat.le_of_ble_eq_true rfl) ⟨rfl, rfl, trivial⟩ ?_
  show Go _ 0 0 0 [some (.ref b), some (.int p)] [] _
  refine go_aload_n dX4_overload_0 rfl ?_
  refine go_iload_n dX4_overload_1 rfl ?_
  refine go_bipush (v := 9) dX4_overload_2 (by decide) ?_
  refine go_callVi (ci := 4) dX4_overload_4 moX4_told cvX4_80 ⟨rfl, rfl⟩ (kX4_told γ l _ _ b μ hm _ _ 9 rfl (by decide)) (by first | exact hm 0 (by decide) | exact hm 1 (by decide)) rfl rfl (Nat.le_refl _) (Nat.zero_le _) (Nat.zero_le _) (Nat.le_of_ble_eq_true rfl) ?_
  refine go_iret dX4_overload_7 rfl ?_ ?_ (Nat.zero_le _) (Nat.zero_le _)
  · rfl
  · rfl
set_option maxRecDepth 4000 in
theorem kX4_cooldown (γ : zG) (l : Launch) (n : Nat) (h : zH) (b : Nat) (μ : zS) (hm : zMd γ h b μ) (p : Int32) : Con γ l (n + 3) 0 0 MX4_cooldown [.ref b, .int p] h (some (.int (nFld (μ 0) 10 p))) h := by
  refine Con.go (by decide +kernel) (Nat.le_of_ble_eq_true rfl) ⟨rfl, rfl, trivial⟩ ?_
  show Go _ 0 0 0 [some (.ref b), some (.int p)] [] _
  refine go_aload_n dX4_cooldown_0 rfl ?_
  refine go_iload_n dX4_cooldown_1 rfl ?_
  refine go_bipush (v := 10) dX4_cooldown_2 (by decide) ?_
  refine go_callVi (ci := 4) dX4_cooldown_4 moX4_told cvX4_80 ⟨rfl, rfl⟩ (kX4_told γ l _ _ b μ hm _ _ 10 rfl (by decide)) (by first | exact hm 0 (by decide) | exact hm 1 (by decide)) rfl rfl (Nat.le_refl _) (Nat.zero_le _) (Nat.zero_le _) (Nat.le_of_ble_eq_true rfl) ?_
  refine go_iret dX4_cooldown_7 rfl ?_ ?_ (Nat.zero_le _) (Nat.zero_le _)
  · rfl
  · rfl
set_option maxRecDepth 4000 in
theorem kX4_clock (γ : zG) (l : Launch) (n : Nat) (h : zH) (b : Nat) (μ : zS) (hm : zMd γ h b μ) : Con γ l (n) 0 0 MX4_clock [.ref b] h (some (.int (μ 0 11))) h := by
  refine Con.go (by decide +kernel) (Nat.le_of_ble_eq_true rfl) ⟨rfl, trivial⟩ ?_
  show Go _ 0 0 0 [some (.ref b)] [] _
  refine go_aload_n dX4_clock_0 rfl ?_
  refine go_getf dX4_clock_1 flX4_7 (by first | exact hm 0 (by decide) | exact hm 1 (by decide)) rfl ?_
  refine go_bipush (v := 11) dX4_clock_4 (by decide) ?_
  refine go_iald dX4_clock_6 (by first | exact hm 0 (by decide) | exact hm 1 (by decide)) (by unfold vp_in; decide) rfl ?_
  refine go_iret dX4_clock_7 rfl ?_ ?_ (Nat.zero_le _) (Nat.zero_le _)
  · rfl
  · rfl
set_option maxRecDepth 4000 in
theorem kX4_eventCount (γ : zG) (l : Launch) (n : Nat) (h : zH) (b : Nat) (μ : zS) (hm : zMd γ h b μ) : Con γ l (n) 0 0 MX4_eventCount [.ref b] h (some (.int (μ 0 12))) h := by
  refine Con.go (by decide +kernel) (Nat.le_of_ble_eq_true rfl) ⟨rfl, trivial⟩ ?_
  show Go _ 0 0 0 [some (.ref b)] [] _
  refine go_aload_n dX4_eventCount_0 rfl ?_
  refine go_getf dX4_eventCount_1 flX4_7 (by first | exact hm 0 (by decide) | exact hm 1 (by decide)) rfl ?_
  refine go_bipush (v := 12) dX4_eventCount_4 (by decide) ?_
  refine go_iald dX4_eventCount_6 (by first | exact hm 0 (by decide) | exact hm 1 (by decide)) (by unfold vp_in; decide) rfl ?_
  refine go_iret dX4_eventCount_7 rfl ?_ ?_ (Nat.zero_le _) (Nat.zero_le _)
  · rfl
  · rfl
set_option maxRecDepth 4000 in
theorem kX4_setCapacity_ (γ : zG) (l : Launch) (n : Nat) (h : zH) (b : Nat) (μ : zS) (hm : zMd γ h b μ) (s : Int32) (c : Int32) (R : Int32 × (Nat → Int32)) (hR : nCap (μ 0) s c = R) : Con γ l (n + 2) 0 0 MX4_setCapacity [.ref b, .int s, .int c] h (some (.int R.1)) (zpm γ h b (upR μ 0 R.2)) := by
  refine Con.go (by decide +kernel) (Nat.le_of_ble_eq_true rfl) ⟨rfl, rfl, rfl, trivial⟩ ?_
  show Go _ 0 0 0 [some (.ref b), some (.int s), some (.int c)] [] _
  refine go_iload_n dX4_setCapacity_0 rfl ?_
  refine go_callSi dX4_setCapacity_1 moX4_isSupply csX4_34 (kX4_isSupply γ l _ _ _) rfl rfl (Nat.le_refl _) (Nat.zero_le _) (Nat.zero_le _) (Nat.le_of_ble_eq_true rfl) ?_
  refine go_if_ne (tgt := 9) dX4_setCapacity_4 (by decide) (fun c4 => ?_) (fun c4 => ?_)
  · replace c4 := zi_nz.mp c4
    refine go_iload_n dX4_setCapacity_9 rfl ?_
    refine go_iconst (v := 0) dX4_setCapacity_10 (by decide) ?_
    refine go_sipush (v := 3000) dX4_setCapacity_11 (by decide) ?_
    refine go_callSi dX4_setCapacity_14 moX4_in csX4_30 (kX4_in γ l _ _ _ _ _) rfl rfl (Nat.le_refl _) (Nat.zero_le _) (Nat.zero_le _) (Nat.le_of_ble_eq_true rfl) ?_
    refine go_if_eq (tgt := 31) dX4_setCapacity_17 (by decide) (fun c17 => ?_) (fun c17 => ?_)
    · replace c17 := zi_0.mp c17
      refine go_bipush (v := (-2)) dX4_setCapacity_31 (by decide) ?_
      refine go_iret dX4_setCapacity_33 rfl ?_ ?_ (Nat.zero_le _) (Nat.zero_le _)
      · rw [← hR]; simp [nCap, aS, aP, aT, nCo, gM, c4, c17]
      · first | (rw [← hR]; simp [nCap, aS, aP, aT, nCo, gM, c4, c17]; rw [upR_id]; exact zpm_id hm) | (rw [← hR]; simp [nCap, aS, aP, aT, nCo, gM, c4, c17]; rfl; done)
    · replace c17 := zi_nz.mp c17
      refine go_aload_n dX4_setCapacity_20 rfl ?_
      refine go_iconst (v := 0) dX4_setCapacity_21 (by decide) ?_
      refine go_iload_n dX4_setCapacity_22 rfl ?_
      refine go_iadd dX4_setCapacity_23 ?_
      refine go_iload_n dX4_setCapacity_24 rfl ?_
      refine go_callVi (ci := 4) dX4_setCapacity_25 moX4_set cvX4_38 ⟨rfl, rfl⟩ (kX4_set γ l _ _ b μ hm _ _ (ix s) (n0s c4) (Nat.lt_of_lt_of_le (zn3 c4).2 (by decide))) (by first | exact hm 0 (by decide) | exact hm 1 (by decide) | exact zpm_is γ h b _ 0 (by decide) | exact zpm_is γ h b _ 1 (by decide)) rfl rfl (Nat.le_refl _) (Nat.zero_le _) (Nat.zero_le _) (Nat.le_of_ble_eq_true rfl) ?_
      refine go_goto (tgt := 33) dX4_setCapacity_28 (by decide) ?_
      refine go_iret dX4_setCapacity_33 rfl ?_ ?_ (Nat.zero_le _) (Nat.zero_le _)
      · rw [← hR]; simp [nCap, aS, aP, aT, nCo, gM, c4, c17]
      · first | (rw [← hR]; simp [nCap, aS, aP, aT, nCo, gM, c4, c17]; rw [upR_id]; exact zpm_id hm) | (rw [← hR]; simp [nCap, aS, aP, aT, nCo, gM, c4, c17]; rfl; done)
  · replace c4 := zi_0.mp c4
    refine go_iconst (v := (-1)) dX4_setCapacity_7 (by decide) ?_
    refine go_iret dX4_setCapacity_8 rfl ?_ ?_ (Nat.zero_le _) (Nat.zero_le _)
    · rw [← hR]; simp [nCap, aS, aP, aT, nCo, gM, c4]
    · first | (rw [← hR]; simp [nCap, aS, aP, aT, nCo, gM, c4]; rw [upR_id]; exact zpm_id hm) | (rw [← hR]; simp [nCap, aS, aP, aT, nCo, gM, c4]; rfl; done)
set_option maxRecDepth 4000 in
theorem kX4_setWorking_ (γ : zG) (l : Launch) (n : Nat) (h : zH) (b : Nat) (μ : zS) (hm : zMd γ h b μ) (s : Int32) (w : Int32) (R : Int32 × (Nat → Int32)) (hR : nWrk (μ 0) s w = R) : Con γ l (n + 2) 0 0 MX4_setWorking [.ref b, .int s, .int w] h (some (.int R.1)) (zpm γ h b (upR μ 0 R.2)) := by
  refine Con.go (by decide +kernel) (Nat.le_of_ble_eq_true rfl) ⟨rfl, rfl, rfl, trivial⟩ ?_
  show Go _ 0 0 0 [some (.ref b), some (.int s), some (.int w)] [] _
  refine go_iload_n dX4_setWorking_0 rfl ?_
  refine go_callSi dX4_setWorking_1 moX4_isSupply csX4_34 (kX4_isSupply γ l _ _ _) rfl rfl (Nat.le_refl _) (Nat.zero_le _) (Nat.zero_le _) (Nat.le_of_ble_eq_true rfl) ?_
  refine go_if_eq (tgt := 26) dX4_setWorking_4 (by decide) (fun c4 => ?_) (fun c4 => ?_)
  · replace c4 := zi_0.mp c4
    refine go_iconst (v := (-1)) dX4_setWorking_26 (by decide) ?_
    refine go_iret dX4_setWorking_27 rfl ?_ ?_ (Nat.zero_le _) (Nat.zero_le _)
    · rw [← hR]; simp [nWrk, aS, aP, aT, nCo, gM, c4]
    · first | (rw [← hR]; simp [nWrk, aS, aP, aT, nCo, gM, c4]; rw [upR_id]; exact zpm_id hm) | (rw [← hR]; simp [nWrk, aS, aP, aT, nCo, gM, c4]; rfl; done)
  · replace c4 := zi_nz.mp c4
    refine go_aload_n dX4_setWorking_7 rfl ?_
    refine go_iconst (v := 3) dX4_setWorking_8 (by decide) ?_
    refine go_iload_n dX4_setWorking_9 rfl ?_
    refine go_iadd dX4_setWorking_10 ?_
    refine go_iload_n dX4_setWorking_11 rfl ?_
    refine go_if_eq (tgt := 19) dX4_setWorking_12 (by decide) (fun c12 => ?_) (fun c12 => ?_)
    · refine go_iconst (v := 0) dX4_setWorking_19 (by decide) ?_
      refine go_callVi (ci := 4) dX4_setWorking_20 moX4_set cvX4_38 ⟨rfl, rfl⟩ (kX4_set γ l _ _ b μ hm _ _ (3 + ix s) (n3s c4) (by have := (zn3 c4).2; show 3 + s.toNatClampNeg < 149; omega)) (by first | exact hm 0 (by decide) | exact hm 1 (by decide) | exact zpm_is γ h b _ 0 (by decide) | exact zpm_is γ h b _ 1 (by decide)) rfl rfl (Nat.le_refl _) (Nat.zero_le _) (Nat.zero_le _) (Nat.le_of_ble_eq_true rfl) ?_
      refine go_goto (tgt := 27) dX4_setWorking_23 (by decide) ?_
      refine go_iret dX4_setWorking_27 rfl ?_ ?_ (Nat.zero_le _) (Nat.zero_le _)
      · rw [← hR]; simp [nWrk, aS, aP, aT, nCo, gM, c4, c12]
      · first | (rw [← hR]; simp [nWrk, aS, aP, aT, nCo, gM, c4, c12]; rw [upR_id]; exact zpm_id hm) | (rw [← hR]; simp [nWrk, aS, aP, aT, nCo, gM, c4, c12]; rfl; done)
    · refine go_iconst (v := 1) dX4_setWorking_15 (by decide) ?_
      refine go_goto (tgt := 20) dX4_setWorking_16 (by decide) ?_
      refine go_callVi (ci := 4) dX4_setWorking_20 moX4_set cvX4_38 ⟨rfl, rfl⟩ (kX4_set γ l _ _ b μ hm _ _ (3 + ix s) (n3s c4) (by have := (zn3 c4).2; show 3 + s.toNatClampNeg < 149; omega)) (by first | exact hm 0 (by decide) | exact hm 1 (by decide) | exact zpm_is γ h b _ 0 (by decide) | exact zpm_is γ h b _ 1 (by decide)) rfl rfl (Nat.le_refl _) (Nat.zero_le _) (Nat.zero_le _) (Nat.le_of_ble_eq_true rfl) ?_
      refine go_goto (tgt := 27) dX4_setWorking_23 (by decide) ?_
      refine go_iret dX4_setWorking_27 rfl ?_ ?_ (Nat.zero_le _) (Nat.zero_le _)
      · rw [← hR]; simp [nWrk, aS, aP, aT, nCo, gM, c4, c12]
      · first | (rw [← hR]; simp [nWrk, aS, aP, aT, nCo, gM, c4, c12]; rw [upR_id]; exact zpm_id hm) | (rw [← hR]; simp [nWrk, aS, aP, aT, nCo, gM, c4, c12]; rfl; done)
set_option maxRecDepth 4000 in
theorem kX4_setReserve_ (γ : zG) (l : Launch) (n : Nat) (h : zH) (b : Nat) (μ : zS) (hm : zMd γ h b μ) (v : Int32) (R : Int32 × (Nat → Int32)) (hR : nRow (μ 0) 6 0 3000 v = R) : Con γ l (n + 1) 0 0 MX4_setReserve [.ref b, .int v] h (some (.int R.1)) (zpm γ h b (upR μ 0 R.2)) := by
  refine Con.go (by decide +kernel) (Nat.le_of_ble_eq_true rfl) ⟨rfl, rfl, trivial⟩ ?_
  show Go _ 0 0 0 [some (.ref b), some (.int v)] [] _
  refine go_iload_n dX4_setReserve_0 rfl ?_
  refine go_iconst (v := 0) dX4_setReserve_1 (by decide) ?_
  refine go_sipush (v := 3000) dX4_setReserve_2 (by decide) ?_
  refine go_callSi dX4_setReserve_5 moX4_in csX4_30 (kX4_in γ l _ _ _ _ _) rfl rfl (Nat.le_refl _) (Nat.zero_le _) (Nat.zero_le _) (Nat.le_of_ble_eq_true rfl) ?_
  refine go_if_eq (tgt := 21) dX4_setReserve_8 (by decide) (fun c8 => ?_) (fun c8 => ?_)
  · replace c8 := zi_0.mp c8
    refine go_bipush (v := (-2)) dX4_setReserve_21 (by decide) ?_
    refine go_iret dX4_setReserve_23 rfl ?_ ?_ (Nat.zero_le _) (Nat.zero_le _)
    · rw [← hR]; simp [nRow, c8]
    · first | (rw [← hR]; simp [nRow, c8]; rw [upR_id]; exact zpm_id hm) | (rw [← hR]; simp [nRow, c8]; rfl)
  · replace c8 := zi_nz.mp c8
    refine go_aload_n dX4_setReserve_11 rfl ?_
    refine go_bipush (v := 6) dX4_setReserve_12 (by decide) ?_
    refine go_iload_n dX4_setReserve_14 rfl ?_
    refine go_callVi (ci := 4) dX4_setReserve_15 moX4_set cvX4_38 ⟨rfl, rfl⟩ (kX4_set γ l _ _ b μ hm _ _ 6 rfl (by decide)) (by first | exact hm 0 (by decide) | exact hm 1 (by decide)) rfl rfl (Nat.le_refl _) (Nat.zero_le _) (Nat.zero_le _) (Nat.le_of_ble_eq_true rfl) ?_
    refine go_goto (tgt := 23) dX4_setReserve_18 (by decide) ?_
    refine go_iret dX4_setReserve_23 rfl ?_ ?_ (Nat.zero_le _) (Nat.zero_le _)
    · rw [← hR]; simp [nRow, c8]
    · first | (rw [← hR]; simp [nRow, c8]; rw [upR_id]; exact zpm_id hm) | (rw [← hR]; simp [nRow, c8]; rfl)
set_option maxRecDepth 4000 in
theorem kX4_setRestartGap_ (γ : zG) (l : Launch) (n : Nat) (h : zH) (b : Nat) (μ : zS) (hm : zMd γ h b μ) (v : Int32) (R : Int32 × (Nat → Int32)) (hR : nRow (μ 0) 7 1 30 v = R) : Con γ l (n + 1) 0 0 MX4_setRestartGap [.ref b, .int v] h (some (.int R.1)) (zpm γ h b (upR μ 0 R.2)) := by
  refine Con.go (by decide +kernel) (Nat.le_of_ble_eq_true rfl) ⟨rfl, rfl, trivial⟩ ?_
  show Go _ 0 0 0 [some (.ref b), some (.int v)] [] _
  refine go_iload_n dX4_setRestartGap_0 rfl ?_
  refine go_iconst (v := 1) dX4_setRestartGap_1 (by decide) ?_
  refine go_bipush (v := 30) dX4_setRestartGap_2 (by decide) ?_
  refine go_callSi dX4_setRestartGap_4 moX4_in csX4_30 (kX4_in γ l _ _ _ _ _) rfl rfl (Nat.le_refl _) (Nat.zero_le _) (Nat.zero_le _) (Nat.le_of_ble_eq_true rfl) ?_
  refine go_if_eq (tgt := 20) dX4_setRestartGap_7 (by decide) (fun c7 => ?_) (fun c7 => ?_)
  · replace c7 := zi_0.mp c7
    refine go_bipush (v := (-2)) dX4_setRestartGap_20 (by decide) ?_
    refine go_iret dX4_setRestartGap_22 rfl ?_ ?_ (Nat.zero_le _) (Nat.zero_le _)
    · rw [← hR]; simp [nRow, c7]
    · first | (rw [← hR]; simp [nRow, c7]; rw [upR_id]; exact zpm_id hm) | (rw [← hR]; simp [nRow, c7]; rfl)
  · replace c7 := zi_nz.mp c7
    refine go_aload_n dX4_setRestartGap_10 rfl ?_
    refine go_bipush (v := 7) dX4_setRestartGap_11 (by decide) ?_
    refine go_iload_n dX4_setRestartGap_13 rfl ?_
    refine go_callVi (ci := 4) dX4_setRestartGap_14 moX4_set cvX4_38 ⟨rfl, rfl⟩ (kX4_set γ l _ _ b μ hm _ _ 7 rfl (by decide)) (by first | exact hm 0 (by decide) | exact hm 1 (by decide)) rfl rfl (Nat.le_refl _) (Nat.zero_le _) (Nat.zero_le _) (Nat.le_of_ble_eq_true rfl) ?_
    refine go_goto (tgt := 22) dX4_setRestartGap_17 (by decide) ?_
    refine go_iret dX4_setRestartGap_22 rfl ?_ ?_ (Nat.zero_le _) (Nat.zero_le _)
    · rw [← hR]; simp [nRow, c7]
    · first | (rw [← hR]; simp [nRow, c7]; rw [upR_id]; exact zpm_id hm) | (rw [← hR]; simp [nRow, c7]; rfl)
set_option maxRecDepth 4000 in
theorem kX4_setOverloadLimit_ (γ : zG) (l : Launch) (n : Nat) (h : zH) (b : Nat) (μ : zS) (hm : zMd γ h b μ) (v : Int32) (R : Int32 × (Nat → Int32)) (hR : nRow (μ 0) 8 1 30 v = R) : Con γ l (n + 1) 0 0 MX4_setOverloadLimit [.ref b, .int v] h (some (.int R.1)) (zpm γ h b (upR μ 0 R.2)) := by
  refine Con.go (by decide +kernel) (Nat.le_of_ble_eq_true rfl) ⟨rfl, rfl, trivial⟩ ?_
  show Go _ 0 0 0 [some (.ref b), some (.int v)] [] _
  refine go_iload_n dX4_setOverloadLimit_0 rfl ?_
  refine go_iconst (v := 1) dX4_setOverloadLimit_1 (by decide) ?_
  refine go_bipush (v := 30) dX4_setOverloadLimit_2 (by decide) ?_
  refine go_callSi dX4_setOverloadLimit_4 moX4_in csX4_30 (kX4_in γ l _ _ _ _ _) rfl rfl (Nat.le_refl _) (Nat.zero_le _) (Nat.zero_le _) (Nat.le_of_ble_eq_true rfl) ?_
  refine go_if_eq (tgt := 20) dX4_setOverloadLimit_7 (by decide) (fun c7 => ?_) (fun c7 => ?_)
  · replace c7 := zi_0.mp c7
    refine go_bipush (v := (-2)) dX4_setOverloadLimit_20 (by decide) ?_
    refine go_iret dX4_setOverloadLimit_22 rfl ?_ ?_ (Nat.zero_le _) (Nat.zero_le _)
    · rw [← hR]; simp [nRow, c7]
    · first | (rw [← hR]; simp [nRow, c7]; rw [upR_id]; exact zpm_id hm) | (rw [← hR]; simp [nRow, c7]; rfl)
  · replace c7 := zi_nz.mp c7
    refine go_aload_n dX4_setOverloadLimit_10 rfl ?_
    refine go_bipush (v := 8) dX4_setOverloadLimit_11 (by decide) ?_
    refine go_iload_n dX4_setOverloadLimit_13 rfl ?_
    refine go_callVi (ci := 4) dX4_setOverloadLimit_14 moX4_set cvX4_38 ⟨rfl, rfl⟩ (kX4_set γ l _ _ b μ hm _ _ 8 rfl (by decide)) (by first | exact hm 0 (by decide) | exact hm 1 (by decide)) rfl rfl (Nat.le_refl _) (Nat.zero_le _) (Nat.zero_le _) (Nat.le_of_ble_eq_true rfl) ?_
    refine go_goto (tgt := 22) dX4_setOverloadLimit_17 (by decide) ?_
    refine go_iret dX4_setOverloadLimit_22 rfl ?_ ?_ (Nat.zero_le _) (Nat.zero_le _)
    · rw [← hR]; simp [nRow, c7]
    · first | (rw [← hR]; simp [nRow, c7]; rw [upR_id]; exact zpm_id hm) | (rw [← hR]; simp [nRow, c7]; rfl)
set_option maxRecDepth 4000 in
theorem kX4_setCooldownTime_ (γ : zG) (l : Launch) (n : Nat) (h : zH) (b : Nat) (μ : zS) (hm : zMd γ h b μ) (v : Int32) (R : Int32 × (Nat → Int32)) (hR : nRow (μ 0) 9 1 60 v = R) : Con γ l (n + 1) 0 0 MX4_setCooldownTime [.ref b, .int v] h (some (.int R.1)) (zpm γ h b (upR μ 0 R.2)) := by
  refine Con.go (by decide +kernel) (Nat.le_of_ble_eq_true rfl) ⟨rfl, rfl, trivial⟩ ?_
  show Go _ 0 0 0 [some (.ref b), some (.int v)] [] _
  refine go_iload_n dX4_setCooldownTime_0 rfl ?_
  refine go_iconst (v := 1) dX4_setCooldownTime_1 (by decide) ?_
  refine go_bipush (v := 60) dX4_setCooldownTime_2 (by decide) ?_
  refine go_callSi dX4_setCooldownTime_4 moX4_in csX4_30 (kX4_in γ l _ _ _ _ _) rfl rfl (Nat.le_refl _) (Nat.zero_le _) (Nat.zero_le _) (Nat.le_of_ble_eq_true rfl) ?_
  refine go_if_eq (tgt := 20) dX4_setCooldownTime_7 (by decide) (fun c7 => ?_) (fun c7 => ?_)
  · replace c7 := zi_0.mp c7
    refine go_bipush (v := (-2)) dX4_setCooldownTime_20 (by decide) ?_
    refine go_iret dX4_setCooldownTime_22 rfl ?_ ?_ (Nat.zero_le _) (Nat.zero_le _)
    · rw [← hR]; simp [nRow, c7]
    · first | (rw [← hR]; simp [nRow, c7]; rw [upR_id]; exact zpm_id hm) | (rw [← hR]; simp [nRow, c7]; rfl)
  · replace c7 := zi_nz.mp c7
    refine go_aload_n dX4_setCooldownTime_10 rfl ?_
    refine go_bipush (v := 9) dX4_setCooldownTime_11 (by decide) ?_
    refine go_iload_n dX4_setCooldownTime_13 rfl ?_
    refine go_callVi (ci := 4) dX4_setCooldownTime_14 moX4_set cvX4_38 ⟨rfl, rfl⟩ (kX4_set γ l _ _ b μ hm _ _ 9 rfl (by decide)) (by first | exact hm 0 (by decide) | exact hm 1 (by decide)) rfl rfl (Nat.le_refl _) (Nat.zero_le _) (Nat.zero_le _) (Nat.le_of_ble_eq_true rfl) ?_
    refine go_goto (tgt := 22) dX4_setCooldownTime_17 (by decide) ?_
    refine go_iret dX4_setCooldownTime_22 rfl ?_ ?_ (Nat.zero_le _) (Nat.zero_le _)
    · rw [← hR]; simp [nRow, c7]
    · first | (rw [← hR]; simp [nRow, c7]; rw [upR_id]; exact zpm_id hm) | (rw [← hR]; simp [nRow, c7]; rfl)
set_option maxRecDepth 4000 in
theorem kX4_setPriority_ (γ : zG) (l : Launch) (n : Nat) (h : zH) (b : Nat) (μ : zS) (hm : zMd γ h b μ) (p : Int32) (q : Int32) (R : Int32 × (Nat → Int32)) (hR : nPri (μ 0) p q = R) : Con γ l (n + 2) 0 0 MX4_setPriority [.ref b, .int p, .int q] h (some (.int R.1)) (zpm γ h b (upR μ 0 R.2)) := by
  refine Con.go (by decide +kernel) (Nat.le_of_ble_eq_true rfl) ⟨rfl, rfl, rfl, trivial⟩ ?_
  show Go _ 0 0 0 [some (.ref b), some (.int p), some (.int q)] [] _
  refine go_iload_n dX4_setPriority_0 rfl ?_
  refine go_callSi dX4_setPriority_1 moX4_isPort csX4_48 (kX4_isPort γ l _ _ _) rfl rfl (Nat.le_refl _) (Nat.zero_le _) (Nat.zero_le _) (Nat.le_of_ble_eq_true rfl) ?_
  refine go_if_ne (tgt := 9) dX4_setPriority_4 (by decide) (fun c4 => ?_) (fun c4 => ?_)
  · replace c4 := zi_nz.mp c4
    refine go_iload_n dX4_setPriority_9 rfl ?_
    refine go_iconst (v := 0) dX4_setPriority_10 (by decide) ?_
    refine go_iconst (v := 2) dX4_setPriority_11 (by decide) ?_
    refine go_callSi dX4_setPriority_12 moX4_in csX4_30 (kX4_in γ l _ _ _ _ _) rfl rfl (Nat.le_refl _) (Nat.zero_le _) (Nat.zero_le _) (Nat.le_of_ble_eq_true rfl) ?_
    refine go_if_eq (tgt := 31) dX4_setPriority_15 (by decide) (fun c15 => ?_) (fun c15 => ?_)
    · replace c15 := zi_0.mp c15
      refine go_bipush (v := (-2)) dX4_setPriority_31 (by decide) ?_
      refine go_iret dX4_setPriority_33 rfl ?_ ?_ (Nat.zero_le _) (Nat.zero_le _)
      · rw [← hR]; simp [nPri, aS, aP, aT, nCo, gM, c4, c15]
      · first | (rw [← hR]; simp [nPri, aS, aP, aT, nCo, gM, c4, c15]; rw [upR_id]; exact zpm_id hm) | (rw [← hR]; simp [nPri, aS, aP, aT, nCo, gM, c4, c15]; rfl; done)
    · replace c15 := zi_nz.mp c15
      refine go_aload_n dX4_setPriority_18 rfl ?_
      refine go_iload_n dX4_setPriority_19 rfl ?_
      refine go_iconst (v := 1) dX4_setPriority_20 (by decide) ?_
      refine go_callSi dX4_setPriority_21 moX4_at csX4_26 (kX4_at γ l _ _ _ _ (ix p) 1 (zn8 c4).1 rfl) rfl rfl (Nat.le_refl _) (Nat.zero_le _) (Nat.zero_le _) (Nat.le_of_ble_eq_true rfl) ?_
      refine go_iload_n dX4_setPriority_24 rfl ?_
      refine go_callVi (ci := 4) dX4_setPriority_25 moX4_set cvX4_38 ⟨rfl, rfl⟩ (kX4_set γ l _ _ b μ hm _ _ (mi (ix p) 1) rfl (mi_lt (zn8 c4).2 (by decide))) (by first | exact hm 0 (by decide) | exact hm 1 (by decide) | exact zpm_is γ h b _ 0 (by decide) | exact zpm_is γ h b _ 1 (by decide)) rfl rfl (Nat.le_refl _) (Nat.zero_le _) (Nat.zero_le _) (Nat.le_of_ble_eq_true rfl) ?_
      refine go_goto (tgt := 33) dX4_setPriority_28 (by decide) ?_
      refine go_iret dX4_setPriority_33 rfl ?_ ?_ (Nat.zero_le _) (Nat.zero_le _)
      · rw [← hR]; simp [nPri, aS, aP, aT, nCo, gM, c4, c15]
      · first | (rw [← hR]; simp [nPri, aS, aP, aT, nCo, gM, c4, c15]; rw [upR_id]; exact zpm_id hm) | (rw [← hR]; simp [nPri, aS, aP, aT, nCo, gM, c4, c15]; rfl; done)
  · replace c4 := zi_0.mp c4
    refine go_iconst (v := (-1)) dX4_setPriority_7 (by decide) ?_
    refine go_iret dX4_setPriority_8 rfl ?_ ?_ (Nat.zero_le _) (Nat.zero_le _)
    · rw [← hR]; simp [nPri, aS, aP, aT, nCo, gM, c4]
    · first | (rw [← hR]; simp [nPri, aS, aP, aT, nCo, gM, c4]; rw [upR_id]; exact zpm_id hm) | (rw [← hR]; simp [nPri, aS, aP, aT, nCo, gM, c4]; rfl; done)
set_option maxRecDepth 4000 in
theorem kX4_setLoad_ (γ : zG) (l : Launch) (n : Nat) (h : zH) (b : Nat) (μ : zS) (hm : zMd γ h b μ) (p : Int32) (w : Int32) (R : Int32 × (Nat → Int32)) (hR : nLoa (μ 0) p w = R) : Con γ l (n + 3) 0 0 MX4_setLoad [.ref b, .int p, .int w] h (some (.int R.1)) (zpm γ h b (upR μ 0 R.2)) := by
  refine Con.go (by decide +kernel) (Nat.le_of_ble_eq_true rfl) ⟨rfl, rfl, rfl, trivial⟩ ?_
  show Go _ 0 0 0 [some (.ref b), some (.int p), some (.int w)] [] _
  refine go_iload_n dX4_setLoad_0 rfl ?_
  refine go_callSi dX4_setLoad_1 moX4_isPort csX4_48 (kX4_isPort γ l _ _ _) rfl rfl (Nat.le_refl _) (Nat.zero_le _) (Nat.zero_le _) (Nat.le_of_ble_eq_true rfl) ?_
  refine go_if_ne (tgt := 9) dX4_setLoad_4 (by decide) (fun c4 => ?_) (fun c4 => ?_)
  · replace c4 := zi_nz.mp c4
    refine go_iload_n dX4_setLoad_9 rfl ?_
    refine go_iconst (v := 0) dX4_setLoad_10 (by decide) ?_
    refine go_sipush (v := 999) dX4_setLoad_11 (by decide) ?_
    refine go_callSi dX4_setLoad_14 moX4_in csX4_30 (kX4_in γ l _ _ _ _ _) rfl rfl (Nat.le_refl _) (Nat.zero_le _) (Nat.zero_le _) (Nat.le_of_ble_eq_true rfl) ?_
    refine go_if_ne (tgt := 23) dX4_setLoad_17 (by decide) (fun c17 => ?_) (fun c17 => ?_)
    · replace c17 := zi_nz.mp c17
      refine go_aload_n dX4_setLoad_23 rfl ?_
      refine go_iload_n dX4_setLoad_24 rfl ?_
      refine go_callVi (ci := 4) dX4_setLoad_25 moX4_isConnected cvX4_55 ⟨rfl, rfl⟩ (kX4_isConnected γ l _ _ b μ hm _ (ix p) (zn8 c4).1 (zn8 c4).2) (by first | exact hm 0 (by decide) | exact hm 1 (by decide) | exact zpm_is γ h b _ 0 (by decide) | exact zpm_is γ h b _ 1 (by decide)) rfl rfl (Nat.le_refl _) (Nat.zero_le _) (Nat.zero_le _) (Nat.le_of_ble_eq_true rfl) ?_
      refine go_if_eq (tgt := 45) dX4_setLoad_28 (by decide) (fun c28 => ?_) (fun c28 => ?_)
      · replace c28 := zi_0.mp c28
        refine go_bipush (v := (-3)) dX4_setLoad_45 (by decide) ?_
        refine go_iret dX4_setLoad_47 rfl ?_ ?_ (Nat.zero_le _) (Nat.zero_le _)
        · rw [← hR]; simp [nLoa, aS, aP, aT, nCo, gM, c4, c17, c28]
        · first | (rw [← hR]; simp [nLoa, aS, aP, aT, nCo, gM, c4, c17, c28]; rw [upR_id]; exact zpm_id hm) | (rw [← hR]; simp [nLoa, aS, aP, aT, nCo, gM, c4, c17, c28]; rfl; done)
      · replace c28 := zi_nz.mp c28
        refine go_aload_n dX4_setLoad_31 rfl ?_
        refine go_iload_n dX4_setLoad_32 rfl ?_
        refine go_bipush (v := 6) dX4_setLoad_33 (by decide) ?_
        refine go_callSi dX4_setLoad_35 moX4_at csX4_26 (kX4_at γ l _ _ _ _ (ix p) 6 (zn8 c4).1 rfl) rfl rfl (Nat.le_refl _) (Nat.zero_le _) (Nat.zero_le _) (Nat.le_of_ble_eq_true rfl) ?_
        refine go_iload_n dX4_setLoad_38 rfl ?_
        refine go_callVi (ci := 4) dX4_setLoad_39 moX4_set cvX4_38 ⟨rfl, rfl⟩ (kX4_set γ l _ _ b μ hm _ _ (mi (ix p) 6) rfl (mi_lt (zn8 c4).2 (by decide))) (by first | exact hm 0 (by decide) | exact hm 1 (by decide) | exact zpm_is γ h b _ 0 (by decide) | exact zpm_is γ h b _ 1 (by decide)) rfl rfl (Nat.le_refl _) (Nat.zero_le _) (Nat.zero_le _) (Nat.le_of_ble_eq_true rfl) ?_
        refine go_goto (tgt := 47) dX4_setLoad_42 (by decide) ?_
        refine go_iret dX4_setLoad_47 rfl ?_ ?_ (Nat.zero_le _) (Nat.zero_le _)
        · rw [← hR]; simp [nLoa, aS, aP, aT, nCo, gM, c4, c17, c28]
        · first | (rw [← hR]; simp [nLoa, aS, aP, aT, nCo, gM, c4, c17, c28]; rw [upR_id]; exact zpm_id hm) | (rw [← hR]; simp [nLoa, aS, aP, aT, nCo, gM, c4, c17, c28]; rfl; done)
    · replace c17 := zi_0.mp c17
      refine go_bipush (v := (-2)) dX4_setLoad_20 (by decide) ?_
      refine go_iret dX4_setLoad_22 rfl ?_ ?_ (Nat.zero_le _) (Nat.zero_le _)
      · rw [← hR]; simp [nLoa, aS, aP, aT, nCo, gM, c4, c17]
      · first | (rw [← hR]; simp [nLoa, aS, aP, aT, nCo, gM, c4, c17]; rw [upR_id]; exact zpm_id hm) | (rw [← hR]; simp [nLoa, aS, aP, aT, nCo, gM, c4, c17]; rfl; done)
  · replace c4 := zi_0.mp c4
    refine go_iconst (v := (-1)) dX4_setLoad_7 (by decide) ?_
    refine go_iret dX4_setLoad_8 rfl ?_ ?_ (Nat.zero_le _) (Nat.zero_le _)
    · rw [← hR]; simp [nLoa, aS, aP, aT, nCo, gM, c4]
    · first | (rw [← hR]; simp [nLoa, aS, aP, aT, nCo, gM, c4]; rw [upR_id]; exact zpm_id hm) | (rw [← hR]; simp [nLoa, aS, aP, aT, nCo, gM, c4]; rfl; done)
set_option maxRecDepth 4000 in
theorem kX4_setEnabled_ (γ : zG) (l : Launch) (n : Nat) (h : zH) (b : Nat) (μ : zS) (hm : zMd γ h b μ) (p w : Int32) (R : Int32 × (Nat → Int32)) (hR : nEna (μ 0) p w = R) : Con γ l (n + 2) 0 0 MX4_setEnabled [.ref b, .int p, .int w] h (some (.int R.1)) (zpm γ h b (upR μ 0 R.2)) := by
  refine Con.go (by decide +kernel) (Nat.le_of_ble_eq_true rfl) ⟨rfl, rfl, rfl, trivial⟩ ?_
  show Go _ 0 0 0 [some (.ref b), some (.int p), some (.int w)] [] _
  refine go_iload_n dX4_setEnabled_0 rfl ?_
  refine go_callSi dX4_setEnabled_1 moX4_isPort csX4_48 (kX4_isPort γ l _ _ _) rfl rfl (Nat.le_refl _) (Nat.zero_le _) (Nat.zero_le _) (Nat.le_of_ble_eq_true rfl) ?_
  refine go_if_ne (tgt := 9) dX4_setEnabled_4 (by decide) (fun c4 => ?_) (fun c4 => ?_)
  · replace c4 := zi_nz.mp c4
    refine go_iload_n dX4_setEnabled_9 rfl ?_
    refine go_if_ne (tgt := 30) dX4_setEnabled_10 (by decide) (fun c10 => ?_) (fun c10 => ?_)
    · refine go_aload_n dX4_setEnabled_30 rfl ?_
      refine go_iload_n dX4_setEnabled_31 rfl ?_
      refine go_iconst (v := 0) dX4_setEnabled_32 (by decide) ?_
      refine go_callSi dX4_setEnabled_33 moX4_at csX4_26 (kX4_at γ l _ _ _ _ (ix p) 0 (zn8 c4).1 rfl) rfl rfl (Nat.le_refl _) (Nat.zero_le _) (Nat.zero_le _) (Nat.le_of_ble_eq_true rfl) ?_
      refine go_iload_n dX4_setEnabled_36 rfl ?_
      refine go_if_eq (tgt := 44) dX4_setEnabled_37 (by decide) (fun c37 => absurd c37 (c10)) (fun c37 => ?_)
      refine go_iconst (v := 1) dX4_setEnabled_40 (by decide) ?_
      refine go_goto (tgt := 45) dX4_setEnabled_41 (by decide) ?_
      refine go_callVi (ci := 4) dX4_setEnabled_45 moX4_set cvX4_38 ⟨rfl, rfl⟩ (kX4_set γ l _ _ b μ hm _ _ (mi (ix p) 0) rfl (mi_lt (zn8 c4).2 (by decide))) (by first | exact hm 0 (by decide) | exact hm 1 (by decide) | exact zpm_is γ h b _ 0 (by decide) | exact zpm_is γ h b _ 1 (by decide)) rfl rfl (Nat.le_refl _) (Nat.zero_le _) (Nat.zero_le _) (Nat.le_of_ble_eq_true rfl) ?_
      refine go_iret dX4_setEnabled_48 rfl ?_ ?_ (Nat.zero_le _) (Nat.zero_le _)
      · rw [← hR]; simp [nEna, aP, c4, c10]; try rfl
      · (rw [← hR]; simp [nEna, aP, c4, c10]; rfl)
    · refine go_aload_n dX4_setEnabled_13 rfl ?_
      refine go_iload_n dX4_setEnabled_14 rfl ?_
      refine go_callVv (ci := 4) dX4_setEnabled_15 moX4_losePower cvX4_51 ⟨rfl, rfl⟩ (kX4_losePower γ l _ _ b μ hm _ (ix p) (zn8 c4).1 (zn8 c4).2) (by first | exact hm 0 (by decide) | exact hm 1 (by decide) | exact zpm_is γ h b _ 0 (by decide) | exact zpm_is γ h b _ 1 (by decide)) rfl rfl (Nat.le_refl _) (Nat.zero_le _) (Nat.zero_le _) (Nat.le_of_ble_eq_true rfl) ?_
      refine go_aload_n dX4_setEnabled_18 rfl ?_
      refine go_getf dX4_setEnabled_19 flX4_7 (by first | exact hm 0 (by decide) | exact hm 1 (by decide) | exact zpm_is γ h b _ 0 (by decide) | exact zpm_is γ h b _ 1 (by decide)) rfl ?_
      refine go_iload_n dX4_setEnabled_22 rfl ?_
      refine go_bipush (v := 10) dX4_setEnabled_23 (by decide) ?_
      refine go_callSi dX4_setEnabled_25 moX4_at csX4_26 (kX4_at γ l _ _ _ _ (ix p) 10 (zn8 c4).1 rfl) rfl rfl (Nat.le_refl _) (Nat.zero_le _) (Nat.zero_le _) (Nat.le_of_ble_eq_true rfl) ?_
      refine go_iconst (v := 0) dX4_setEnabled_28 (by decide) ?_
      refine go_iast dX4_setEnabled_29 (by first | exact hm 0 (by decide) | exact hm 1 (by decide) | exact zpm_is γ h b _ 0 (by decide) | exact zpm_is γ h b _ 1 (by decide)) (zix (n := 149) rfl (mi_lt (zn8 c4).2 (by decide)) (by decide)).1 (zix (n := 149) rfl (mi_lt (zn8 c4).2 (by decide)) (by decide)).2 ?_
      refine go_h zmo_0 ?_
      refine go_aload_n dX4_setEnabled_30 rfl ?_
      refine go_iload_n dX4_setEnabled_31 rfl ?_
      refine go_iconst (v := 0) dX4_setEnabled_32 (by decide) ?_
      refine go_callSi dX4_setEnabled_33 moX4_at csX4_26 (kX4_at γ l _ _ _ _ (ix p) 0 (zn8 c4).1 rfl) rfl rfl (Nat.le_refl _) (Nat.zero_le _) (Nat.zero_le _) (Nat.le_of_ble_eq_true rfl) ?_
      refine go_iload_n dX4_setEnabled_36 rfl ?_
      refine go_if_eq (tgt := 44) dX4_setEnabled_37 (by decide) (fun c37 => ?_) (fun c37 => absurd (c10) c37)
      refine go_iconst (v := 0) dX4_setEnabled_44 (by decide) ?_
      refine go_callVi (ci := 4) dX4_setEnabled_45 moX4_set cvX4_38 ⟨rfl, rfl⟩ (kX4_set γ l _ _ b (upR (upR μ 0 (nLose (μ 0) (ix p))) 0 (upd (nLose (μ 0) (ix p)) (mi (ix p) 10) 0)) (zpm_is γ h b _) _ _ (mi (ix p) 0) rfl (mi_lt (zn8 c4).2 (by decide))) (by first | exact hm 0 (by decide) | exact hm 1 (by decide) | exact zpm_is γ h b _ 0 (by decide) | exact zpm_is γ h b _ 1 (by decide)) rfl rfl (Nat.le_refl _) (Nat.zero_le _) (Nat.zero_le _) (Nat.le_of_ble_eq_true rfl) ?_
      refine go_iret dX4_setEnabled_48 rfl ?_ ?_ (Nat.zero_le _) (Nat.zero_le _)
      · rw [← hR]; simp [nEna, aP, c4, c10]; try rfl
      · (rw [← hR]; simp [nEna, aP, c4, c10]; rw [zpm_zpm, up2, upR_upR, upR_upR]; rfl)
  · replace c4 := zi_0.mp c4
    refine go_iconst (v := (-1)) dX4_setEnabled_7 (by decide) ?_
    refine go_iret dX4_setEnabled_8 rfl ?_ ?_ (Nat.zero_le _) (Nat.zero_le _)
    · rw [← hR]; simp [nEna, aP, c4]
    · (rw [← hR]; simp [nEna, aP, c4]; rw [upR_id]; exact zpm_id hm)
set_option maxRecDepth 4000 in
theorem kX4_request (γ : zG) (l : Launch) (n : Nat) (h : zH) (b : Nat) (μ : zS) (hm : zMd γ h b μ) (p : Int32) : Con γ l (n + 4) 0 0 MX4_request [.ref b, .int p] h (some (.int (nRqt (μ 0) p))) h := by
  refine Con.go (by decide +kernel) (Nat.le_of_ble_eq_true rfl) ⟨rfl, rfl, trivial⟩ ?_
  show Go _ 0 0 0 [some (.ref b), some (.int p)] [] _
  refine go_iload_n dX4_request_0 rfl ?_
  refine go_callSi dX4_request_1 moX4_isPort csX4_48 (kX4_isPort γ l _ _ _) rfl rfl (Nat.le_refl _) (Nat.zero_le _) (Nat.zero_le _) (Nat.le_of_ble_eq_true rfl) ?_
  refine go_if_ne (tgt := 11) dX4_request_4 (by decide) (fun c4 => ?_) (fun c4 => ?_)
  · replace c4 := zi_nz.mp c4
    refine go_aload_n dX4_request_11 rfl ?_
    refine go_iload_n dX4_request_12 rfl ?_
    refine go_callVi (ci := 4) dX4_request_13 moX4_classOf cvX4_68 ⟨rfl, rfl⟩ (kX4_classOf γ l _ _ b μ hm _ (ix p) (zn8 c4).1 (zn8 c4).2) (by first | exact hm 0 (by decide) | exact hm 1 (by decide)) rfl rfl (Nat.le_refl _) (Nat.zero_le _) (Nat.zero_le _) (Nat.le_of_ble_eq_true rfl) ?_
    refine go_if_ge (tgt := 24) dX4_request_16 (by decide) (fun c16 => ?_) (fun c16 => ?_)
    · refine go_aload_n dX4_request_24 rfl ?_
      refine go_iload_n dX4_request_25 rfl ?_
      refine go_bipush (v := 7) dX4_request_26 (by decide) ?_
      refine go_callVi (ci := 4) dX4_request_28 moX4_of cvX4_45 ⟨rfl, rfl⟩ (kX4_of γ l _ _ b μ hm _ _ (ix p) 7 (zn8 c4).1 rfl (mi_lt (zn8 c4).2 (by decide))) (by first | exact hm 0 (by decide) | exact hm 1 (by decide)) rfl rfl (Nat.le_refl _) (Nat.zero_le _) (Nat.zero_le _) (Nat.le_of_ble_eq_true rfl) ?_
      refine go_iret dX4_request_31 rfl ?_ ?_ (Nat.zero_le _) (Nat.zero_le _)
      · simp [nRqt, aP, -Int32.not_le, -Int32.not_lt, c4, c16]
      · rfl
    · refine go_bipush (v := (-6)) dX4_request_19 (by decide) ?_
      refine go_goto (tgt := 31) dX4_request_21 (by decide) ?_
      refine go_iret dX4_request_31 rfl ?_ ?_ (Nat.zero_le _) (Nat.zero_le _)
      · simp [nRqt, aP, -Int32.not_le, -Int32.not_lt, c4, c16]
      · rfl
  · replace c4 := zi_0.mp c4
    refine go_iconst (v := (-1)) dX4_request_7 (by decide) ?_
    refine go_goto (tgt := 31) dX4_request_8 (by decide) ?_
    refine go_iret dX4_request_31 rfl ?_ ?_ (Nat.zero_le _) (Nat.zero_le _)
    · simp [nRqt, aP, -Int32.not_le, -Int32.not_lt, c4]
    · rfl
end
section
/-! PoeSwitchModel: connect, disconnect, setRequest, events -/
theorem zmo_00 {γ : zG} {h : zH} {b : Nat} {μ : zS} {f g : Nat → Int32} : zu (zpm γ h b (upR μ 0 f)) (b + 1) (zai γ 149 g) = zpm γ h b (upR μ 0 g) := by rw [zmo_0, upR_upR]
set_option maxRecDepth 4000 in
theorem kX4_connect_ (γ : zG) (l : Launch) (n : Nat) (h : zH) (b : Nat) (μ : zS) (hm : zMd γ h b μ) (p r c i w : Int32) (R : Int32 × (Nat → Int32)) (hR : nCon (μ 0) p r c i w = R) : Con γ l (n + 3) 0 0 MX4_connect [.ref b, .int p, .int r, .int c, .int i, .int w] h (some (.int R.1)) (zpm γ h b (upR μ 0 R.2)) := by
  refine Con.go (by decide +kernel) (Nat.le_of_ble_eq_true rfl) ⟨rfl, rfl, rfl, rfl, rfl, rfl, trivial⟩ ?_
  show Go _ 0 0 0 [some (.ref b), some (.int p), some (.int r), some (.int c), some (.int i), some (.int w), none] [] _
  refine go_iload_n dX4_connect_0 rfl ?_
  refine go_callSi dX4_connect_1 moX4_isPort csX4_48 (kX4_isPort γ l _ _ _) rfl rfl (Nat.le_refl _) (Nat.zero_le _) (Nat.zero_le _) (Nat.le_of_ble_eq_true rfl) ?_
  refine go_if_ne (tgt := 9) dX4_connect_4 (by decide) (fun c4 => ?_) (fun c4 => ?_)
  · replace c4 := zi_nz.mp c4
    refine go_iload_n dX4_connect_9 rfl ?_
    refine go_iconst (v := 1) dX4_connect_10 (by decide) ?_
    refine go_sipush (v := 999) dX4_connect_11 (by decide) ?_
    refine go_callSi dX4_connect_14 moX4_in csX4_30 (kX4_in γ l _ _ _ _ _) rfl rfl (Nat.le_refl _) (Nat.zero_le _) (Nat.zero_le _) (Nat.le_of_ble_eq_true rfl) ?_
    refine go_if_eq (tgt := 53) dX4_connect_17 (by decide) (fun c17 => ?_) (fun c17 => ?_)
    · replace c17 := zi_0.mp c17
      refine go_bipush (v := (-2)) dX4_connect_53 (by decide) ?_
      refine go_iret dX4_connect_55 rfl ?_ ?_ (Nat.zero_le _) (Nat.zero_le _)
      · rw [← hR]; simp [nCon, aP, nCo, gM, c4, c17]
      · first | (rw [← hR]; simp [nCon, aP, nCo, gM, c4, c17]; rw [upR_id]; exact zpm_id hm) | (rw [← hR]; simp only [nCon, aP, c4, c17, if_true, if_false, and_self, not_false_eq_true, not_true_eq_false]; done) | (rw [← hR]; simp [nCon, aP, nCo, gM, c4, c17]; rfl)
    · replace c17 := zi_nz.mp c17
      refine go_iload_n dX4_connect_20 rfl ?_
      refine go_iconst (v := 0) dX4_connect_21 (by decide) ?_
      refine go_bipush (v := 99) dX4_connect_22 (by decide) ?_
      refine go_callSi dX4_connect_24 moX4_in csX4_30 (kX4_in γ l _ _ _ _ _) rfl rfl (Nat.le_refl _) (Nat.zero_le _) (Nat.zero_le _) (Nat.le_of_ble_eq_true rfl) ?_
      refine go_if_eq (tgt := 53) dX4_connect_27 (by decide) (fun c27 => ?_) (fun c27 => ?_)
      · replace c27 := zi_0.mp c27
        refine go_bipush (v := (-2)) dX4_connect_53 (by decide) ?_
        refine go_iret dX4_connect_55 rfl ?_ ?_ (Nat.zero_le _) (Nat.zero_le _)
        · rw [← hR]; simp [nCon, aP, nCo, gM, c4, c17, c27]
        · first | (rw [← hR]; simp [nCon, aP, nCo, gM, c4, c17, c27]; rw [upR_id]; exact zpm_id hm) | (rw [← hR]; simp only [nCon, aP, c4, c17, c27, if_true, if_false, and_self, not_false_eq_true, not_true_eq_false]; done) | (rw [← hR]; simp [nCon, aP, nCo, gM, c4, c17, c27]; rfl)
      · replace c27 := zi_nz.mp c27
        refine go_iload dX4_connect_30 rfl ?_
        refine go_iconst (v := 0) dX4_connect_32 (by decide) ?_
        refine go_bipush (v := 60) dX4_connect_33 (by decide) ?_
        refine go_callSi dX4_connect_35 moX4_in csX4_30 (kX4_in γ l _ _ _ _ _) rfl rfl (Nat.le_refl _) (Nat.zero_le _) (Nat.zero_le _) (Nat.le_of_ble_eq_true rfl) ?_
        refine go_if_eq (tgt := 53) dX4_connect_38 (by decide) (fun c38 => ?_) (fun c38 => ?_)
        · replace c38 := zi_0.mp c38
          refine go_bipush (v := (-2)) dX4_connect_53 (by decide) ?_
          refine go_iret dX4_connect_55 rfl ?_ ?_ (Nat.zero_le _) (Nat.zero_le _)
          · rw [← hR]; simp [nCon, aP, nCo, gM, c4, c17, c27, c38]
          · first | (rw [← hR]; simp [nCon, aP, nCo, gM, c4, c17, c27, c38]; rw [upR_id]; exact zpm_id hm) | (rw [← hR]; simp only [nCon, aP, c4, c17, c27, c38, if_true, if_false, and_self, not_false_eq_true, not_true_eq_false]; done) | (rw [← hR]; simp [nCon, aP, nCo, gM, c4, c17, c27, c38]; rfl)
        · replace c38 := zi_nz.mp c38
          refine go_iload dX4_connect_41 rfl ?_
          refine go_iconst (v := 0) dX4_connect_43 (by decide) ?_
          refine go_sipush (v := 999) dX4_connect_44 (by decide) ?_
          refine go_callSi dX4_connect_47 moX4_in csX4_30 (kX4_in γ l _ _ _ _ _) rfl rfl (Nat.le_refl _) (Nat.zero_le _) (Nat.zero_le _) (Nat.le_of_ble_eq_true rfl) ?_
          refine go_if_ne (tgt := 56) dX4_connect_50 (by decide) (fun c50 => ?_) (fun c50 => ?_)
          · replace c50 := zi_nz.mp c50
            refine go_aload_n dX4_connect_56 rfl ?_
            refine go_iload_n dX4_connect_57 rfl ?_
            refine go_callVi (ci := 4) dX4_connect_58 moX4_isConnected cvX4_55 ⟨rfl, rfl⟩ (kX4_isConnected γ l _ _ b μ hm _ (ix p) (zn8 c4).1 (zn8 c4).2) (by first | exact hm 0 (by decide) | exact hm 1 (by decide) | exact zpm_is γ h b _ 0 (by decide) | exact zpm_is γ h b _ 1 (by decide)) rfl rfl (Nat.le_refl _) (Nat.zero_le _) (Nat.zero_le _) (Nat.le_of_ble_eq_true rfl) ?_
            refine go_if_eq (tgt := 67) dX4_connect_61 (by decide) (fun c61 => ?_) (fun c61 => ?_)
            · replace c61 := zi_0.mp c61
              refine go_iload dX4_connect_67 rfl ?_
              refine go_callSi dX4_connect_69 moX4_classBy csX4_58 (kX4_classBy γ l _ _ _) rfl rfl (Nat.le_refl _) (Nat.zero_le _) (Nat.zero_le _) (Nat.le_of_ble_eq_true rfl) ?_
              refine go_istore dX4_connect_72 (Nat.le_of_ble_eq_true rfl) ?_
              refine go_aload_n dX4_connect_74 rfl ?_
              refine go_getf dX4_connect_75 flX4_7 (by first | exact hm 0 (by decide) | exact hm 1 (by decide) | exact zpm_is γ h b _ 0 (by decide) | exact zpm_is γ h b _ 1 (by decide)) rfl ?_
              refine go_iload_n dX4_connect_78 rfl ?_
              refine go_iconst (v := 2) dX4_connect_79 (by decide) ?_
              refine go_callSi dX4_connect_80 moX4_at csX4_26 (kX4_at γ l _ _ _ _ (ix p) 2 (zn8 c4).1 rfl) rfl rfl (Nat.le_refl _) (Nat.zero_le _) (Nat.zero_le _) (Nat.le_of_ble_eq_true rfl) ?_
              refine go_iconst (v := 1) dX4_connect_83 (by decide) ?_
              refine go_iast dX4_connect_84 (by first | exact hm 0 (by decide) | exact hm 1 (by decide) | exact zpm_is γ h b _ 0 (by decide) | exact zpm_is γ h b _ 1 (by decide)) (zix (n := 149) rfl (mi_lt (zn8 c4).2 (by decide)) (by decide)).1 (zix (n := 149) rfl (mi_lt (zn8 c4).2 (by decide)) (by decide)).2 ?_
              refine go_h (zmo_r0 hm) ?_
              refine go_aload_n dX4_connect_85 rfl ?_
              refine go_getf dX4_connect_86 flX4_7 (by first | exact hm 0 (by decide) | exact hm 1 (by decide) | exact zpm_is γ h b _ 0 (by decide) | exact zpm_is γ h b _ 1 (by decide)) rfl ?_
              refine go_iload_n dX4_connect_89 rfl ?_
              refine go_iconst (v := 3) dX4_connect_90 (by decide) ?_
              refine go_callSi dX4_connect_91 moX4_at csX4_26 (kX4_at γ l _ _ _ _ (ix p) 3 (zn8 c4).1 rfl) rfl rfl (Nat.le_refl _) (Nat.zero_le _) (Nat.zero_le _) (Nat.le_of_ble_eq_true rfl) ?_
              refine go_iload_n dX4_connect_94 rfl ?_
              refine go_iast dX4_connect_95 (by first | exact hm 0 (by decide) | exact hm 1 (by decide) | exact zpm_is γ h b _ 0 (by decide) | exact zpm_is γ h b _ 1 (by decide)) (zix (n := 149) rfl (mi_lt (zn8 c4).2 (by decide)) (by decide)).1 (zix (n := 149) rfl (mi_lt (zn8 c4).2 (by decide)) (by decide)).2 ?_
              refine go_h zmo_00 ?_
              refine go_aload_n dX4_connect_96 rfl ?_
              refine go_getf dX4_connect_97 flX4_7 (by first | exact hm 0 (by decide) | exact hm 1 (by decide) | exact zpm_is γ h b _ 0 (by decide) | exact zpm_is γ h b _ 1 (by decide)) rfl ?_
              refine go_iload_n dX4_connect_100 rfl ?_
              refine go_iconst (v := 4) dX4_connect_101 (by decide) ?_
              refine go_callSi dX4_connect_102 moX4_at csX4_26 (kX4_at γ l _ _ _ _ (ix p) 4 (zn8 c4).1 rfl) rfl rfl (Nat.le_refl _) (Nat.zero_le _) (Nat.zero_le _) (Nat.le_of_ble_eq_true rfl) ?_
              refine go_iload_n dX4_connect_105 rfl ?_
              refine go_iast dX4_connect_106 (by first | exact hm 0 (by decide) | exact hm 1 (by decide) | exact zpm_is γ h b _ 0 (by decide) | exact zpm_is γ h b _ 1 (by decide)) (zix (n := 149) rfl (mi_lt (zn8 c4).2 (by decide)) (by decide)).1 (zix (n := 149) rfl (mi_lt (zn8 c4).2 (by decide)) (by decide)).2 ?_
              refine go_h zmo_00 ?_
              refine go_aload_n dX4_connect_107 rfl ?_
              refine go_getf dX4_connect_108 flX4_7 (by first | exact hm 0 (by decide) | exact hm 1 (by decide) | exact zpm_is γ h b _ 0 (by decide) | exact zpm_is γ h b _ 1 (by decide)) rfl ?_
              refine go_iload_n dX4_connect_111 rfl ?_
              refine go_iconst (v := 5) dX4_connect_112 (by decide) ?_
              refine go_callSi dX4_connect_113 moX4_at csX4_26 (kX4_at γ l _ _ _ _ (ix p) 5 (zn8 c4).1 rfl) rfl rfl (Nat.le_refl _) (Nat.zero_le _) (Nat.zero_le _) (Nat.le_of_ble_eq_true rfl) ?_
              refine go_iload dX4_connect_116 rfl ?_
              refine go_iast dX4_connect_118 (by first | exact hm 0 (by decide) | exact hm 1 (by decide) | exact zpm_is γ h b _ 0 (by decide) | exact zpm_is γ h b _ 1 (by decide)) (zix (n := 149) rfl (mi_lt (zn8 c4).2 (by decide)) (by decide)).1 (zix (n := 149) rfl (mi_lt (zn8 c4).2 (by decide)) (by decide)).2 ?_
              refine go_h zmo_00 ?_
              refine go_aload_n dX4_connect_119 rfl ?_
              refine go_getf dX4_connect_120 flX4_7 (by first | exact hm 0 (by decide) | exact hm 1 (by decide) | exact zpm_is γ h b _ 0 (by decide) | exact zpm_is γ h b _ 1 (by decide)) rfl ?_
              refine go_iload_n dX4_connect_123 rfl ?_
              refine go_bipush (v := 6) dX4_connect_124 (by decide) ?_
              refine go_callSi dX4_connect_126 moX4_at csX4_26 (kX4_at γ l _ _ _ _ (ix p) 6 (zn8 c4).1 rfl) rfl rfl (Nat.le_refl _) (Nat.zero_le _) (Nat.zero_le _) (Nat.le_of_ble_eq_true rfl) ?_
              refine go_iload dX4_connect_129 rfl ?_
              refine go_iast dX4_connect_131 (by first | exact hm 0 (by decide) | exact hm 1 (by decide) | exact zpm_is γ h b _ 0 (by decide) | exact zpm_is γ h b _ 1 (by decide)) (zix (n := 149) rfl (mi_lt (zn8 c4).2 (by decide)) (by decide)).1 (zix (n := 149) rfl (mi_lt (zn8 c4).2 (by decide)) (by decide)).2 ?_
              refine go_h zmo_00 ?_
              refine go_aload_n dX4_connect_132 rfl ?_
              refine go_getf dX4_connect_133 flX4_7 (by first | exact hm 0 (by decide) | exact hm 1 (by decide) | exact zpm_is γ h b _ 0 (by decide) | exact zpm_is γ h b _ 1 (by decide)) rfl ?_
              refine go_iload_n dX4_connect_136 rfl ?_
              refine go_bipush (v := 7) dX4_connect_137 (by decide) ?_
              refine go_callSi dX4_connect_139 moX4_at csX4_26 (kX4_at γ l _ _ _ _ (ix p) 7 (zn8 c4).1 rfl) rfl rfl (Nat.le_refl _) (Nat.zero_le _) (Nat.zero_le _) (Nat.le_of_ble_eq_true rfl) ?_
              refine go_iload dX4_connect_142 rfl ?_
              refine go_if_ge (tgt := 151) dX4_connect_144 (by decide) (fun c144 => ?_) (fun c144 => ?_)
              · refine go_iload dX4_connect_151 rfl ?_
                refine go_callSi dX4_connect_153 moX4_maximumOf csX4_62 (kX4_maximumOf γ l _ _ _) rfl rfl (Nat.le_refl _) (Nat.zero_le _) (Nat.zero_le _) (Nat.le_of_ble_eq_true rfl) ?_
                refine go_iast dX4_connect_156 (by first | exact hm 0 (by decide) | exact hm 1 (by decide) | exact zpm_is γ h b _ 0 (by decide) | exact zpm_is γ h b _ 1 (by decide)) (zix (n := 149) rfl (mi_lt (zn8 c4).2 (by decide)) (by decide)).1 (zix (n := 149) rfl (mi_lt (zn8 c4).2 (by decide)) (by decide)).2 ?_
                refine go_h zmo_00 ?_
                refine go_iload dX4_connect_157 rfl ?_
                refine go_iret dX4_connect_159 rfl ?_ ?_ (Nat.zero_le _) (Nat.zero_le _)
                · rw [← hR]; simp [nCon, aP, nCo, gM, c4, c17, c27, c38, c50, c61, c144]
                · first | (rw [← hR]; simp [nCon, aP, nCo, gM, c4, c17, c27, c38, c50, c61, c144]; rw [upR_id]; exact zpm_id hm) | (rw [← hR]; simp only [nCon, aP, c4, c17, c27, c38, c50, c61, c144, if_true, if_false, and_self, not_false_eq_true, not_true_eq_false]; done) | (rw [← hR]; simp [nCon, aP, nCo, gM, c4, c17, c27, c38, c50, c61, c144]; rfl)
              · refine go_iconst (v := 0) dX4_connect_147 (by decide) ?_
                refine go_goto (tgt := 156) dX4_connect_148 (by decide) ?_
                refine go_iast dX4_connect_156 (by first | exact hm 0 (by decide) | exact hm 1 (by decide) | exact zpm_is γ h b _ 0 (by decide) | exact zpm_is γ h b _ 1 (by decide)) (zix (n := 149) rfl (mi_lt (zn8 c4).2 (by decide)) (by decide)).1 (zix (n := 149) rfl (mi_lt (zn8 c4).2 (by decide)) (by decide)).2 ?_
                refine go_h zmo_00 ?_
                refine go_iload dX4_connect_157 rfl ?_
                refine go_iret dX4_connect_159 rfl ?_ ?_ (Nat.zero_le _) (Nat.zero_le _)
                · rw [← hR]; simp [nCon, aP, nCo, gM, c4, c17, c27, c38, c50, c61, c144]
                · first | (rw [← hR]; simp [nCon, aP, nCo, gM, c4, c17, c27, c38, c50, c61, c144]; rw [upR_id]; exact zpm_id hm) | (rw [← hR]; simp only [nCon, aP, c4, c17, c27, c38, c50, c61, c144, if_true, if_false, and_self, not_false_eq_true, not_true_eq_false]; done) | (rw [← hR]; simp [nCon, aP, nCo, gM, c4, c17, c27, c38, c50, c61, c144]; rfl)
            · replace c61 := zi_nz.mp c61
              refine go_bipush (v := (-3)) dX4_connect_64 (by decide) ?_
              refine go_iret dX4_connect_66 rfl ?_ ?_ (Nat.zero_le _) (Nat.zero_le _)
              · rw [← hR]; simp [nCon, aP, nCo, gM, c4, c17, c27, c38, c50, c61]
              · first | (rw [← hR]; simp [nCon, aP, nCo, gM, c4, c17, c27, c38, c50, c61]; rw [upR_id]; exact zpm_id hm) | (rw [← hR]; simp only [nCon, aP, c4, c17, c27, c38, c50, c61, if_true, if_false, and_self, not_false_eq_true, not_true_eq_false]; done) | (rw [← hR]; simp [nCon, aP, nCo, gM, c4, c17, c27, c38, c50, c61]; rfl)
          · replace c50 := zi_0.mp c50
            refine go_bipush (v := (-2)) dX4_connect_53 (by decide) ?_
            refine go_iret dX4_connect_55 rfl ?_ ?_ (Nat.zero_le _) (Nat.zero_le _)
            · rw [← hR]; simp [nCon, aP, nCo, gM, c4, c17, c27, c38, c50]
            · first | (rw [← hR]; simp [nCon, aP, nCo, gM, c4, c17, c27, c38, c50]; rw [upR_id]; exact zpm_id hm) | (rw [← hR]; simp only [nCon, aP, c4, c17, c27, c38, c50, if_true, if_false, and_self, not_false_eq_true, not_true_eq_false]; done) | (rw [← hR]; simp [nCon, aP, nCo, gM, c4, c17, c27, c38, c50]; rfl)
  · replace c4 := zi_0.mp c4
    refine go_iconst (v := (-1)) dX4_connect_7 (by decide) ?_
    refine go_iret dX4_connect_8 rfl ?_ ?_ (Nat.zero_le _) (Nat.zero_le _)
    · rw [← hR]; simp [nCon, aP, nCo, gM, c4]
    · first | (rw [← hR]; simp [nCon, aP, nCo, gM, c4]; rw [upR_id]; exact zpm_id hm) | (rw [← hR]; simp only [nCon, aP, c4, if_true, if_false, and_self, not_false_eq_true, not_true_eq_false]; done) | (rw [← hR]; simp [nCon, aP, nCo, gM, c4]; rfl)
theorem zgt7 {t m : Nat} (hk : t + (m + 1) = 6) : ¬ (7 : Int32) < nI (2 + t) := by
  have h1 : (7 : Int32) = nI 7 := rfl
  rw [h1]
  exact nI_nlt (by omega) (by omega)
set_option maxRecDepth 4000 in
theorem kX4_disconnect_ (γ : zG) (l : Launch) (n : Nat) (h : zH) (b : Nat) (μ : zS) (hm : zMd γ h b μ) (p : Int32) (R : Int32 × (Nat → Int32)) (hR : nDis (μ 0) p = R) : Con γ l (n + 3) 0 0 MX4_disconnect [.ref b, .int p] h (some (.int R.1)) (zpm γ h b (upR μ 0 R.2)) := by
  refine Con.go (by decide +kernel) (Nat.le_of_ble_eq_true rfl) ⟨rfl, rfl, trivial⟩ ?_
  show Go _ 0 0 0 [some (.ref b), some (.int p), none, none] [] _
  have mid : aP p → nCo (μ 0) (ix p) → ∀ v : Int32, v = zi (0 < gM (μ 0) (ix p) 8) → Go (γ, l, n + 3, (0, 0), MX4_disconnect, zF γ 0 0 (some (.int R.1)) (zpm γ h b (upR μ 0 R.2))) 0 0 33 [some (.ref b), some (.int p), none, none] [.int v] h := by
    intro c4 c14 v hv
    have loop : ∀ (m t : Nat), t + m = 6 → Go (γ, l, n + 3, (0, 0), MX4_disconnect, zF γ 0 0 (some (.int R.1)) (zpm γ h b (upR μ 0 R.2))) 0 0 41 [some (.ref b), some (.int p), some (.int v), some (.int (nI (2 + t)))] [] (zpm γ h b (upR μ 0 (nDz (nLose (μ 0) (ix p)) (ix p) t))) := by
      intro m
      induction m with
      | zero =>
        intro t hk
        have hkN : t = 6 := by omega
        subst hkN
        refine go_iload_n dX4_disconnect_41 rfl ?_
        refine go_bipush (v := 7) dX4_disconnect_42 (by decide) ?_
        refine go_icmp_gt (tgt := 64) dX4_disconnect_44 (by decide) (fun c44 => ?_) (fun c44 => absurd (by decide) c44)
        refine go_aload_n dX4_disconnect_64 rfl ?_
        refine go_getf dX4_disconnect_65 flX4_7 (by first | exact hm 0 (by decide) | exact hm 1 (by decide) | exact zpm_is γ h b _ 0 (by decide) | exact zpm_is γ h b _ 1 (by decide)) rfl ?_
        refine go_iload_n dX4_disconnect_68 rfl ?_
        refine go_bipush (v := 10) dX4_disconnect_69 (by decide) ?_
        refine go_callSi dX4_disconnect_71 moX4_at csX4_26 (kX4_at γ l _ _ _ _ (ix p) 10 (zn8 c4).1 rfl) rfl rfl (Nat.le_refl _) (Nat.zero_le _) (Nat.zero_le _) (Nat.le_of_ble_eq_true rfl) ?_
        refine go_iconst (v := 0) dX4_disconnect_74 (by decide) ?_
        refine go_iast dX4_disconnect_75 (by first | exact hm 0 (by decide) | exact hm 1 (by decide) | exact zpm_is γ h b _ 0 (by decide) | exact zpm_is γ h b _ 1 (by decide)) (zix (n := 149) rfl (mi_lt (zn8 c4).2 (by decide)) (by decide)).1 (zix (n := 149) rfl (mi_lt (zn8 c4).2 (by decide)) (by decide)).2 ?_
        refine go_h zmo_00 ?_
        refine go_iload_n dX4_disconnect_76 rfl ?_
        refine go_iret dX4_disconnect_77 rfl ?_ ?_ (Nat.zero_le _) (Nat.zero_le _)
        · rw [← hR, nDis, if_pos c4, if_pos c14, hv]
        · (rw [← hR, nDis, if_pos c4, if_pos c14]; rfl)
      | succ m ih =>
        intro t hk
        have hlt : t < 6 := by omega
        refine go_iload_n dX4_disconnect_41 rfl ?_
        refine go_bipush (v := 7) dX4_disconnect_42 (by decide) ?_
        refine go_icmp_gt (tgt := 64) dX4_disconnect_44 (by decide) (fun c44 => absurd c44 (zgt7 hk)) (fun c44 => ?_)
        refine go_aload_n dX4_disconnect_47 rfl ?_
        refine go_getf dX4_disconnect_48 flX4_7 (by first | exact hm 0 (by decide) | exact hm 1 (by decide) | exact zpm_is γ h b _ 0 (by decide) | exact zpm_is γ h b _ 1 (by decide)) rfl ?_
        refine go_iload_n dX4_disconnect_51 rfl ?_
        refine go_iload_n dX4_disconnect_52 rfl ?_
        refine go_callSi dX4_disconnect_53 moX4_at csX4_26 (kX4_at γ l _ _ _ _ (ix p) (2 + t) (zn8 c4).1 rfl) rfl rfl (Nat.le_refl _) (Nat.zero_le _) (Nat.zero_le _) (Nat.le_of_ble_eq_true rfl) ?_
        refine go_iconst (v := 0) dX4_disconnect_56 (by decide) ?_
        refine go_iast dX4_disconnect_57 (by first | exact hm 0 (by decide) | exact hm 1 (by decide) | exact zpm_is γ h b _ 0 (by decide) | exact zpm_is γ h b _ 1 (by decide)) (zix (n := 149) rfl (mi_lt (zn8 c4).2 (show 2 + t ≤ 10 by omega)) (by decide)).1 (zix (n := 149) rfl (mi_lt (zn8 c4).2 (show 2 + t ≤ 10 by omega)) (by decide)).2 ?_
        refine go_h zmo_00 ?_
        refine go_iinc dX4_disconnect_58 rfl (nI_1 (2 + t)) (Nat.le_of_ble_eq_true rfl) ?_
        refine go_goto (tgt := 41) dX4_disconnect_61 (by decide) ?_
        exact ih (t + 1) (by omega)
    refine go_istore_n dX4_disconnect_33 (Nat.le_of_ble_eq_true rfl) ?_
    refine go_aload_n dX4_disconnect_34 rfl ?_
    refine go_iload_n dX4_disconnect_35 rfl ?_
    refine go_callVv (ci := 4) dX4_disconnect_36 moX4_losePower cvX4_51 ⟨rfl, rfl⟩ (kX4_losePower γ l _ _ b μ hm _ (ix p) (zn8 c4).1 (zn8 c4).2) (by first | exact hm 0 (by decide) | exact hm 1 (by decide) | exact zpm_is γ h b _ 0 (by decide) | exact zpm_is γ h b _ 1 (by decide)) rfl rfl (Nat.le_refl _) (Nat.zero_le _) (Nat.zero_le _) (Nat.le_of_ble_eq_true rfl) ?_
    refine go_iconst (v := 2) dX4_disconnect_39 (by decide) ?_
    refine go_istore_n dX4_disconnect_40 (Nat.le_of_ble_eq_true rfl) ?_
    exact go_vl (loop 6 0 rfl) ⟨rfl, rfl, rfl, rfl, trivial⟩
  refine go_iload_n dX4_disconnect_0 rfl ?_
  refine go_callSi dX4_disconnect_1 moX4_isPort csX4_48 (kX4_isPort γ l _ _ _) rfl rfl (Nat.le_refl _) (Nat.zero_le _) (Nat.zero_le _) (Nat.le_of_ble_eq_true rfl) ?_
  refine go_if_ne (tgt := 9) dX4_disconnect_4 (by decide) (fun c4 => ?_) (fun c4 => ?_)
  · replace c4 := zi_nz.mp c4
    refine go_aload_n dX4_disconnect_9 rfl ?_
    refine go_iload_n dX4_disconnect_10 rfl ?_
    refine go_callVi (ci := 4) dX4_disconnect_11 moX4_isConnected cvX4_55 ⟨rfl, rfl⟩ (kX4_isConnected γ l _ _ b μ hm _ (ix p) (zn8 c4).1 (zn8 c4).2) (by first | exact hm 0 (by decide) | exact hm 1 (by decide) | exact zpm_is γ h b _ 0 (by decide) | exact zpm_is γ h b _ 1 (by decide)) rfl rfl (Nat.le_refl _) (Nat.zero_le _) (Nat.zero_le _) (Nat.le_of_ble_eq_true rfl) ?_
    refine go_if_ne (tgt := 20) dX4_disconnect_14 (by decide) (fun c14 => ?_) (fun c14 => ?_)
    · replace c14 := zi_nz.mp c14
      refine go_aload_n dX4_disconnect_20 rfl ?_
      refine go_iload_n dX4_disconnect_21 rfl ?_
      refine go_callVi (ci := 4) dX4_disconnect_22 moX4_isPowered cvX4_65 ⟨rfl, rfl⟩ (kX4_isPowered γ l _ _ b μ hm _ (ix p) (zn8 c4).1 (zn8 c4).2) (by first | exact hm 0 (by decide) | exact hm 1 (by decide) | exact zpm_is γ h b _ 0 (by decide) | exact zpm_is γ h b _ 1 (by decide)) rfl rfl (Nat.le_refl _) (Nat.zero_le _) (Nat.zero_le _) (Nat.le_of_ble_eq_true rfl) ?_
      refine go_if_eq (tgt := 32) dX4_disconnect_25 (by decide) (fun c25 => ?_) (fun c25 => ?_)
      · replace c25 := zi_0.mp c25
        refine go_iconst (v := 0) dX4_disconnect_32 (by decide) ?_
        exact mid c4 c14 0 (zi_f c25).symm
      · replace c25 := zi_nz.mp c25
        refine go_iconst (v := 1) dX4_disconnect_28 (by decide) ?_
        refine go_goto (tgt := 33) dX4_disconnect_29 (by decide) ?_
        exact mid c4 c14 1 (zi_t c25).symm
    · replace c14 := zi_0.mp c14
      refine go_bipush (v := (-3)) dX4_disconnect_17 (by decide) ?_
      refine go_iret dX4_disconnect_19 rfl ?_ ?_ (Nat.zero_le _) (Nat.zero_le _)
      · rw [← hR]; simp [nDis, aP, nCo, gM, c4, c14]
      · (rw [← hR]; simp [nDis, aP, nCo, gM, c4, c14]; rw [upR_id]; exact zpm_id hm)
  · replace c4 := zi_0.mp c4
    refine go_iconst (v := (-1)) dX4_disconnect_7 (by decide) ?_
    refine go_iret dX4_disconnect_8 rfl ?_ ?_ (Nat.zero_le _) (Nat.zero_le _)
    · rw [← hR]; simp [nDis, aP, nCo, gM, c4]
    · (rw [← hR]; simp [nDis, aP, nCo, gM, c4]; rw [upR_id]; exact zpm_id hm)
set_option maxRecDepth 4000 in
theorem kX4_setRequest_ (γ : zG) (l : Launch) (n : Nat) (h : zH) (b : Nat) (μ : zS) (hm : zMd γ h b μ) (p w : Int32) (R : Int32 × (Nat → Int32)) (hR : nReq (μ 0) p w = R) : Con γ l (n + 4) 0 0 MX4_setRequest [.ref b, .int p, .int w] h (some (.int R.1)) (zpm γ h b (upR μ 0 R.2)) := by
  refine Con.go (by decide +kernel) (Nat.le_of_ble_eq_true rfl) ⟨rfl, rfl, rfl, trivial⟩ ?_
  show Go _ 0 0 0 [some (.ref b), some (.int p), some (.int w), none] [] _
  refine go_iload_n dX4_setRequest_0 rfl ?_
  refine go_callSi dX4_setRequest_1 moX4_isPort csX4_48 (kX4_isPort γ l _ _ _) rfl rfl (Nat.le_refl _) (Nat.zero_le _) (Nat.zero_le _) (Nat.le_of_ble_eq_true rfl) ?_
  refine go_if_ne (tgt := 9) dX4_setRequest_4 (by decide) (fun c4 => ?_) (fun c4 => ?_)
  · replace c4 := zi_nz.mp c4
    refine go_aload_n dX4_setRequest_9 rfl ?_
    refine go_iload_n dX4_setRequest_10 rfl ?_
    refine go_callVi (ci := 4) dX4_setRequest_11 moX4_classOf cvX4_68 ⟨rfl, rfl⟩ (kX4_classOf γ l _ _ b μ hm _ (ix p) (zn8 c4).1 (zn8 c4).2) (by first | exact hm 0 (by decide) | exact hm 1 (by decide) | exact zpm_is γ h b _ 0 (by decide) | exact zpm_is γ h b _ 1 (by decide)) rfl rfl (Nat.le_refl _) (Nat.zero_le _) (Nat.zero_le _) (Nat.le_of_ble_eq_true rfl) ?_
    refine go_if_ge (tgt := 20) dX4_setRequest_14 (by decide) (fun c14 => ?_) (fun c14 => ?_)
    · refine go_iload_n dX4_setRequest_20 rfl ?_
      refine go_iconst (v := 1) dX4_setRequest_21 (by decide) ?_
      refine go_aload_n dX4_setRequest_22 rfl ?_
      refine go_iload_n dX4_setRequest_23 rfl ?_
      refine go_callVi (ci := 4) dX4_setRequest_24 moX4_classOf cvX4_68 ⟨rfl, rfl⟩ (kX4_classOf γ l _ _ b μ hm _ (ix p) (zn8 c4).1 (zn8 c4).2) (by first | exact hm 0 (by decide) | exact hm 1 (by decide) | exact zpm_is γ h b _ 0 (by decide) | exact zpm_is γ h b _ 1 (by decide)) rfl rfl (Nat.le_refl _) (Nat.zero_le _) (Nat.zero_le _) (Nat.le_of_ble_eq_true rfl) ?_
      refine go_callSi dX4_setRequest_27 moX4_maximumOf csX4_62 (kX4_maximumOf γ l _ _ _) rfl rfl (Nat.le_refl _) (Nat.zero_le _) (Nat.zero_le _) (Nat.le_of_ble_eq_true rfl) ?_
      refine go_callSi dX4_setRequest_30 moX4_in csX4_30 (kX4_in γ l _ _ _ _ _) rfl rfl (Nat.le_refl _) (Nat.zero_le _) (Nat.zero_le _) (Nat.le_of_ble_eq_true rfl) ?_
      refine go_if_ne (tgt := 39) dX4_setRequest_33 (by decide) (fun c33 => ?_) (fun c33 => ?_)
      · replace c33 := zi_nz.mp c33
        refine go_iload_n dX4_setRequest_39 rfl ?_
        refine go_aload_n dX4_setRequest_40 rfl ?_
        refine go_iload_n dX4_setRequest_41 rfl ?_
        refine go_bipush (v := 8) dX4_setRequest_42 (by decide) ?_
        refine go_callVi (ci := 4) dX4_setRequest_44 moX4_of cvX4_45 ⟨rfl, rfl⟩ (kX4_of γ l _ _ b μ hm _ _ (ix p) 8 (zn8 c4).1 rfl (mi_lt (zn8 c4).2 (by decide))) (by first | exact hm 0 (by decide) | exact hm 1 (by decide) | exact zpm_is γ h b _ 0 (by decide) | exact zpm_is γ h b _ 1 (by decide)) rfl rfl (Nat.le_refl _) (Nat.zero_le _) (Nat.zero_le _) (Nat.le_of_ble_eq_true rfl) ?_
        refine go_isub dX4_setRequest_47 ?_
        refine go_istore_n dX4_setRequest_48 (Nat.le_of_ble_eq_true rfl) ?_
        refine go_aload_n dX4_setRequest_49 rfl ?_
        refine go_iload_n dX4_setRequest_50 rfl ?_
        refine go_callVi (ci := 4) dX4_setRequest_51 moX4_isPowered cvX4_65 ⟨rfl, rfl⟩ (kX4_isPowered γ l _ _ b μ hm _ (ix p) (zn8 c4).1 (zn8 c4).2) (by first | exact hm 0 (by decide) | exact hm 1 (by decide) | exact zpm_is γ h b _ 0 (by decide) | exact zpm_is γ h b _ 1 (by decide)) rfl rfl (Nat.le_refl _) (Nat.zero_le _) (Nat.zero_le _) (Nat.le_of_ble_eq_true rfl) ?_
        refine go_if_eq (tgt := 72) dX4_setRequest_54 (by decide) (fun c54 => ?_) (fun c54 => ?_)
        · replace c54 := zi_0.mp c54
          try simp only [zle] at c58
          try simp only [zle] at c66
          refine go_aload_n dX4_setRequest_72 rfl ?_
          refine go_iload_n dX4_setRequest_73 rfl ?_
          refine go_callVi (ci := 4) dX4_setRequest_74 moX4_isPowered cvX4_65 ⟨rfl, rfl⟩ (kX4_isPowered γ l _ _ b μ hm _ (ix p) (zn8 c4).1 (zn8 c4).2) (by first | exact hm 0 (by decide) | exact hm 1 (by decide) | exact zpm_is γ h b _ 0 (by decide) | exact zpm_is γ h b _ 1 (by decide)) rfl rfl (Nat.le_refl _) (Nat.zero_le _) (Nat.zero_le _) (Nat.le_of_ble_eq_true rfl) ?_
          refine go_if_eq (tgt := 92) dX4_setRequest_77 (by decide) (fun c77 => ?_) (fun c77 => ?_)
          · replace c77 := zi_0.mp c77
            refine go_aload_n dX4_setRequest_92 rfl ?_
            refine go_iload_n dX4_setRequest_93 rfl ?_
            refine go_bipush (v := 7) dX4_setRequest_94 (by decide) ?_
            refine go_callSi dX4_setRequest_96 moX4_at csX4_26 (kX4_at γ l _ _ _ _ (ix p) 7 (zn8 c4).1 rfl) rfl rfl (Nat.le_refl _) (Nat.zero_le _) (Nat.zero_le _) (Nat.le_of_ble_eq_true rfl) ?_
            refine go_iload_n dX4_setRequest_99 rfl ?_
            refine go_callVi (ci := 4) dX4_setRequest_100 moX4_set cvX4_38 ⟨rfl, rfl⟩ (kX4_set γ l _ _ b μ hm _ _ (mi (ix p) 7) rfl (mi_lt (zn8 c4).2 (by decide))) (by first | exact hm 0 (by decide) | exact hm 1 (by decide) | exact zpm_is γ h b _ 0 (by decide) | exact zpm_is γ h b _ 1 (by decide)) rfl rfl (Nat.le_refl _) (Nat.zero_le _) (Nat.zero_le _) (Nat.le_of_ble_eq_true rfl) ?_
            refine go_iret dX4_setRequest_103 rfl ?_ ?_ (Nat.zero_le _) (Nat.zero_le _)
            · first | (exact absurd c77 c54) | (exact absurd c54 c77) | (rw [← hR]; simp [nReq, aP, gM, c4, c14, c33, c54, c77]; done) | (rw [← hR]; simp [nReq, aP, gM, c4, c14, c33, c54, c77]; rfl)
            · first | (exact absurd c77 c54) | (exact absurd c54 c77) | (rw [← hR]; simp [nReq, aP, gM, c4, c14, c33, c54, c77]; rw [upR_id]; exact zpm_id hm) | (rw [← hR]; simp [nReq, aP, gM, c4, c14, c33, c54, c77]; rw [zpm_zpm, up2, upR_upR]; rfl) | (rw [← hR]; simp [nReq, aP, gM, c4, c14, c33, c54, c77]; rfl)
          · replace c77 := zi_nz.mp c77
            refine go_aload_n dX4_setRequest_80 rfl ?_
            refine go_getf dX4_setRequest_81 flX4_7 (by first | exact hm 0 (by decide) | exact hm 1 (by decide) | exact zpm_is γ h b _ 0 (by decide) | exact zpm_is γ h b _ 1 (by decide)) rfl ?_
            refine go_iload_n dX4_setRequest_84 rfl ?_
            refine go_bipush (v := 8) dX4_setRequest_85 (by decide) ?_
            refine go_callSi dX4_setRequest_87 moX4_at csX4_26 (kX4_at γ l _ _ _ _ (ix p) 8 (zn8 c4).1 rfl) rfl rfl (Nat.le_refl _) (Nat.zero_le _) (Nat.zero_le _) (Nat.le_of_ble_eq_true rfl) ?_
            refine go_iload_n dX4_setRequest_90 rfl ?_
            refine go_iast dX4_setRequest_91 (by first | exact hm 0 (by decide) | exact hm 1 (by decide) | exact zpm_is γ h b _ 0 (by decide) | exact zpm_is γ h b _ 1 (by decide)) (zix (n := 149) rfl (mi_lt (zn8 c4).2 (by decide)) (by decide)).1 (zix (n := 149) rfl (mi_lt (zn8 c4).2 (by decide)) (by decide)).2 ?_
            refine go_h (zmo_r0 hm) ?_
            refine go_aload_n dX4_setRequest_92 rfl ?_
            refine go_iload_n dX4_setRequest_93 rfl ?_
            refine go_bipush (v := 7) dX4_setRequest_94 (by decide) ?_
            refine go_callSi dX4_setRequest_96 moX4_at csX4_26 (kX4_at γ l _ _ _ _ (ix p) 7 (zn8 c4).1 rfl) rfl rfl (Nat.le_refl _) (Nat.zero_le _) (Nat.zero_le _) (Nat.le_of_ble_eq_true rfl) ?_
            refine go_iload_n dX4_setRequest_99 rfl ?_
            refine go_callVi (ci := 4) dX4_setRequest_100 moX4_set cvX4_38 ⟨rfl, rfl⟩ (kX4_set γ l _ _ b (upR μ 0 (upd (μ 0) (mi (ix p) 8) w)) (zpm_is γ h b _) _ _ (mi (ix p) 7) rfl (mi_lt (zn8 c4).2 (by decide))) (by first | exact hm 0 (by decide) | exact hm 1 (by decide) | exact zpm_is γ h b _ 0 (by decide) | exact zpm_is γ h b _ 1 (by decide)) rfl rfl (Nat.le_refl _) (Nat.zero_le _) (Nat.zero_le _) (Nat.le_of_ble_eq_true rfl) ?_
            refine go_iret dX4_setRequest_103 rfl ?_ ?_ (Nat.zero_le _) (Nat.zero_le _)
            · first | (exact absurd c77 c54) | (exact absurd c54 c77) | (rw [← hR]; simp [nReq, aP, gM, c4, c14, c33, c54, c77]; done) | (rw [← hR]; simp [nReq, aP, gM, c4, c14, c33, c54, c77]; rfl)
            · first | (exact absurd c77 c54) | (exact absurd c54 c77) | (rw [← hR]; simp [nReq, aP, gM, c4, c14, c33, c54, c77]; rw [upR_id]; exact zpm_id hm) | (rw [← hR]; simp [nReq, aP, gM, c4, c14, c33, c54, c77]; rw [zpm_zpm, up2, upR_upR]; rfl) | (rw [← hR]; simp [nReq, aP, gM, c4, c14, c33, c54, c77]; rfl)
        · replace c54 := zi_nz.mp c54
          refine go_iload_n dX4_setRequest_57 rfl ?_
          refine go_if_le (tgt := 72) dX4_setRequest_58 (by decide) (fun c58 => ?_) (fun c58 => ?_)
          · try simp only [zle] at c58
            try simp only [zle] at c66
            refine go_aload_n dX4_setRequest_72 rfl ?_
            refine go_iload_n dX4_setRequest_73 rfl ?_
            refine go_callVi (ci := 4) dX4_setRequest_74 moX4_isPowered cvX4_65 ⟨rfl, rfl⟩ (kX4_isPowered γ l _ _ b μ hm _ (ix p) (zn8 c4).1 (zn8 c4).2) (by first | exact hm 0 (by decide) | exact hm 1 (by decide) | exact zpm_is γ h b _ 0 (by decide) | exact zpm_is γ h b _ 1 (by decide)) rfl rfl (Nat.le_refl _) (Nat.zero_le _) (Nat.zero_le _) (Nat.le_of_ble_eq_true rfl) ?_
            refine go_if_eq (tgt := 92) dX4_setRequest_77 (by decide) (fun c77 => ?_) (fun c77 => ?_)
            · replace c77 := zi_0.mp c77
              refine go_aload_n dX4_setRequest_92 rfl ?_
              refine go_iload_n dX4_setRequest_93 rfl ?_
              refine go_bipush (v := 7) dX4_setRequest_94 (by decide) ?_
              refine go_callSi dX4_setRequest_96 moX4_at csX4_26 (kX4_at γ l _ _ _ _ (ix p) 7 (zn8 c4).1 rfl) rfl rfl (Nat.le_refl _) (Nat.zero_le _) (Nat.zero_le _) (Nat.le_of_ble_eq_true rfl) ?_
              refine go_iload_n dX4_setRequest_99 rfl ?_
              refine go_callVi (ci := 4) dX4_setRequest_100 moX4_set cvX4_38 ⟨rfl, rfl⟩ (kX4_set γ l _ _ b μ hm _ _ (mi (ix p) 7) rfl (mi_lt (zn8 c4).2 (by decide))) (by first | exact hm 0 (by decide) | exact hm 1 (by decide) | exact zpm_is γ h b _ 0 (by decide) | exact zpm_is γ h b _ 1 (by decide)) rfl rfl (Nat.le_refl _) (Nat.zero_le _) (Nat.zero_le _) (Nat.le_of_ble_eq_true rfl) ?_
              refine go_iret dX4_setRequest_103 rfl ?_ ?_ (Nat.zero_le _) (Nat.zero_le _)
              · first | (exact absurd c77 c54) | (exact absurd c54 c77) | (rw [← hR]; simp [nReq, aP, gM, c4, c14, c33, c54, c58, c77]; done) | (rw [← hR]; simp [nReq, aP, gM, c4, c14, c33, c54, c58, c77]; rfl)
              · first | (exact absurd c77 c54) | (exact absurd c54 c77) | (rw [← hR]; simp [nReq, aP, gM, c4, c14, c33, c54, c58, c77]; rw [upR_id]; exact zpm_id hm) | (rw [← hR]; simp [nReq, aP, gM, c4, c14, c33, c54, c58, c77]; rw [zpm_zpm, up2, upR_upR]; rfl) | (rw [← hR]; simp [nReq, aP, gM, c4, c14, c33, c54, c58, c77]; rfl)
            · replace c77 := zi_nz.mp c77
              refine go_aload_n dX4_setRequest_80 rfl ?_
              refine go_getf dX4_setRequest_81 flX4_7 (by first | exact hm 0 (by decide) | exact hm 1 (by decide) | exact zpm_is γ h b _ 0 (by decide) | exact zpm_is γ h b _ 1 (by decide)) rfl ?_
              refine go_iload_n dX4_setRequest_84 rfl ?_
              refine go_bipush (v := 8) dX4_setRequest_85 (by decide) ?_
              refine go_callSi dX4_setRequest_87 moX4_at csX4_26 (kX4_at γ l _ _ _ _ (ix p) 8 (zn8 c4).1 rfl) rfl rfl (Nat.le_refl _) (Nat.zero_le _) (Nat.zero_le _) (Nat.le_of_ble_eq_true rfl) ?_
              refine go_iload_n dX4_setRequest_90 rfl ?_
              refine go_iast dX4_setRequest_91 (by first | exact hm 0 (by decide) | exact hm 1 (by decide) | exact zpm_is γ h b _ 0 (by decide) | exact zpm_is γ h b _ 1 (by decide)) (zix (n := 149) rfl (mi_lt (zn8 c4).2 (by decide)) (by decide)).1 (zix (n := 149) rfl (mi_lt (zn8 c4).2 (by decide)) (by decide)).2 ?_
              refine go_h (zmo_r0 hm) ?_
              refine go_aload_n dX4_setRequest_92 rfl ?_
              refine go_iload_n dX4_setRequest_93 rfl ?_
              refine go_bipush (v := 7) dX4_setRequest_94 (by decide) ?_
              refine go_callSi dX4_setRequest_96 moX4_at csX4_26 (kX4_at γ l _ _ _ _ (ix p) 7 (zn8 c4).1 rfl) rfl rfl (Nat.le_refl _) (Nat.zero_le _) (Nat.zero_le _) (Nat.le_of_ble_eq_true rfl) ?_
              refine go_iload_n dX4_setRequest_99 rfl ?_
              refine go_callVi (ci := 4) dX4_setRequest_100 moX4_set cvX4_38 ⟨rfl, rfl⟩ (kX4_set γ l _ _ b (upR μ 0 (upd (μ 0) (mi (ix p) 8) w)) (zpm_is γ h b _) _ _ (mi (ix p) 7) rfl (mi_lt (zn8 c4).2 (by decide))) (by first | exact hm 0 (by decide) | exact hm 1 (by decide) | exact zpm_is γ h b _ 0 (by decide) | exact zpm_is γ h b _ 1 (by decide)) rfl rfl (Nat.le_refl _) (Nat.zero_le _) (Nat.zero_le _) (Nat.le_of_ble_eq_true rfl) ?_
              refine go_iret dX4_setRequest_103 rfl ?_ ?_ (Nat.zero_le _) (Nat.zero_le _)
              · first | (exact absurd c77 c54) | (exact absurd c54 c77) | (rw [← hR]; simp [nReq, aP, gM, c4, c14, c33, c54, c58, c77]; done) | (rw [← hR]; simp [nReq, aP, gM, c4, c14, c33, c54, c58, c77]; rfl)
              · first | (exact absurd c77 c54) | (exact absurd c54 c77) | (rw [← hR]; simp [nReq, aP, gM, c4, c14, c33, c54, c58, c77]; rw [upR_id]; exact zpm_id hm) | (rw [← hR]; simp [nReq, aP, gM, c4, c14, c33, c54, c58, c77]; rw [zpm_zpm, up2, upR_upR]; rfl) | (rw [← hR]; simp [nReq, aP, gM, c4, c14, c33, c54, c58, c77]; rfl)
          · simp only [zle, Classical.not_not] at c58
            refine go_iload_n dX4_setRequest_61 rfl ?_
            refine go_aload_n dX4_setRequest_62 rfl ?_
            refine go_callVi (ci := 4) dX4_setRequest_63 moX4_available cvX4_71 ⟨rfl, rfl⟩ (kX4_available γ l _ _ b μ hm) (by first | exact hm 0 (by decide) | exact hm 1 (by decide) | exact zpm_is γ h b _ 0 (by decide) | exact zpm_is γ h b _ 1 (by decide)) rfl rfl (Nat.le_refl _) (Nat.zero_le _) (Nat.zero_le _) (Nat.le_of_ble_eq_true rfl) ?_
            refine go_icmp_le (tgt := 72) dX4_setRequest_66 (by decide) (fun c66 => ?_) (fun c66 => ?_)
            · try simp only [zle] at c58
              try simp only [zle] at c66
              refine go_aload_n dX4_setRequest_72 rfl ?_
              refine go_iload_n dX4_setRequest_73 rfl ?_
              refine go_callVi (ci := 4) dX4_setRequest_74 moX4_isPowered cvX4_65 ⟨rfl, rfl⟩ (kX4_isPowered γ l _ _ b μ hm _ (ix p) (zn8 c4).1 (zn8 c4).2) (by first | exact hm 0 (by decide) | exact hm 1 (by decide) | exact zpm_is γ h b _ 0 (by decide) | exact zpm_is γ h b _ 1 (by decide)) rfl rfl (Nat.le_refl _) (Nat.zero_le _) (Nat.zero_le _) (Nat.le_of_ble_eq_true rfl) ?_
              refine go_if_eq (tgt := 92) dX4_setRequest_77 (by decide) (fun c77 => ?_) (fun c77 => ?_)
              · replace c77 := zi_0.mp c77
                refine go_aload_n dX4_setRequest_92 rfl ?_
                refine go_iload_n dX4_setRequest_93 rfl ?_
                refine go_bipush (v := 7) dX4_setRequest_94 (by decide) ?_
                refine go_callSi dX4_setRequest_96 moX4_at csX4_26 (kX4_at γ l _ _ _ _ (ix p) 7 (zn8 c4).1 rfl) rfl rfl (Nat.le_refl _) (Nat.zero_le _) (Nat.zero_le _) (Nat.le_of_ble_eq_true rfl) ?_
                refine go_iload_n dX4_setRequest_99 rfl ?_
                refine go_callVi (ci := 4) dX4_setRequest_100 moX4_set cvX4_38 ⟨rfl, rfl⟩ (kX4_set γ l _ _ b μ hm _ _ (mi (ix p) 7) rfl (mi_lt (zn8 c4).2 (by decide))) (by first | exact hm 0 (by decide) | exact hm 1 (by decide) | exact zpm_is γ h b _ 0 (by decide) | exact zpm_is γ h b _ 1 (by decide)) rfl rfl (Nat.le_refl _) (Nat.zero_le _) (Nat.zero_le _) (Nat.le_of_ble_eq_true rfl) ?_
                refine go_iret dX4_setRequest_103 rfl ?_ ?_ (Nat.zero_le _) (Nat.zero_le _)
                · first | (exact absurd c77 c54) | (exact absurd c54 c77) | (rw [← hR]; simp [nReq, aP, gM, c4, c14, c33, c54, c58, c66, c77]; done) | (rw [← hR]; simp [nReq, aP, gM, c4, c14, c33, c54, c58, c66, c77]; rfl)
                · first | (exact absurd c77 c54) | (exact absurd c54 c77) | (rw [← hR]; simp [nReq, aP, gM, c4, c14, c33, c54, c58, c66, c77]; rw [upR_id]; exact zpm_id hm) | (rw [← hR]; simp [nReq, aP, gM, c4, c14, c33, c54, c58, c66, c77]; rw [zpm_zpm, up2, upR_upR]; rfl) | (rw [← hR]; simp [nReq, aP, gM, c4, c14, c33, c54, c58, c66, c77]; rfl)
              · replace c77 := zi_nz.mp c77
                refine go_aload_n dX4_setRequest_80 rfl ?_
                refine go_getf dX4_setRequest_81 flX4_7 (by first | exact hm 0 (by decide) | exact hm 1 (by decide) | exact zpm_is γ h b _ 0 (by decide) | exact zpm_is γ h b _ 1 (by decide)) rfl ?_
                refine go_iload_n dX4_setRequest_84 rfl ?_
                refine go_bipush (v := 8) dX4_setRequest_85 (by decide) ?_
                refine go_callSi dX4_setRequest_87 moX4_at csX4_26 (kX4_at γ l _ _ _ _ (ix p) 8 (zn8 c4).1 rfl) rfl rfl (Nat.le_refl _) (Nat.zero_le _) (Nat.zero_le _) (Nat.le_of_ble_eq_true rfl) ?_
                refine go_iload_n dX4_setRequest_90 rfl ?_
                refine go_iast dX4_setRequest_91 (by first | exact hm 0 (by decide) | exact hm 1 (by decide) | exact zpm_is γ h b _ 0 (by decide) | exact zpm_is γ h b _ 1 (by decide)) (zix (n := 149) rfl (mi_lt (zn8 c4).2 (by decide)) (by decide)).1 (zix (n := 149) rfl (mi_lt (zn8 c4).2 (by decide)) (by decide)).2 ?_
                refine go_h (zmo_r0 hm) ?_
                refine go_aload_n dX4_setRequest_92 rfl ?_
                refine go_iload_n dX4_setRequest_93 rfl ?_
                refine go_bipush (v := 7) dX4_setRequest_94 (by decide) ?_
                refine go_callSi dX4_setRequest_96 moX4_at csX4_26 (kX4_at γ l _ _ _ _ (ix p) 7 (zn8 c4).1 rfl) rfl rfl (Nat.le_refl _) (Nat.zero_le _) (Nat.zero_le _) (Nat.le_of_ble_eq_true rfl) ?_
                refine go_iload_n dX4_setRequest_99 rfl ?_
                refine go_callVi (ci := 4) dX4_setRequest_100 moX4_set cvX4_38 ⟨rfl, rfl⟩ (kX4_set γ l _ _ b (upR μ 0 (upd (μ 0) (mi (ix p) 8) w)) (zpm_is γ h b _) _ _ (mi (ix p) 7) rfl (mi_lt (zn8 c4).2 (by decide))) (by first | exact hm 0 (by decide) | exact hm 1 (by decide) | exact zpm_is γ h b _ 0 (by decide) | exact zpm_is γ h b _ 1 (by decide)) rfl rfl (Nat.le_refl _) (Nat.zero_le _) (Nat.zero_le _) (Nat.le_of_ble_eq_true rfl) ?_
                refine go_iret dX4_setRequest_103 rfl ?_ ?_ (Nat.zero_le _) (Nat.zero_le _)
                · first | (exact absurd c77 c54) | (exact absurd c54 c77) | (rw [← hR]; simp [nReq, aP, gM, c4, c14, c33, c54, c58, c66, c77]; done) | (rw [← hR]; simp [nReq, aP, gM, c4, c14, c33, c54, c58, c66, c77]; rfl)
                · first | (exact absurd c77 c54) | (exact absurd c54 c77) | (rw [← hR]; simp [nReq, aP, gM, c4, c14, c33, c54, c58, c66, c77]; rw [upR_id]; exact zpm_id hm) | (rw [← hR]; simp [nReq, aP, gM, c4, c14, c33, c54, c58, c66, c77]; rw [zpm_zpm, up2, upR_upR]; rfl) | (rw [← hR]; simp [nReq, aP, gM, c4, c14, c33, c54, c58, c66, c77]; rfl)
            · simp only [zle, Classical.not_not] at c66
              refine go_bipush (v := (-5)) dX4_setRequest_69 (by decide) ?_
              refine go_iret dX4_setRequest_71 rfl ?_ ?_ (Nat.zero_le _) (Nat.zero_le _)
              · first | (rw [← hR]; simp [nReq, aP, gM, c4, c14, c33, c54, c58, c66]; done) | (rw [← hR]; simp [nReq, aP, gM, c4, c14, c33, c54, c58, c66]; rfl)
              · first | (rw [← hR]; simp [nReq, aP, gM, c4, c14, c33, c54, c58, c66]; rw [upR_id]; exact zpm_id hm) | (rw [← hR]; simp [nReq, aP, gM, c4, c14, c33, c54, c58, c66]; rfl)
      · replace c33 := zi_0.mp c33
        refine go_bipush (v := (-2)) dX4_setRequest_36 (by decide) ?_
        refine go_iret dX4_setRequest_38 rfl ?_ ?_ (Nat.zero_le _) (Nat.zero_le _)
        · first | (rw [← hR]; simp [nReq, aP, gM, c4, c14, c33]; done) | (rw [← hR]; simp [nReq, aP, gM, c4, c14, c33]; rfl)
        · first | (rw [← hR]; simp [nReq, aP, gM, c4, c14, c33]; rw [upR_id]; exact zpm_id hm) | (rw [← hR]; simp [nReq, aP, gM, c4, c14, c33]; rfl)
    · refine go_bipush (v := (-3)) dX4_setRequest_17 (by decide) ?_
      refine go_iret dX4_setRequest_19 rfl ?_ ?_ (Nat.zero_le _) (Nat.zero_le _)
      · first | (rw [← hR]; simp [nReq, aP, gM, c4, c14]; done) | (rw [← hR]; simp [nReq, aP, gM, c4, c14]; rfl)
      · first | (rw [← hR]; simp [nReq, aP, gM, c4, c14]; rw [upR_id]; exact zpm_id hm) | (rw [← hR]; simp [nReq, aP, gM, c4, c14]; rfl)
  · replace c4 := zi_0.mp c4
    refine go_iconst (v := (-1)) dX4_setRequest_7 (by decide) ?_
    refine go_iret dX4_setRequest_8 rfl ?_ ?_ (Nat.zero_le _) (Nat.zero_le _)
    · first | (rw [← hR]; simp [nReq, aP, gM, c4]; done) | (rw [← hR]; simp [nReq, aP, gM, c4]; rfl)
    · first | (rw [← hR]; simp [nReq, aP, gM, c4]; rw [upR_id]; exact zpm_id hm) | (rw [← hR]; simp [nReq, aP, gM, c4]; rfl)
end
section
/-! PoeSwitchModel: the log, the order, shedding -/
def nOf (M : Nat → Int32) (k : Nat) (i : Int32) : Int32 := if 0 ≤ i ∧ i ≤ M 12 - 1 then M (13 + 3 * ix i + k) else -1
theorem nev {M : Nat → Int32} {i : Int32} {c k : Nat} (hc : M 12 = nI c) (h16 : c ≤ 16) (hk : k < 3) (hi : 0 ≤ i ∧ i ≤ M 12 - 1) : (13 : Int32) + 3 * i + nI k = nI (13 + 3 * ix i + k) ∧ 13 + 3 * ix i + k < 149 ∧ i = nI (ix i) ∧ ix i < c := by
  rw [hc] at hi
  have hn : ¬ i < 0 := zle.mp hi.1
  obtain ⟨j, hj, e⟩ := nI_of hn
  have hcj : ix i = j := by rw [e]; exact nI_clamp hj
  rw [hcj]
  have hjc : j < c := by
    have h2 := Int32.le_iff_toInt_le.mp hi.2
    rw [e, nI_toInt hj] at h2
    cases c with
    | zero =>
      have : (nI 0 - 1).toInt = -1 := by decide
      omega
    | succ c =>
      rw [nI_pred, nI_toInt (by omega)] at h2
      omega
  refine ⟨?_, by omega, e, hjc⟩
  rw [e, show (3 : Int32) = nI 3 from rfl, show (13 : Int32) = nI 13 from rfl, pk_mul, nI_add, nI_add]
set_option maxRecDepth 4000 in
theorem kX4_ofEvent (γ : zG) (l : Launch) (n : Nat) (h : zH) (b : Nat) (μ : zS) (hm : zMd γ h b μ) (c : Nat) (hc : μ 0 12 = nI c) (h16 : c ≤ 16) (i w : Int32) (k : Nat) (hw : w = nI k) (hk : k < 3) : Con γ l (n + 1) 0 0 MX4_ofEvent [.ref b, .int i, .int w] h (some (.int (nOf (μ 0) k i))) h := by
  refine Con.go (by decide +kernel) (Nat.le_of_ble_eq_true rfl) ⟨rfl, rfl, rfl, trivial⟩ ?_
  show Go _ 0 0 0 [some (.ref b), some (.int i), some (.int w)] [] _
  subst hw
  refine go_iload_n dX4_ofEvent_0 rfl ?_
  refine go_iconst (v := 0) dX4_ofEvent_1 (by decide) ?_
  refine go_aload_n dX4_ofEvent_2 rfl ?_
  refine go_getf dX4_ofEvent_3 flX4_7 (by first | exact hm 0 (by decide) | exact hm 1 (by decide)) rfl ?_
  refine go_bipush (v := 12) dX4_ofEvent_6 (by decide) ?_
  refine go_iald dX4_ofEvent_8 (by first | exact hm 0 (by decide) | exact hm 1 (by decide)) (by unfold vp_in; decide) rfl ?_
  refine go_iconst (v := 1) dX4_ofEvent_9 (by decide) ?_
  refine go_isub dX4_ofEvent_10 ?_
  refine go_callSi dX4_ofEvent_11 moX4_in csX4_30 (kX4_in γ l _ _ _ _ _) rfl rfl (Nat.le_refl _) (Nat.zero_le _) (Nat.zero_le _) (Nat.le_of_ble_eq_true rfl) ?_
  refine go_if_eq (tgt := 33) dX4_ofEvent_14 (by decide) (fun c14 => ?_) (fun c14 => ?_)
  · replace c14 := zi_0.mp c14
    refine go_iconst (v := (-1)) dX4_ofEvent_33 (by decide) ?_
    refine go_iret dX4_ofEvent_34 rfl ?_ ?_ (Nat.zero_le _) (Nat.zero_le _)
    · first | exact congrArg (fun v => some (Value.int v)) (if_pos c14) | exact congrArg (fun v => some (Value.int v)) (if_neg c14)
    · rfl
  · replace c14 := zi_nz.mp c14
    skip
    refine go_aload_n dX4_ofEvent_17 rfl ?_
    refine go_getf dX4_ofEvent_18 flX4_7 (by first | exact hm 0 (by decide) | exact hm 1 (by decide)) rfl ?_
    refine go_bipush (v := 13) dX4_ofEvent_21 (by decide) ?_
    refine go_iconst (v := 3) dX4_ofEvent_23 (by decide) ?_
    refine go_iload_n dX4_ofEvent_24 rfl ?_
    refine go_imul dX4_ofEvent_25 ?_
    refine go_iadd dX4_ofEvent_26 ?_
    refine go_iload_n dX4_ofEvent_27 rfl ?_
    refine go_iadd dX4_ofEvent_28 ?_
    refine go_iald dX4_ofEvent_29 (by first | exact hm 0 (by decide) | exact hm 1 (by decide)) (zix (n := 149) (nev hc h16 hk c14).1 (nev hc h16 hk c14).2.1 (by decide)).1 (zix (n := 149) (nev hc h16 hk c14).1 (nev hc h16 hk c14).2.1 (by decide)).2 ?_
    refine go_goto (tgt := 34) dX4_ofEvent_30 (by decide) ?_
    refine go_iret dX4_ofEvent_34 rfl ?_ ?_ (Nat.zero_le _) (Nat.zero_le _)
    · first | exact congrArg (fun v => some (Value.int v)) (if_pos c14) | exact congrArg (fun v => some (Value.int v)) (if_neg c14)
    · rfl
set_option maxRecDepth 4000 in
theorem kX4_eventTime (γ : zG) (l : Launch) (n : Nat) (h : zH) (b : Nat) (μ : zS) (hm : zMd γ h b μ) (c : Nat) (hc : μ 0 12 = nI c) (h16 : c ≤ 16) (i : Int32) : Con γ l (n + 2) 0 0 MX4_eventTime [.ref b, .int i] h (some (.int (nOf (μ 0) 0 i))) h := by
  refine Con.go (by decide +kernel) (Nat.le_of_ble_eq_true rfl) ⟨rfl, rfl, trivial⟩ ?_
  show Go _ 0 0 0 [some (.ref b), some (.int i)] [] _
  refine go_aload_n dX4_eventTime_0 rfl ?_
  refine go_iload_n dX4_eventTime_1 rfl ?_
  refine go_iconst (v := 0) dX4_eventTime_2 (by decide) ?_
  refine go_callVi (ci := 4) dX4_eventTime_3 moX4_ofEvent cvX4_109 ⟨rfl, rfl⟩ (kX4_ofEvent γ l _ _ b μ hm c hc h16 _ _ 0 rfl (by decide)) (by first | exact hm 0 (by decide) | exact hm 1 (by decide)) rfl rfl (Nat.le_refl _) (Nat.zero_le _) (Nat.zero_le _) (Nat.le_of_ble_eq_true rfl) ?_
  refine go_iret dX4_eventTime_6 rfl ?_ ?_ (Nat.zero_le _) (Nat.zero_le _)
  · rfl
  · rfl
set_option maxRecDepth 4000 in
theorem kX4_eventPort (γ : zG) (l : Launch) (n : Nat) (h : zH) (b : Nat) (μ : zS) (hm : zMd γ h b μ) (c : Nat) (hc : μ 0 12 = nI c) (h16 : c ≤ 16) (i : Int32) : Con γ l (n + 2) 0 0 MX4_eventPort [.ref b, .int i] h (some (.int (nOf (μ 0) 1 i))) h := by
  refine Con.go (by decide +kernel) (Nat.le_of_ble_eq_true rfl) ⟨rfl, rfl, trivial⟩ ?_
  show Go _ 0 0 0 [some (.ref b), some (.int i)] [] _
  refine go_aload_n dX4_eventPort_0 rfl ?_
  refine go_iload_n dX4_eventPort_1 rfl ?_
  refine go_iconst (v := 1) dX4_eventPort_2 (by decide) ?_
  refine go_callVi (ci := 4) dX4_eventPort_3 moX4_ofEvent cvX4_109 ⟨rfl, rfl⟩ (kX4_ofEvent γ l _ _ b μ hm c hc h16 _ _ 1 rfl (by decide)) (by first | exact hm 0 (by decide) | exact hm 1 (by decide)) rfl rfl (Nat.le_refl _) (Nat.zero_le _) (Nat.zero_le _) (Nat.le_of_ble_eq_true rfl) ?_
  refine go_iret dX4_eventPort_6 rfl ?_ ?_ (Nat.zero_le _) (Nat.zero_le _)
  · rfl
  · rfl
set_option maxRecDepth 4000 in
theorem kX4_eventKind (γ : zG) (l : Launch) (n : Nat) (h : zH) (b : Nat) (μ : zS) (hm : zMd γ h b μ) (c : Nat) (hc : μ 0 12 = nI c) (h16 : c ≤ 16) (i : Int32) : Con γ l (n + 2) 0 0 MX4_eventKind [.ref b, .int i] h (some (.int (nOf (μ 0) 2 i))) h := by
  refine Con.go (by decide +kernel) (Nat.le_of_ble_eq_true rfl) ⟨rfl, rfl, trivial⟩ ?_
  show Go _ 0 0 0 [some (.ref b), some (.int i)] [] _
  refine go_aload_n dX4_eventKind_0 rfl ?_
  refine go_iload_n dX4_eventKind_1 rfl ?_
  refine go_iconst (v := 2) dX4_eventKind_2 (by decide) ?_
  refine go_callVi (ci := 4) dX4_eventKind_3 moX4_ofEvent cvX4_109 ⟨rfl, rfl⟩ (kX4_ofEvent γ l _ _ b μ hm c hc h16 _ _ 2 rfl (by decide)) (by first | exact hm 0 (by decide) | exact hm 1 (by decide)) rfl rfl (Nat.le_refl _) (Nat.zero_le _) (Nat.zero_le _) (Nat.le_of_ble_eq_true rfl) ?_
  refine go_iret dX4_eventKind_6 rfl ?_ ?_ (Nat.zero_le _) (Nat.zero_le _)
  · rfl
  · rfl
def nSf (M : Nat → Int32) (k : Nat) : Nat → Int32 := fun i => if 13 ≤ i ∧ i < 13 + k then M (i + 3) else M i
theorem nSf_s (M : Nat → Int32) (k : Nat) : upd (nSf M k) (13 + k) (nSf M k (13 + k + 3)) = nSf M (k + 1) := by
  funext i
  unfold upd nSf
  by_cases h1 : i = 13 + k
  · subst h1
    rw [if_pos rfl, if_neg (by omega), if_pos (by omega)]
  · rw [if_neg h1]
    by_cases h2 : 13 ≤ i ∧ i < 13 + k
    · rw [if_pos h2, if_pos (by omega)]
    · rw [if_neg h2, if_neg (by omega)]
theorem nSf_0 (M : Nat → Int32) : nSf M 0 = M := by
  funext i
  unfold nSf
  rw [if_neg (by omega)]
def nTl (M : Nat → Int32) (c : Nat) (p kd : Int32) : Nat → Int32 :=
  upd (upd (upd (upd M (13 + 3 * c) (M 11)) (13 + 3 * c + 1) p) (13 + 3 * c + 2) kd) 12 (upd (upd (upd M (13 + 3 * c) (M 11)) (13 + 3 * c + 1) p) (13 + 3 * c + 2) kd 12 + 1)
def nAdd (M : Nat → Int32) (c : Nat) (p kd : Int32) : Nat → Int32 := if c = 16 then nTl (upd (nSf M 45) 12 (nSf M 45 12 - 1)) 15 p kd else nTl M c p kd
def nOc (μ : zS) : zS := upR μ 5 (upd (μ 5) 0 (μ 5 0 + 1))
def nEv (μ : zS) (c : Nat) (p kd : Int32) : zS := upR (nOc μ) 0 (nAdd (μ 0) c p kd)
theorem zge45 {k m : Nat} (hk : k + (m + 1) = 45) : ¬ (45 : Int32) ≤ nI k := by
  have h1 : (45 : Int32) = nI 45 := rfl
  rw [h1]
  exact nI_ge (by omega) (by decide)
theorem n13k (k : Nat) : (13 : Int32) + nI k = nI (13 + k) := nI_add 13 k
theorem n13k3 (k : Nat) : (13 : Int32) + nI k + 3 = nI (13 + k + 3) := by rw [n13k]; exact nI_add (13 + k) 3
theorem n133c (c : Nat) : (13 : Int32) + 3 * nI c = nI (13 + 3 * c) := by rw [show (3 : Int32) = nI 3 from rfl, show (13 : Int32) = nI 13 from rfl, pk_mul, nI_add]
set_option maxRecDepth 4000 in
theorem kX4_addEvent (γ : zG) (l : Launch) (n : Nat) (h : zH) (b : Nat) (μ : zS) (hm : zMd γ h b μ) (c : Nat) (hc : μ 0 12 = nI c) (h16 : c ≤ 16) (p kd : Int32) : Con γ l (n) 0 0 MX4_addEvent [.ref b, .int p, .int kd] h none (zpm γ h b (nEv μ c p kd)) := by
  refine Con.go (by decide +kernel) (Nat.le_of_ble_eq_true rfl) ⟨rfl, rfl, rfl, trivial⟩ ?_
  show Go _ 0 0 0 [some (.ref b), some (.int p), some (.int kd), none] [] _
  have mid : ∀ (M : Nat → Int32) (q : Nat), M 12 = nI q → q < 16 → zpm γ h b (nEv μ c p kd) = zpm γ h b (upR (nOc μ) 0 (nTl M q p kd)) → Go (γ, l, n, (0, 0), MX4_addEvent, zF γ 0 0 none (zpm γ h b (nEv μ c p kd))) 0 0 67 [some (.ref b), some (.int p), some (.int kd), none] [] (zpm γ h b (upR (nOc μ) 0 M)) := by
    intro M q hq hq16 hf
    refine go_bipush (v := 13) dX4_addEvent_67 (by decide) ?_
    refine go_iconst (v := 3) dX4_addEvent_69 (by decide) ?_
    refine go_aload_n dX4_addEvent_70 rfl ?_
    refine go_getf dX4_addEvent_71 flX4_7 (by first | exact zpm_is γ h b _ 0 (by decide) | exact zpm_is γ h b _ 1 (by decide)) rfl ?_
    refine go_bipush (v := 12) dX4_addEvent_74 (by decide) ?_
    refine go_iald dX4_addEvent_76 (by first | exact zpm_is γ h b _ 0 (by decide) | exact zpm_is γ h b _ 1 (by decide)) (by unfold vp_in; decide) rfl ?_
    refine go_imul dX4_addEvent_77 ?_
    refine go_iadd dX4_addEvent_78 ?_
    refine go_at rfl (show [Value.int (13 + 3 * M 12)] = [Value.int (nI (13 + 3 * q))] by rw [hq, n133c]) rfl ?_
    refine go_istore_n dX4_addEvent_79 (Nat.le_of_ble_eq_true rfl) ?_
    refine go_aload_n dX4_addEvent_80 rfl ?_
    refine go_getf dX4_addEvent_81 flX4_7 (by first | exact zpm_is γ h b _ 0 (by decide) | exact zpm_is γ h b _ 1 (by decide)) rfl ?_
    refine go_iload_n dX4_addEvent_84 rfl ?_
    refine go_aload_n dX4_addEvent_85 rfl ?_
    refine go_getf dX4_addEvent_86 flX4_7 (by first | exact zpm_is γ h b _ 0 (by decide) | exact zpm_is γ h b _ 1 (by decide)) rfl ?_
    refine go_bipush (v := 11) dX4_addEvent_89 (by decide) ?_
    refine go_iald dX4_addEvent_91 (by first | exact zpm_is γ h b _ 0 (by decide) | exact zpm_is γ h b _ 1 (by decide)) (by unfold vp_in; decide) rfl ?_
    refine go_iast dX4_addEvent_92 (by first | exact zpm_is γ h b _ 0 (by decide) | exact zpm_is γ h b _ 1 (by decide)) (zix (n := 149) (rfl) (by omega) (by decide)).1 (zix (n := 149) (rfl) (by omega) (by decide)).2 ?_
    refine go_h zmo_00 ?_
    refine go_aload_n dX4_addEvent_93 rfl ?_
    refine go_getf dX4_addEvent_94 flX4_7 (by first | exact zpm_is γ h b _ 0 (by decide) | exact zpm_is γ h b _ 1 (by decide)) rfl ?_
    refine go_iload_n dX4_addEvent_97 rfl ?_
    refine go_iconst (v := 1) dX4_addEvent_98 (by decide) ?_
    refine go_iadd dX4_addEvent_99 ?_
    refine go_iload_n dX4_addEvent_100 rfl ?_
    refine go_iast dX4_addEvent_101 (by first | exact zpm_is γ h b _ 0 (by decide) | exact zpm_is γ h b _ 1 (by decide)) (zix (n := 149) (nI_1 (13 + 3 * q)) (by omega) (by decide)).1 (zix (n := 149) (nI_1 (13 + 3 * q)) (by omega) (by decide)).2 ?_
    refine go_h zmo_00 ?_
    refine go_aload_n dX4_addEvent_102 rfl ?_
    refine go_getf dX4_addEvent_103 flX4_7 (by first | exact zpm_is γ h b _ 0 (by decide) | exact zpm_is γ h b _ 1 (by decide)) rfl ?_
    refine go_iload_n dX4_addEvent_106 rfl ?_
    refine go_iconst (v := 2) dX4_addEvent_107 (by decide) ?_
    refine go_iadd dX4_addEvent_108 ?_
    refine go_iload_n dX4_addEvent_109 rfl ?_
    refine go_iast dX4_addEvent_110 (by first | exact zpm_is γ h b _ 0 (by decide) | exact zpm_is γ h b _ 1 (by decide)) (zix (n := 149) (nI_add (13 + 3 * q) 2) (by omega) (by decide)).1 (zix (n := 149) (nI_add (13 + 3 * q) 2) (by omega) (by decide)).2 ?_
    refine go_h zmo_00 ?_
    refine go_aload_n dX4_addEvent_111 rfl ?_
    refine go_getf dX4_addEvent_112 flX4_7 (by first | exact zpm_is γ h b _ 0 (by decide) | exact zpm_is γ h b _ 1 (by decide)) rfl ?_
    refine go_bipush (v := 12) dX4_addEvent_115 (by decide) ?_
    refine go_dup2 dX4_addEvent_117 rfl rfl ?_
    refine go_iald dX4_addEvent_118 (by first | exact zpm_is γ h b _ 0 (by decide) | exact zpm_is γ h b _ 1 (by decide)) (by unfold vp_in; decide) rfl ?_
    refine go_iconst (v := 1) dX4_addEvent_119 (by decide) ?_
    refine go_iadd dX4_addEvent_120 ?_
    refine go_iast dX4_addEvent_121 (by first | exact zpm_is γ h b _ 0 (by decide) | exact zpm_is γ h b _ 1 (by decide)) (by unfold vp_in; decide) rfl ?_
    refine go_h zmo_00 ?_
    refine go_vret dX4_addEvent_122 rfl rfl ?_ (Nat.zero_le _) (Nat.zero_le _)
    · (rw [hf]; rfl)
  have loop : c = 16 → ∀ (m k : Nat), k + m = 45 → Go (γ, l, n, (0, 0), MX4_addEvent, zF γ 0 0 none (zpm γ h b (nEv μ c p kd))) 0 0 24 [some (.ref b), some (.int p), some (.int kd), some (.int (nI k))] [] (zpm γ h b (upR (nOc μ) 0 (nSf (μ 0) k))) := by
    intro hc16
    intro m
    induction m with
    | zero =>
      intro k hk
      have hkN : k = 45 := by omega
      subst hkN
      refine go_iload_n dX4_addEvent_24 rfl ?_
      refine go_bipush (v := 45) dX4_addEvent_25 (by decide) ?_
      refine go_icmp_ge (tgt := 56) dX4_addEvent_27 (by decide) (fun c27 => ?_) (fun c27 => absurd (by decide) c27)
      refine go_aload_n dX4_addEvent_56 rfl ?_
      refine go_getf dX4_addEvent_57 flX4_7 (by first | exact zpm_is γ h b _ 0 (by decide) | exact zpm_is γ h b _ 1 (by decide)) rfl ?_
      refine go_bipush (v := 12) dX4_addEvent_60 (by decide) ?_
      refine go_dup2 dX4_addEvent_62 rfl rfl ?_
      refine go_iald dX4_addEvent_63 (by first | exact zpm_is γ h b _ 0 (by decide) | exact zpm_is γ h b _ 1 (by decide)) (by unfold vp_in; decide) rfl ?_
      refine go_iconst (v := 1) dX4_addEvent_64 (by decide) ?_
      refine go_isub dX4_addEvent_65 ?_
      refine go_iast dX4_addEvent_66 (by first | exact zpm_is γ h b _ 0 (by decide) | exact zpm_is γ h b _ 1 (by decide)) (by unfold vp_in; decide) rfl ?_
      refine go_h zmo_00 ?_
      exact go_vl (mid (upd (nSf (μ 0) 45) 12 (nSf (μ 0) 45 12 - 1)) 15 (by show μ 0 12 - 1 = _; rw [hc, hc16]; rfl) (by decide) (by rw [nEv, nAdd, if_pos hc16])) ⟨rfl, rfl, rfl, trivial⟩
    | succ m ih =>
      intro k hk
      have hlt : k < 45 := by omega
      refine go_iload_n dX4_addEvent_24 rfl ?_
      refine go_bipush (v := 45) dX4_addEvent_25 (by decide) ?_
      refine go_icmp_ge (tgt := 56) dX4_addEvent_27 (by decide) (fun c27 => absurd c27 (zge45 hk)) (fun c27 => ?_)
      refine go_aload_n dX4_addEvent_30 rfl ?_
      refine go_getf dX4_addEvent_31 flX4_7 (by first | exact zpm_is γ h b _ 0 (by decide) | exact zpm_is γ h b _ 1 (by decide)) rfl ?_
      refine go_bipush (v := 13) dX4_addEvent_34 (by decide) ?_
      refine go_iload_n dX4_addEvent_36 rfl ?_
      refine go_iadd dX4_addEvent_37 ?_
      refine go_aload_n dX4_addEvent_38 rfl ?_
      refine go_getf dX4_addEvent_39 flX4_7 (by first | exact zpm_is γ h b _ 0 (by decide) | exact zpm_is γ h b _ 1 (by decide)) rfl ?_
      refine go_bipush (v := 13) dX4_addEvent_42 (by decide) ?_
      refine go_iload_n dX4_addEvent_44 rfl ?_
      refine go_iadd dX4_addEvent_45 ?_
      refine go_iconst (v := 3) dX4_addEvent_46 (by decide) ?_
      refine go_iadd dX4_addEvent_47 ?_
      refine go_iald dX4_addEvent_48 (by first | exact zpm_is γ h b _ 0 (by decide) | exact zpm_is γ h b _ 1 (by decide)) (zix (n := 149) (n13k3 k) (by omega) (by decide)).1 (zix (n := 149) (n13k3 k) (by omega) (by decide)).2 ?_
      refine go_iast dX4_addEvent_49 (by first | exact zpm_is γ h b _ 0 (by decide) | exact zpm_is γ h b _ 1 (by decide)) (zix (n := 149) (n13k k) (by omega) (by decide)).1 (zix (n := 149) (n13k k) (by omega) (by decide)).2 ?_
      refine go_h zmo_00 ?_
      refine go_iinc dX4_addEvent_50 rfl (nI_1 k) (Nat.le_of_ble_eq_true rfl) ?_
      refine go_goto (tgt := 24) dX4_addEvent_53 (by decide) ?_
      exact (congrArg (fun M => Go _ 0 0 24 _ [] (zpm γ h b (upR (nOc μ) 0 M))) (nSf_s (μ 0) k)).mpr (ih (k + 1) (by omega))
  refine go_aload_n dX4_addEvent_0 rfl ?_
  refine go_dup dX4_addEvent_1 rfl ?_
  refine go_getf dX4_addEvent_2 flX4_83 (by first | exact hm 0 (by decide) | exact hm 1 (by decide) | exact zpm_is γ h b _ 0 (by decide) | exact zpm_is γ h b _ 1 (by decide)) rfl ?_
  refine go_iconst (v := 1) dX4_addEvent_5 (by decide) ?_
  refine go_iadd dX4_addEvent_6 ?_
  refine go_putf dX4_addEvent_7 flX4_83 fnX4_4 (by first | exact hm 0 (by decide) | exact hm 1 (by decide) | exact zpm_is γ h b _ 0 (by decide) | exact zpm_is γ h b _ 1 (by decide)) rfl rfl (Nat.le_of_ble_eq_true rfl) ?_
  refine go_h (zmo_r5 (f := upd (μ 5) 0 (μ 5 0 + 1)) hm rfl) ?_
  refine go_aload_n dX4_addEvent_10 rfl ?_
  refine go_getf dX4_addEvent_11 flX4_7 (by first | exact hm 0 (by decide) | exact hm 1 (by decide) | exact zpm_is γ h b _ 0 (by decide) | exact zpm_is γ h b _ 1 (by decide)) rfl ?_
  refine go_bipush (v := 12) dX4_addEvent_14 (by decide) ?_
  refine go_iald dX4_addEvent_16 (by first | exact hm 0 (by decide) | exact hm 1 (by decide) | exact zpm_is γ h b _ 0 (by decide) | exact zpm_is γ h b _ 1 (by decide)) (by unfold vp_in; decide) rfl ?_
  refine go_bipush (v := 16) dX4_addEvent_17 (by decide) ?_
  refine go_icmp_ne (tgt := 67) dX4_addEvent_19 (by decide) (fun c19 => ?_) (fun c19 => ?_)
  · have hne : ¬ c = 16 := fun q => c19 (by show μ 0 12 = 16; rw [hc, q]; rfl)
    refine go_h (show zpm γ h b (nOc μ) = zpm γ h b (upR (nOc μ) 0 (μ 0)) from congrArg (zpm γ h b) (upR_id (σ := nOc μ) (c := 0)).symm) ?_
    exact mid (μ 0) c hc (by omega) (by rw [nEv, nAdd, if_neg hne])
  · refine go_iconst (v := 0) dX4_addEvent_22 (by decide) ?_
    refine go_istore_n dX4_addEvent_23 (Nat.le_of_ble_eq_true rfl) ?_
    have heq : c = 16 := by
      have q : μ 0 12 = 16 := c19
      rw [hc] at q
      exact (nI_eq (b := 16) (by omega) (by decide)).mp q
    refine go_h (show zpm γ h b (nOc μ) = zpm γ h b (upR (nOc μ) 0 (nSf (μ 0) 0)) from by rw [nSf_0]; exact congrArg (zpm γ h b) (upR_id (σ := nOc μ) (c := 0)).symm) ?_
    exact go_vl (loop heq 45 0 rfl) ⟨rfl, rfl, rfl, rfl, trivial⟩
end
section
/-! PoeSwitchModel: the order of the ports -/
def nIn (M : Nat → Int32) (q pr : Nat) : Nat → Nat → Nat → Nat ⊕ Nat
  | 0, _, n => .inl n
  | m + 1, k, n => if gM M k 1 = nI pr then (if n = q then .inr k else nIn M q pr m (k + 1) (n + 1)) else nIn M q pr m (k + 1) n
def nOu (M : Nat → Int32) (q : Nat) : Nat → Nat → Nat → Int32
  | 0, _, _ => -6
  | m + 1, pr, n => match nIn M q pr 8 0 n with
    | .inr k => nI k
    | .inl n' => nOu M q m (pr + 1) n'
def nFi (M : Nat → Int32) (q m pr : Nat) : Nat ⊕ Nat → Int32
  | .inr k => nI k
  | .inl n' => nOu M q m (pr + 1) n'
def nOrd (M : Nat → Int32) (q : Nat) : Int32 := nOu M q 3 0 0
theorem nOu_s (M : Nat → Int32) (q m pr n : Nat) : nOu M q (m + 1) pr n = nFi M q m pr (nIn M q pr 8 0 n) := by
  unfold nOu nFi
  cases nIn M q pr 8 0 n <;> rfl
theorem nIn_no {M : Nat → Int32} {q pr m k n : Nat} (h : ¬ gM M k 1 = nI pr) : nIn M q pr (m + 1) k n = nIn M q pr m (k + 1) n := if_neg h
theorem nIn_hit {M : Nat → Int32} {q pr m k n : Nat} (h : gM M k 1 = nI pr) (h2 : n = q) : nIn M q pr (m + 1) k n = .inr k := (if_pos h).trans (if_pos h2)
theorem nIn_go {M : Nat → Int32} {q pr m k n : Nat} (h : gM M k 1 = nI pr) (h2 : ¬ n = q) : nIn M q pr (m + 1) k n = nIn M q pr m (k + 1) (n + 1) := (if_pos h).trans (if_neg h2)
set_option maxRecDepth 4000 in
theorem kX4_inOrder_ (γ : zG) (l : Launch) (n : Nat) (h : zH) (b : Nat) (μ : zS) (hm : zMd γ h b μ) (q : Nat) (hq : q < 8) (v : Int32) (hv : v = nI q) (R : Int32) (hR : nOrd (μ 0) q = R) : Con γ l (n + 2) 0 0 MX4_inOrder [.ref b, .int v] h (some (.int R)) h := by
  refine Con.go (by decide +kernel) (Nat.le_of_ble_eq_true rfl) ⟨rfl, rfl, trivial⟩ ?_
  show Go _ 0 0 0 [some (.ref b), some (.int v), none, none, none] [] _
  subst hv
  have outer : ∀ (m pr c : Nat), pr + m = 3 → c ≤ 8 * pr → nOu (μ 0) q m pr c = R → Go (γ, l, n + 2, (0, 0), MX4_inOrder, zF γ 0 0 (some (.int R)) h) 0 0 4 [some (.ref b), some (.int (nI q)), some (.int (nI c)), some (.int (nI pr)), none] [] h := by
    intro m
    induction m with
    | zero =>
      intro pr c hkq hc hf
      have hqN : pr = 3 := by omega
      subst hqN
      refine go_iload_n dX4_inOrder_4 rfl ?_
      refine go_iconst (v := 3) dX4_inOrder_5 (by decide) ?_
      refine go_icmp_ge (tgt := 53) dX4_inOrder_6 (by decide) (fun c6 => ?_) (fun c6 => absurd (by decide) c6)
      refine go_bipush (v := (-6)) dX4_inOrder_53 (by decide) ?_
      refine go_iret dX4_inOrder_55 rfl ?_ ?_ (Nat.zero_le _) (Nat.zero_le _)
      · rw [← hf]; rfl
      · rfl
    | succ m ihq =>
      intro pr c hkq hc hf
      have inner : ∀ (m2 k c : Nat), k + m2 = 8 → c ≤ 8 * pr + k → nFi (μ 0) q m pr (nIn (μ 0) q pr m2 k c) = R → Go (γ, l, n + 2, (0, 0), MX4_inOrder, zF γ 0 0 (some (.int R)) h) 0 0 12 [some (.ref b), some (.int (nI q)), some (.int (nI c)), some (.int (nI pr)), some (.int (nI k))] [] h := by
        intro m2
        induction m2 with
        | zero =>
          intro k c hk hc hg
          have hkN : k = 8 := by omega
          subst hkN
          refine go_iload dX4_inOrder_12 rfl ?_
          refine go_bipush (v := 8) dX4_inOrder_14 (by decide) ?_
          refine go_icmp_ge (tgt := 47) dX4_inOrder_16 (by decide) (fun c16 => ?_) (fun c16 => absurd (by decide) c16)
          refine go_iinc dX4_inOrder_47 rfl (nI_1 pr) (Nat.le_of_ble_eq_true rfl) ?_
          refine go_goto (tgt := 4) dX4_inOrder_50 (by decide) ?_
          exact go_vl (ihq (pr + 1) c (by omega) (by omega) hg) ⟨rfl, rfl, rfl, rfl, trivial⟩
        | succ m2 ih =>
          intro k c hk hc hg
          have hlt : k < 8 := by omega
          refine go_iload dX4_inOrder_12 rfl ?_
          refine go_bipush (v := 8) dX4_inOrder_14 (by decide) ?_
          refine go_icmp_ge (tgt := 47) dX4_inOrder_16 (by decide) (fun c16 => absurd c16 (zge hk)) (fun c16 => ?_)
          refine go_aload_n dX4_inOrder_19 rfl ?_
          refine go_iload dX4_inOrder_20 rfl ?_
          refine go_iconst (v := 1) dX4_inOrder_22 (by decide) ?_
          refine go_callVi (ci := 4) dX4_inOrder_23 moX4_of cvX4_45 ⟨rfl, rfl⟩ (kX4_of γ l _ _ b μ hm _ _ k 1 rfl rfl (mi_lt hlt (by decide))) (by first | exact hm 0 (by decide) | exact hm 1 (by decide)) rfl rfl (Nat.le_refl _) (Nat.zero_le _) (Nat.zero_le _) (Nat.le_of_ble_eq_true rfl) ?_
          refine go_iload_n dX4_inOrder_26 rfl ?_
          refine go_icmp_ne (tgt := 41) dX4_inOrder_27 (by decide) (fun c27 => ?_) (fun c27 => ?_)
          · refine go_iinc dX4_inOrder_41 rfl (nI_1 k) (Nat.le_of_ble_eq_true rfl) ?_
            refine go_goto (tgt := 12) dX4_inOrder_44 (by decide) ?_
            exact ih (k + 1) c (by omega) (by omega) ((congrArg (nFi (μ 0) q m pr) (nIn_no c27)).symm.trans hg)
          · refine go_iload_n dX4_inOrder_30 rfl ?_
            refine go_iload_n dX4_inOrder_31 rfl ?_
            refine go_icmp_ne (tgt := 38) dX4_inOrder_32 (by decide) (fun c32 => ?_) (fun c32 => ?_)
            · refine go_iinc dX4_inOrder_38 rfl (nI_1 c) (Nat.le_of_ble_eq_true rfl) ?_
              refine go_iinc dX4_inOrder_41 rfl (nI_1 k) (Nat.le_of_ble_eq_true rfl) ?_
              refine go_goto (tgt := 12) dX4_inOrder_44 (by decide) ?_
              exact ih (k + 1) (c + 1) (by omega) (by omega) ((congrArg (nFi (μ 0) q m pr) (nIn_go c27 (fun z => c32 (by rw [z])))).symm.trans hg)
            · refine go_iload dX4_inOrder_35 rfl ?_
              refine go_iret dX4_inOrder_37 rfl ?_ ?_ (Nat.zero_le _) (Nat.zero_le _)
              · rw [← hg, nIn_hit c27 ((nI_eq (by omega) (by omega)).mp c32)]; rfl
              · rfl
      refine go_iload_n dX4_inOrder_4 rfl ?_
      refine go_iconst (v := 3) dX4_inOrder_5 (by decide) ?_
      refine go_icmp_ge (tgt := 53) dX4_inOrder_6 (by decide) (fun c6 => absurd c6 (zge3 hkq)) (fun c6 => ?_)
      refine go_iconst (v := 0) dX4_inOrder_9 (by decide) ?_
      refine go_istore dX4_inOrder_10 (Nat.le_of_ble_eq_true rfl) ?_
      exact go_vl (inner 8 0 c rfl (by omega) ((nOu_s (μ 0) q m pr c).symm.trans hf)) ⟨rfl, rfl, rfl, rfl, rfl, trivial⟩
  refine go_iconst (v := 0) dX4_inOrder_0 (by decide) ?_
  refine go_istore_n dX4_inOrder_1 (Nat.le_of_ble_eq_true rfl) ?_
  refine go_iconst (v := 0) dX4_inOrder_2 (by decide) ?_
  refine go_istore_n dX4_inOrder_3 (Nat.le_of_ble_eq_true rfl) ?_
  exact go_vl (outer 3 0 0 rfl (by omega) hR) ⟨rfl, rfl, rfl, rfl, trivial⟩
/-! the order as a list -/
def oL (M : Nat → Int32) (pr m k : Nat) : List Nat := (List.range' k m).filter (fun j => decide (gM M j 1 = nI pr))
def oAt (l : List Nat) (q n : Nat) : Nat ⊕ Nat := match l[q - n]? with
  | some j => .inr j
  | none => .inl (n + l.length)
theorem nIn_list (M : Nat → Int32) (q pr : Nat) : ∀ (m k n : Nat), n ≤ q → nIn M q pr m k n = oAt (oL M pr m k) q n
  | 0, k, n, hn => by
    show Sum.inl n = _
    simp [oAt, oL]
  | m + 1, k, n, hn => by
    by_cases h : gM M k 1 = nI pr
    · have e : oL M pr (m + 1) k = k :: oL M pr m (k + 1) := by
        simp only [oL, List.range'_succ]
        rw [List.filter_cons_of_pos (by simpa using h)]
      by_cases h2 : n = q
      · rw [nIn_hit h h2, e]
        subst h2
        simp [oAt]
      · rw [nIn_go h h2, nIn_list M q pr m (k + 1) (n + 1) (by omega), e]
        unfold oAt
        rw [show q - n = (q - (n + 1)) + 1 by omega, List.getElem?_cons_succ, List.length_cons]
        cases (oL M pr m (k + 1))[q - (n + 1)]? with
        | some j => rfl
        | none => simp only []; congr 1; omega
    · have e : oL M pr (m + 1) k = oL M pr m (k + 1) := by
        simp only [oL, List.range'_succ]
        rw [List.filter_cons_of_neg (by simpa using h)]
      rw [nIn_no h, nIn_list M q pr m (k + 1) n hn, e]
def ordL (M : Nat → Int32) : List Nat := oL M 0 8 0 ++ (oL M 1 8 0 ++ oL M 2 8 0)
def oI (r : Option Nat) : Int32 := match r with
  | some j => nI j
  | none => -6
theorem nOu_list (M : Nat → Int32) (q m pr n : Nat) (hn : n ≤ q) : nOu M q (m + 1) pr n = (match (oL M pr 8 0)[q - n]? with
    | some j => nI j
    | none => nOu M q m (pr + 1) (n + (oL M pr 8 0).length)) := by
  rw [nOu_s, nIn_list M q pr 8 0 n hn]
  unfold oAt
  cases (oL M pr 8 0)[q - n]? <;> rfl
theorem nOrd_list (M : Nat → Int32) (q : Nat) : nOrd M q = oI (ordL M)[q]? := by
  unfold nOrd ordL
  rw [nOu_list M q 2 0 0 (Nat.zero_le _), Nat.sub_zero]
  cases h0 : (oL M 0 8 0)[q]? with
  | some j =>
    have hl := (List.getElem?_eq_some_iff.mp h0).1
    rw [List.getElem?_append_left hl, h0]
    rfl
  | none =>
    have hl : (oL M 0 8 0).length ≤ q := by simpa using h0
    rw [List.getElem?_append_right hl]
    simp only [Nat.zero_add]
    rw [nOu_list M q 1 1 _ hl]
    cases h1 : (oL M 1 8 0)[q - (oL M 0 8 0).length]? with
    | some j =>
      have hl1 := (List.getElem?_eq_some_iff.mp h1).1
      rw [List.getElem?_append_left hl1, h1]
      rfl
    | none =>
      have hl1 : (oL M 1 8 0).length ≤ q - (oL M 0 8 0).length := by simpa using h1
      rw [List.getElem?_append_right hl1]
      simp only []
      rw [nOu_list M q 0 2 _ (by omega), Nat.sub_sub]
      cases h2 : (oL M 2 8 0)[q - ((oL M 0 8 0).length + (oL M 1 8 0).length)]? <;> rfl
def nPv (M : Nat → Int32) : Prop := ∀ j, j < 8 → gM M j 1 = nI 0 ∨ gM M j 1 = nI 1 ∨ gM M j 1 = nI 2
theorem o_len (M : Nat → Int32) : ∀ (l : List Nat), (∀ j ∈ l, gM M j 1 = nI 0 ∨ gM M j 1 = nI 1 ∨ gM M j 1 = nI 2) → (l.filter (fun j => decide (gM M j 1 = nI 0))).length + ((l.filter (fun j => decide (gM M j 1 = nI 1))).length + (l.filter (fun j => decide (gM M j 1 = nI 2))).length) = l.length
  | [], _ => rfl
  | j :: l, h => by
    have ih := o_len M l (fun i hi => h i (List.mem_cons_of_mem _ hi))
    have n01 : ¬ nI 0 = nI 1 := by decide
    have n02 : ¬ nI 0 = nI 2 := by decide
    have n12 : ¬ nI 1 = nI 2 := by decide
    rcases h j List.mem_cons_self with e | e | e <;> simp [e, n01, n02, n12, Ne.symm n01, Ne.symm n02, Ne.symm n12] <;> omega
theorem ordL_len {M : Nat → Int32} (h : nPv M) : (ordL M).length = 8 := by
  unfold ordL oL
  rw [List.length_append, List.length_append]
  have := o_len M (List.range' 0 8) (fun j hj => h j (by have := List.mem_range'_1.mp hj; omega))
  rw [List.length_range'] at this
  exact this
theorem ordL_mem {M : Nat → Int32} {j : Nat} (h : j ∈ ordL M) : j < 8 := by
  unfold ordL oL at h
  simp only [List.mem_append, List.mem_filter, List.mem_range'_1] at h
  omega
theorem nOrd_ok {M : Nat → Int32} (h : nPv M) {q : Nat} (hq : q < 8) : ∃ j, j < 8 ∧ (ordL M)[q]? = some j ∧ nOrd M q = nI j := by
  have hl : q < (ordL M).length := by rw [ordL_len h]; exact hq
  refine ⟨(ordL M)[q], ordL_mem (List.getElem_mem hl), List.getElem?_eq_getElem hl, ?_⟩
  rw [nOrd_list, List.getElem?_eq_getElem hl]
  rfl
end
