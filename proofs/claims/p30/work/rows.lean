section
/-- a private method of a class that the tables say can be made, by its rows of tables_1 -/
def lw_okq (q : MethodName × Nat) : Prop := (q.1.cls ≠ "java/lang/invoke/MethodHandle" ∧ q.1.cls ≠ "java/lang/invoke/VarHandle") ∧ Cond.instantiable q.1.cls q.2 ∈ tables_1 ∧ Cond.privateMethod q.1 ∈ tables_1 ∧ Cond.instanceMethod q.1 ∈ tables_1
def lw_privs : List (MethodName × Nat) := []
def lw_tbl : List Cond := k2_sels lw_privs ++ tables_1
theorem lw_privs_ok : ∀ q ∈ lw_privs, lw_okq q := fun _ h => absurd h List.not_mem_nil
end
section
/-! ===== BEGIN words of one list among another's, by their places ===== -/
theorem goodIn_r {big : List Cond} (ws : List Cond) (ps : List Nat) (hp : ws = ps.filterMap (fun i => big[i]?)) (h : ws.all goodWord = true) : GoodIn big ws := by
  intro w hw
  have h1 := List.all_eq_true.mp h w hw
  rw [hp] at hw
  obtain ⟨i, -, hi⟩ := List.mem_filterMap.mp hw
  have hm : w ∈ big := by first | exact List.mem_of_getElem? hi | exact List.getElem?_mem hi
  exact ⟨hm, good_of_word h1⟩
theorem goodIn_app {big a b : List Cond} (ha : GoodIn big a) (hb : GoodIn big b) : GoodIn big (a ++ b) := fun w h => (List.mem_append.mp h).elim (ha w) (hb w)
theorem goodIn_ca {big a b : List Cond} {c : Cond} (ha : GoodIn big (c :: a)) (hb : GoodIn big b) : GoodIn big (c :: (a ++ b)) := fun w h => (List.mem_cons.mp h).elim (fun e => ha w (List.mem_cons.mpr (Or.inl e))) (fun h => (List.mem_append.mp h).elim (fun h => ha w (List.mem_cons.mpr (Or.inr h))) (hb w))
theorem goodIn_sub {big ws : List Cond} (hm : ∀ w ∈ ws, w ∈ big) (h : ws.all goodWord = true) : GoodIn big ws := fun w hw => ⟨hm w hw, good_of_word (List.all_eq_true.mp h w hw)⟩
/-! ===== END ===== -/

/-! ===== BEGIN printed: names, fields, word lists, decode rows ===== -/
def RX0 : String := "ClusterField$History"
def TX0 : u_T := fun k => match k with
  | 0 => ("ClusterField$History", "saved", "[LClusterField$Network;", true)
  | _ => ("ClusterField$History", "depth", "I", false)
def tyX0 : Nat → FieldType := fun k => match k with
  | 0 => .array (.object "ClusterField$Network")
  | _ => .int
abbrev wsX00 : List Cond := u_ws RX0 TX0 2
theorem nmX0 : ∀ a, a < 2 → ∀ b, b < 2 → a ≠ b → (TX0 a).2.1 ≠ (TX0 b).2.1 := by decide +kernel
theorem tyX0_ok : ∀ k, k < 2 → parseFieldDescriptor (TX0 k).2.2.1 = some (tyX0 k) := by decide +kernel
abbrev cX0_init : ByteArray := prog_2_method_1_code
def yX0_init : MethodName := ⟨RX0, "<init>", "()V"⟩
abbrev cX0_push : ByteArray := prog_2_method_2_code
def yX0_push : MethodName := ⟨RX0, "push", "(LClusterField$Network;)V"⟩
abbrev cX0_dropOldest : ByteArray := prog_2_method_3_code
def yX0_dropOldest : MethodName := ⟨RX0, "dropOldest", "()V"⟩
abbrev cX0_popInto : ByteArray := prog_2_method_4_code
def yX0_popInto : MethodName := ⟨RX0, "popInto", "(LClusterField$Network;)V"⟩
def RX1 : String := "ClusterField$Network"
def TX1 : u_T := fun k => match k with
  | 0 => ("ClusterField$Network", "sensors", "[LClusterField$Sensor;", true)
  | 1 => ("ClusterField$Network", "settings", "[I", true)
  | 2 => ("ClusterField$Network", "count", "I", false)
  | 3 => ("ClusterField$Network", "baseX", "I", false)
  | 4 => ("ClusterField$Network", "baseY", "I", false)
  | 5 => ("ClusterField$Network", "generator", "I", false)
  | 6 => ("ClusterField$Network", "round", "I", false)
  | 7 => ("ClusterField$Network", "lastHeads", "I", false)
  | 8 => ("ClusterField$Network", "lastReadings", "I", false)
  | 9 => ("ClusterField$Network", "allReadings", "I", false)
  | _ => ("ClusterField$Network", "paid", "I", false)
def tyX1 : Nat → FieldType := fun k => match k with
  | 0 => .array (.object "ClusterField$Sensor")
  | 1 => .array .int
  | 2 => .int
  | 3 => .int
  | 4 => .int
  | 5 => .int
  | 6 => .int
  | 7 => .int
  | 8 => .int
  | 9 => .int
  | _ => .int
abbrev wsX10 : List Cond := u_ws RX1 TX1 11
theorem nmX1 : ∀ a, a < 11 → ∀ b, b < 11 → a ≠ b → (TX1 a).2.1 ≠ (TX1 b).2.1 := by decide +kernel
theorem tyX1_ok : ∀ k, k < 11 → parseFieldDescriptor (TX1 k).2.2.1 = some (tyX1 k) := by decide +kernel
abbrev cX1_init : ByteArray := prog_3_method_1_code
def yX1_init : MethodName := ⟨RX1, "<init>", "()V"⟩
abbrev cX1_copyFrom : ByteArray := prog_3_method_2_code
def yX1_copyFrom : MethodName := ⟨RX1, "copyFrom", "(LClusterField$Network;)V"⟩
abbrev cX1_has : ByteArray := prog_3_method_3_code
def yX1_has : MethodName := ⟨RX1, "has", "(I)Z"⟩
abbrev cX1_countAlive : ByteArray := prog_3_method_4_code
def yX1_countAlive : MethodName := ⟨RX1, "countAlive", "()I"⟩
abbrev cX1_phase : ByteArray := prog_3_method_5_code
def yX1_phase : MethodName := ⟨RX1, "phase", "()I"⟩
abbrev cX1_costOver : ByteArray := prog_3_method_6_code
def yX1_costOver : MethodName := ⟨RX1, "costOver", "(I)I"⟩
def RX2 : String := "ClusterField$Rounds"
def TX2 : u_T := fun k => match k with
  | _ => ("ClusterField$Rounds", "net", "LClusterField$Network;", true)
def tyX2 : Nat → FieldType := fun k => match k with
  | _ => .object "ClusterField$Network"
abbrev wsX20 : List Cond := u_ws RX2 TX2 1
theorem nmX2 : ∀ a, a < 1 → ∀ b, b < 1 → a ≠ b → (TX2 a).2.1 ≠ (TX2 b).2.1 := by decide +kernel
theorem tyX2_ok : ∀ k, k < 1 → parseFieldDescriptor (TX2 k).2.2.1 = some (tyX2 k) := by decide +kernel
abbrev cX2_init : ByteArray := prog_4_method_1_code
def yX2_init : MethodName := ⟨RX2, "<init>", "(LClusterField$Network;)V"⟩
abbrev cX2_perform : ByteArray := prog_4_method_2_code
def yX2_perform : MethodName := ⟨RX2, "perform", "(I)I"⟩
abbrev cX2_performOne : ByteArray := prog_4_method_3_code
def yX2_performOne : MethodName := ⟨RX2, "performOne", "()V"⟩
abbrev cX2_begin : ByteArray := prog_4_method_4_code
def yX2_begin : MethodName := ⟨RX2, "begin", "()V"⟩
abbrev cX2_elect : ByteArray := prog_4_method_5_code
def yX2_elect : MethodName := ⟨RX2, "elect", "()V"⟩
abbrev cX2_draw : ByteArray := prog_4_method_6_code
def yX2_draw : MethodName := ⟨RX2, "draw", "()I"⟩
abbrev cX2_announce : ByteArray := prog_4_method_7_code
def yX2_announce : MethodName := ⟨RX2, "announce", "()V"⟩
abbrev cX2_join : ByteArray := prog_4_method_8_code
def yX2_join : MethodName := ⟨RX2, "join", "()V"⟩
abbrev cX2_nearestHead : ByteArray := prog_4_method_9_code
def yX2_nearestHead : MethodName := ⟨RX2, "nearestHead", "(II)I"⟩
abbrev cX2_giveSlots : ByteArray := prog_4_method_10_code
def yX2_giveSlots : MethodName := ⟨RX2, "giveSlots", "(I)V"⟩
abbrev cX2_isHead : ByteArray := prog_4_method_11_code
def yX2_isHead : MethodName := ⟨RX2, "isHead", "(I)Z"⟩
abbrev cX2_isLivingHead : ByteArray := prog_4_method_12_code
def yX2_isLivingHead : MethodName := ⟨RX2, "isLivingHead", "(I)Z"⟩
abbrev cX2_hasJoined : ByteArray := prog_4_method_13_code
def yX2_hasJoined : MethodName := ⟨RX2, "hasJoined", "(II)Z"⟩
abbrev cX2_reportToHeads : ByteArray := prog_4_method_14_code
def yX2_reportToHeads : MethodName := ⟨RX2, "reportToHeads", "()V"⟩
abbrev cX2_reportTo : ByteArray := prog_4_method_15_code
def yX2_reportTo : MethodName := ⟨RX2, "reportTo", "(I)V"⟩
abbrev cX2_addOwnReadings : ByteArray := prog_4_method_16_code
def yX2_addOwnReadings : MethodName := ⟨RX2, "addOwnReadings", "()V"⟩
abbrev cX2_deliver : ByteArray := prog_4_method_17_code
def yX2_deliver : MethodName := ⟨RX2, "deliver", "()V"⟩
abbrev cX2_deliverDirectly : ByteArray := prog_4_method_18_code
def yX2_deliverDirectly : MethodName := ⟨RX2, "deliverDirectly", "()V"⟩
abbrev cX2_deliverThroughRelay : ByteArray := prog_4_method_19_code
def yX2_deliverThroughRelay : MethodName := ⟨RX2, "deliverThroughRelay", "()V"⟩
abbrev cX2_reportToBase : ByteArray := prog_4_method_20_code
def yX2_reportToBase : MethodName := ⟨RX2, "reportToBase", "()V"⟩
abbrev cX2_sendToBase : ByteArray := prog_4_method_21_code
def yX2_sendToBase : MethodName := ⟨RX2, "sendToBase", "(LClusterField$Sensor;I)V"⟩
abbrev cX2_sends : ByteArray := prog_4_method_22_code
def yX2_sends : MethodName := ⟨RX2, "sends", "(LClusterField$Sensor;LClusterField$Sensor;)Z"⟩
abbrev cX2_pays : ByteArray := prog_4_method_23_code
def yX2_pays : MethodName := ⟨RX2, "pays", "(LClusterField$Sensor;I)Z"⟩
def RX3 : String := "ClusterField$Sensor"
def TX3 : u_T := fun k => match k with
  | 0 => ("ClusterField$Sensor", "x", "I", false)
  | 1 => ("ClusterField$Sensor", "y", "I", false)
  | 2 => ("ClusterField$Sensor", "battery", "I", false)
  | 3 => ("ClusterField$Sensor", "alive", "Z", false)
  | 4 => ("ClusterField$Sensor", "eligible", "Z", false)
  | 5 => ("ClusterField$Sensor", "headRounds", "I", false)
  | 6 => ("ClusterField$Sensor", "deathRound", "I", false)
  | 7 => ("ClusterField$Sensor", "head", "I", false)
  | 8 => ("ClusterField$Sensor", "slot", "I", false)
  | 9 => ("ClusterField$Sensor", "elected", "Z", false)
  | _ => ("ClusterField$Sensor", "readings", "I", false)
def tyX3 : Nat → FieldType := fun k => match k with
  | 0 => .int
  | 1 => .int
  | 2 => .int
  | 3 => .boolean
  | 4 => .boolean
  | 5 => .int
  | 6 => .int
  | 7 => .int
  | 8 => .int
  | 9 => .boolean
  | _ => .int
abbrev wsX30 : List Cond := u_ws RX3 TX3 11
theorem nmX3 : ∀ a, a < 11 → ∀ b, b < 11 → a ≠ b → (TX3 a).2.1 ≠ (TX3 b).2.1 := by decide +kernel
theorem tyX3_ok : ∀ k, k < 11 → parseFieldDescriptor (TX3 k).2.2.1 = some (tyX3 k) := by decide +kernel
abbrev cX3_init : ByteArray := prog_5_method_1_code
def yX3_init : MethodName := ⟨RX3, "<init>", "()V"⟩
abbrev cX3_place : ByteArray := prog_5_method_2_code
def yX3_place : MethodName := ⟨RX3, "place", "(III)V"⟩
abbrev cX3_beginRound : ByteArray := prog_5_method_3_code
def yX3_beginRound : MethodName := ⟨RX3, "beginRound", "()V"⟩
abbrev cX3_copyFrom : ByteArray := prog_5_method_4_code
def yX3_copyFrom : MethodName := ⟨RX3, "copyFrom", "(LClusterField$Sensor;)V"⟩
abbrev cX3_distanceTo : ByteArray := prog_5_method_5_code
def yX3_distanceTo : MethodName := ⟨RX3, "distanceTo", "(II)I"⟩
def RX4 : String := "ClusterField"
def TX4 : u_T := fun k => match k with
  | 0 => ("ClusterField", "network", "LClusterField$Network;", true)
  | 1 => ("ClusterField", "livePlay", "LClusterField$Rounds;", true)
  | 2 => ("ClusterField", "trial", "LClusterField$Network;", true)
  | 3 => ("ClusterField", "trialPlay", "LClusterField$Rounds;", true)
  | 4 => ("ClusterField", "history", "LClusterField$History;", true)
  | 5 => ("ClusterField", "snapshots", "[LClusterField$Network;", true)
  | _ => ("ClusterField", "snapshotFilled", "[Z", true)
def tyX4 : Nat → FieldType := fun k => match k with
  | 0 => .object "ClusterField$Network"
  | 1 => .object "ClusterField$Rounds"
  | 2 => .object "ClusterField$Network"
  | 3 => .object "ClusterField$Rounds"
  | 4 => .object "ClusterField$History"
  | 5 => .array (.object "ClusterField$Network")
  | _ => .array .boolean
abbrev wsX40 : List Cond := u_ws RX4 TX4 7
theorem nmX4 : ∀ a, a < 7 → ∀ b, b < 7 → a ≠ b → (TX4 a).2.1 ≠ (TX4 b).2.1 := by decide +kernel
theorem tyX4_ok : ∀ k, k < 7 → parseFieldDescriptor (TX4 k).2.2.1 = some (tyX4 k) := by decide +kernel
abbrev cX4_init : ByteArray := prog_1_method_1_code
def yX4_init : MethodName := ⟨RX4, "<init>", "()V"⟩
abbrev cX4_addSensor : ByteArray := prog_1_method_2_code
def yX4_addSensor : MethodName := ⟨RX4, "addSensor", "(III)I"⟩
abbrev cX4_setSetting : ByteArray := prog_1_method_4_code
def yX4_setSetting : MethodName := ⟨RX4, "setSetting", "(II)I"⟩
abbrev cX4_setGenerator : ByteArray := prog_1_method_5_code
def yX4_setGenerator : MethodName := ⟨RX4, "setGenerator", "(I)I"⟩
abbrev cX4_charge : ByteArray := prog_1_method_6_code
def yX4_charge : MethodName := ⟨RX4, "charge", "(II)I"⟩
abbrev cX4_run : ByteArray := prog_1_method_7_code
def yX4_run : MethodName := ⟨RX4, "run", "(I)I"⟩
abbrev cX4_roundNumber : ByteArray := prog_1_method_8_code
def yX4_roundNumber : MethodName := ⟨RX4, "roundNumber", "()I"⟩
abbrev cX4_aliveCount : ByteArray := prog_1_method_10_code
def yX4_aliveCount : MethodName := ⟨RX4, "aliveCount", "()I"⟩
abbrev cX4_isAlive : ByteArray := prog_1_method_11_code
def yX4_isAlive : MethodName := ⟨RX4, "isAlive", "(I)I"⟩
abbrev cX4_battery : ByteArray := prog_1_method_12_code
def yX4_battery : MethodName := ⟨RX4, "battery", "(I)I"⟩
abbrev cX4_isEligible : ByteArray := prog_1_method_13_code
def yX4_isEligible : MethodName := ⟨RX4, "isEligible", "(I)I"⟩
abbrev cX4_deathRound : ByteArray := prog_1_method_15_code
def yX4_deathRound : MethodName := ⟨RX4, "deathRound", "(I)I"⟩
abbrev cX4_headOf : ByteArray := prog_1_method_16_code
def yX4_headOf : MethodName := ⟨RX4, "headOf", "(I)I"⟩
abbrev cX4_slotOf : ByteArray := prog_1_method_17_code
def yX4_slotOf : MethodName := ⟨RX4, "slotOf", "(I)I"⟩
abbrev cX4_headCount : ByteArray := prog_1_method_18_code
def yX4_headCount : MethodName := ⟨RX4, "headCount", "()I"⟩
abbrev cX4_lastDelivered : ByteArray := prog_1_method_19_code
def yX4_lastDelivered : MethodName := ⟨RX4, "lastDelivered", "()I"⟩
abbrev cX4_deliveredTotal : ByteArray := prog_1_method_20_code
def yX4_deliveredTotal : MethodName := ⟨RX4, "deliveredTotal", "()I"⟩
abbrev cX4_energyPaid : ByteArray := prog_1_method_21_code
def yX4_energyPaid : MethodName := ⟨RX4, "energyPaid", "()I"⟩
abbrev cX4_undo : ByteArray := prog_1_method_25_code
def yX4_undo : MethodName := ⟨RX4, "undo", "()I"⟩
abbrev cX4_inRange : ByteArray := prog_1_method_29_code
def yX4_inRange : MethodName := ⟨RX4, "inRange", "(III)Z"⟩
def RX5 : String := "ClusterFieldModel"
def TX5 : u_T := fun k => match k with
  | _ => ("", "", "", false)
def tyX5 : Nat → FieldType := fun k => match k with
  | _ => .int
abbrev wsX50 : List Cond := u_ws RX5 TX5 0
theorem nmX5 : ∀ a, a < 0 → ∀ b, b < 0 → a ≠ b → (TX5 a).2.1 ≠ (TX5 b).2.1 := by decide +kernel
theorem tyX5_ok : ∀ k, k < 0 → parseFieldDescriptor (TX5 k).2.2.1 = some (tyX5 k) := by decide +kernel
def RJ10 : String := "java/lang/System"
def TJ10 : u_T := fun k => match k with
  | _ => ("", "", "", false)
def tyJ10 : Nat → FieldType := fun k => match k with
  | _ => .int
abbrev wsJ100 : List Cond := u_ws RJ10 TJ10 0
theorem nmJ10 : ∀ a, a < 0 → ∀ b, b < 0 → a ≠ b → (TJ10 a).2.1 ≠ (TJ10 b).2.1 := by decide +kernel
theorem tyJ10_ok : ∀ k, k < 0 → parseFieldDescriptor (TJ10 k).2.2.1 = some (tyJ10 k) := by decide +kernel
def RL : String := "ClusterFieldLaw"
abbrev cL_cell : ByteArray := method_2_code
def yL_cell : MethodName := ⟨RL, "cell", "([II)I"⟩
abbrev cL_low : ByteArray := method_3_code
def yL_low : MethodName := ⟨RL, "low", "(II)I"⟩
abbrev cL_sensors : ByteArray := method_4_code
def yL_sensors : MethodName := ⟨RL, "sensors", "(LClusterField;[II[I)I"⟩
abbrev cL_far : ByteArray := method_5_code
def yL_far : MethodName := ⟨RL, "far", "([III)I"⟩
abbrev cL_energy : ByteArray := method_6_code
def yL_energy : MethodName := ⟨RL, "energy", "(LClusterField;I)I"⟩
abbrev cL_clusters : ByteArray := method_7_code
def yL_clusters : MethodName := ⟨RL, "clusters", "(LClusterField;[II)Z"⟩
abbrev cL_law : ByteArray := code
def yL_law : MethodName := ⟨RL, "law", "([I)Z"⟩
def wsX3_init : List Cond := .code yX3_init cX3_init 1 none :: ([.methodLink RX3 3 objectInit, .instanceMethod objectInit, .code objectInit ⟨#[0xb1]⟩ 1 none])
def wsX1_init : List Cond := .code yX1_init cX1_init 2 none :: ([.methodLink RX1 3 objectInit, .instanceMethod objectInit, .code objectInit ⟨#[0xb1]⟩ 1 none, .classLink RX1 9 RX3, .fieldLink RX1 11 "ClusterField$Network" "sensors" "[LClusterField$Sensor;", .arrayClass .int, .fieldLink RX1 17 "ClusterField$Network" "settings" "[I", .fieldLink RX1 21 "ClusterField$Network" "baseX" "I", .fieldLink RX1 25 "ClusterField$Network" "baseY" "I", .fieldLink RX1 28 "ClusterField$Network" "generator" "I", .instantiable RX3 11, .initialized RX3, .fieldLink RX1 32 "ClusterField$Network" "FIRST" "[I", .methodLink RX1 35 arraycopyName, .native arraycopyName, .static arraycopyName, .initialized "java/lang/System", .instanceMethod yX3_init, .code yX3_init cX3_init 1 none, .methodLink RX3 3 objectInit] ++ wsX10 ++ wsX30)
def wsX0_init_r1 : List Cond := [Cond.methodLink RX0 1 objectInit, Cond.instanceMethod objectInit, Cond.code objectInit ⟨#[0xb1]⟩ 1 none, Cond.classLink RX0 9 RX1, Cond.fieldLink RX0 11 "ClusterField$History" "saved" "[LClusterField$Network;", Cond.instantiable RX1 11, Cond.initialized RX1, Cond.methodLink RX0 15 yX1_init, Cond.instanceMethod yX1_init, Cond.code yX1_init cX1_init 2 none, Cond.methodLink RX1 3 objectInit, Cond.classLink RX1 9 RX3, Cond.fieldLink RX1 11 "ClusterField$Network" "sensors" "[LClusterField$Sensor;", Cond.arrayClass .int, Cond.fieldLink RX1 17 "ClusterField$Network" "settings" "[I", Cond.fieldLink RX1 21 "ClusterField$Network" "baseX" "I", Cond.fieldLink RX1 25 "ClusterField$Network" "baseY" "I", Cond.fieldLink RX1 28 "ClusterField$Network" "generator" "I", Cond.instantiable RX3 11, Cond.initialized RX3, Cond.fieldLink RX1 32 "ClusterField$Network" "FIRST" "[I", Cond.methodLink RX1 35 arraycopyName, Cond.native arraycopyName, Cond.static arraycopyName]
def wsX0_init_r2 : List Cond := [Cond.initialized "java/lang/System", Cond.instanceMethod yX3_init, Cond.code yX3_init cX3_init 1 none, Cond.methodLink RX3 3 objectInit]
def wsX0_init : List Cond := .code yX0_init cX0_init 2 none :: ((wsX0_init_r1 ++ wsX0_init_r2) ++ wsX00 ++ wsX10 ++ wsX30)
def wsX0_dropOldest : List Cond := .code yX0_dropOldest cX0_dropOldest 3 none :: ([.fieldLink RX0 11 "ClusterField$History" "saved" "[LClusterField$Network;", .fieldLink RX0 16 "ClusterField$History" "depth" "I"] ++ wsX00)
def wsX3_copyFrom : List Cond := .code yX3_copyFrom cX3_copyFrom 2 none :: ([.fieldLink RX3 9 "ClusterField$Sensor" "x" "I", .fieldLink RX3 15 "ClusterField$Sensor" "y" "I", .fieldLink RX3 18 "ClusterField$Sensor" "battery" "I", .fieldLink RX3 21 "ClusterField$Sensor" "alive" "Z", .fieldLink RX3 25 "ClusterField$Sensor" "eligible" "Z", .fieldLink RX3 28 "ClusterField$Sensor" "headRounds" "I", .fieldLink RX3 31 "ClusterField$Sensor" "deathRound" "I", .fieldLink RX3 37 "ClusterField$Sensor" "head" "I", .fieldLink RX3 40 "ClusterField$Sensor" "slot" "I"] ++ wsX30)
def wsX1_copyFrom_r1 : List Cond := [Cond.fieldLink RX1 41 "ClusterField$Network" "count" "I", Cond.fieldLink RX1 11 "ClusterField$Network" "sensors" "[LClusterField$Sensor;", Cond.fieldLink RX1 17 "ClusterField$Network" "settings" "[I", Cond.methodLink RX1 35 arraycopyName, Cond.native arraycopyName, Cond.static arraycopyName, Cond.initialized "java/lang/System", Cond.fieldLink RX1 21 "ClusterField$Network" "baseX" "I", Cond.fieldLink RX1 25 "ClusterField$Network" "baseY" "I", Cond.fieldLink RX1 28 "ClusterField$Network" "generator" "I", Cond.fieldLink RX1 48 "ClusterField$Network" "round" "I", Cond.fieldLink RX1 51 "ClusterField$Network" "lastHeads" "I", Cond.fieldLink RX1 54 "ClusterField$Network" "lastReadings" "I", Cond.fieldLink RX1 57 "ClusterField$Network" "allReadings" "I", Cond.fieldLink RX1 60 "ClusterField$Network" "paid" "I", Cond.methodLink RX1 44 yX3_copyFrom, Cond.instanceMethod yX3_copyFrom, Cond.selects RX3 yX3_copyFrom yX3_copyFrom, Cond.initialized RX3, Cond.code yX3_copyFrom cX3_copyFrom 2 none, Cond.fieldLink RX3 9 "ClusterField$Sensor" "x" "I", Cond.fieldLink RX3 15 "ClusterField$Sensor" "y" "I", Cond.fieldLink RX3 18 "ClusterField$Sensor" "battery" "I", Cond.fieldLink RX3 21 "ClusterField$Sensor" "alive" "Z"]
def wsX1_copyFrom_r2 : List Cond := [Cond.fieldLink RX3 25 "ClusterField$Sensor" "eligible" "Z", Cond.fieldLink RX3 28 "ClusterField$Sensor" "headRounds" "I", Cond.fieldLink RX3 31 "ClusterField$Sensor" "deathRound" "I", Cond.fieldLink RX3 37 "ClusterField$Sensor" "head" "I", Cond.fieldLink RX3 40 "ClusterField$Sensor" "slot" "I"]
def wsX1_copyFrom : List Cond := .code yX1_copyFrom cX1_copyFrom 3 none :: ((wsX1_copyFrom_r1 ++ wsX1_copyFrom_r2) ++ wsX10 ++ wsX30)
def wsX0_push_r1 : List Cond := [Cond.fieldLink RX0 16 "ClusterField$History" "depth" "I", Cond.fieldLink RX0 11 "ClusterField$History" "saved" "[LClusterField$Network;", Cond.methodLink RX0 20 yX0_dropOldest, Cond.instanceMethod yX0_dropOldest, Cond.selects RX0 yX0_dropOldest yX0_dropOldest, Cond.initialized RX0, Cond.code yX0_dropOldest cX0_dropOldest 3 none, Cond.methodLink RX0 23 yX1_copyFrom, Cond.instanceMethod yX1_copyFrom, Cond.selects RX1 yX1_copyFrom yX1_copyFrom, Cond.initialized RX1, Cond.code yX1_copyFrom cX1_copyFrom 3 none, Cond.fieldLink RX1 41 "ClusterField$Network" "count" "I", Cond.fieldLink RX1 11 "ClusterField$Network" "sensors" "[LClusterField$Sensor;", Cond.fieldLink RX1 17 "ClusterField$Network" "settings" "[I", Cond.methodLink RX1 35 arraycopyName, Cond.native arraycopyName, Cond.static arraycopyName, Cond.initialized "java/lang/System", Cond.fieldLink RX1 21 "ClusterField$Network" "baseX" "I", Cond.fieldLink RX1 25 "ClusterField$Network" "baseY" "I", Cond.fieldLink RX1 28 "ClusterField$Network" "generator" "I", Cond.fieldLink RX1 48 "ClusterField$Network" "round" "I", Cond.fieldLink RX1 51 "ClusterField$Network" "lastHeads" "I"]
def wsX0_push_r2 : List Cond := [Cond.fieldLink RX1 54 "ClusterField$Network" "lastReadings" "I", Cond.fieldLink RX1 57 "ClusterField$Network" "allReadings" "I", Cond.fieldLink RX1 60 "ClusterField$Network" "paid" "I", Cond.methodLink RX1 44 yX3_copyFrom, Cond.instanceMethod yX3_copyFrom, Cond.selects RX3 yX3_copyFrom yX3_copyFrom, Cond.initialized RX3, Cond.code yX3_copyFrom cX3_copyFrom 2 none, Cond.fieldLink RX3 9 "ClusterField$Sensor" "x" "I", Cond.fieldLink RX3 15 "ClusterField$Sensor" "y" "I", Cond.fieldLink RX3 18 "ClusterField$Sensor" "battery" "I", Cond.fieldLink RX3 21 "ClusterField$Sensor" "alive" "Z", Cond.fieldLink RX3 25 "ClusterField$Sensor" "eligible" "Z", Cond.fieldLink RX3 28 "ClusterField$Sensor" "headRounds" "I", Cond.fieldLink RX3 31 "ClusterField$Sensor" "deathRound" "I", Cond.fieldLink RX3 37 "ClusterField$Sensor" "head" "I", Cond.fieldLink RX3 40 "ClusterField$Sensor" "slot" "I"]
def wsX0_push : List Cond := .code yX0_push cX0_push 2 none :: ((wsX0_push_r1 ++ wsX0_push_r2) ++ wsX00 ++ wsX10 ++ wsX30)
def wsX0_popInto_r1 : List Cond := [Cond.fieldLink RX0 16 "ClusterField$History" "depth" "I", Cond.fieldLink RX0 11 "ClusterField$History" "saved" "[LClusterField$Network;", Cond.methodLink RX0 23 yX1_copyFrom, Cond.instanceMethod yX1_copyFrom, Cond.selects RX1 yX1_copyFrom yX1_copyFrom, Cond.initialized RX1, Cond.code yX1_copyFrom cX1_copyFrom 3 none, Cond.fieldLink RX1 41 "ClusterField$Network" "count" "I", Cond.fieldLink RX1 11 "ClusterField$Network" "sensors" "[LClusterField$Sensor;", Cond.fieldLink RX1 17 "ClusterField$Network" "settings" "[I", Cond.methodLink RX1 35 arraycopyName, Cond.native arraycopyName, Cond.static arraycopyName, Cond.initialized "java/lang/System", Cond.fieldLink RX1 21 "ClusterField$Network" "baseX" "I", Cond.fieldLink RX1 25 "ClusterField$Network" "baseY" "I", Cond.fieldLink RX1 28 "ClusterField$Network" "generator" "I", Cond.fieldLink RX1 48 "ClusterField$Network" "round" "I", Cond.fieldLink RX1 51 "ClusterField$Network" "lastHeads" "I", Cond.fieldLink RX1 54 "ClusterField$Network" "lastReadings" "I", Cond.fieldLink RX1 57 "ClusterField$Network" "allReadings" "I", Cond.fieldLink RX1 60 "ClusterField$Network" "paid" "I", Cond.methodLink RX1 44 yX3_copyFrom, Cond.instanceMethod yX3_copyFrom]
def wsX0_popInto_r2 : List Cond := [Cond.selects RX3 yX3_copyFrom yX3_copyFrom, Cond.initialized RX3, Cond.code yX3_copyFrom cX3_copyFrom 2 none, Cond.fieldLink RX3 9 "ClusterField$Sensor" "x" "I", Cond.fieldLink RX3 15 "ClusterField$Sensor" "y" "I", Cond.fieldLink RX3 18 "ClusterField$Sensor" "battery" "I", Cond.fieldLink RX3 21 "ClusterField$Sensor" "alive" "Z", Cond.fieldLink RX3 25 "ClusterField$Sensor" "eligible" "Z", Cond.fieldLink RX3 28 "ClusterField$Sensor" "headRounds" "I", Cond.fieldLink RX3 31 "ClusterField$Sensor" "deathRound" "I", Cond.fieldLink RX3 37 "ClusterField$Sensor" "head" "I", Cond.fieldLink RX3 40 "ClusterField$Sensor" "slot" "I"]
def wsX0_popInto : List Cond := .code yX0_popInto cX0_popInto 2 none :: ((wsX0_popInto_r1 ++ wsX0_popInto_r2) ++ wsX00 ++ wsX10 ++ wsX30)
def wsX1_has : List Cond := .code yX1_has cX1_has 2 (some .boolean) :: ([.fieldLink RX1 41 "ClusterField$Network" "count" "I"] ++ wsX10)
def wsX1_countAlive : List Cond := .code yX1_countAlive cX1_countAlive 3 (some .int) :: ([.fieldLink RX1 41 "ClusterField$Network" "count" "I", .fieldLink RX1 11 "ClusterField$Network" "sensors" "[LClusterField$Sensor;", .fieldLink RX1 63 "ClusterField$Sensor" "alive" "Z"] ++ wsX10 ++ wsX30)
def wsX1_phase : List Cond := .code yX1_phase cX1_phase 2 (some .int) :: ([.fieldLink RX1 17 "ClusterField$Network" "settings" "[I", .fieldLink RX1 48 "ClusterField$Network" "round" "I"] ++ wsX10)
def wsX1_costOver : List Cond := .code yX1_costOver cX1_costOver 3 (some .int) :: ([.fieldLink RX1 17 "ClusterField$Network" "settings" "[I"] ++ wsX10)
def wsX2_init : List Cond := .code yX2_init cX2_init 2 none :: ([.methodLink RX2 3 objectInit, .instanceMethod objectInit, .code objectInit ⟨#[0xb1]⟩ 1 none, .fieldLink RX2 9 "ClusterField$Rounds" "net" "LClusterField$Network;"] ++ wsX20)
def wsX3_beginRound : List Cond := .code yX3_beginRound cX3_beginRound 1 none :: ([.fieldLink RX3 37 "ClusterField$Sensor" "head" "I", .fieldLink RX3 40 "ClusterField$Sensor" "slot" "I", .fieldLink RX3 43 "ClusterField$Sensor" "elected" "Z", .fieldLink RX3 46 "ClusterField$Sensor" "readings" "I"] ++ wsX30)
def wsX2_begin : List Cond := .code yX2_begin cX2_begin 4 none :: ([.fieldLink RX2 9 "ClusterField$Rounds" "net" "LClusterField$Network;", .fieldLink RX2 64 "ClusterField$Network" "count" "I", .fieldLink RX2 67 "ClusterField$Network" "sensors" "[LClusterField$Sensor;", .fieldLink RX2 76 "ClusterField$Sensor" "eligible" "Z", .fieldLink RX2 33 "ClusterField$Network" "lastHeads" "I", .fieldLink RX2 55 "ClusterField$Network" "lastReadings" "I", .methodLink RX2 61 yX1_phase, .instanceMethod yX1_phase, .selects RX1 yX1_phase yX1_phase, .initialized RX1, .code yX1_phase cX1_phase 2 (some .int), .fieldLink RX1 17 "ClusterField$Network" "settings" "[I", .fieldLink RX1 48 "ClusterField$Network" "round" "I", .methodLink RX2 71 yX3_beginRound, .instanceMethod yX3_beginRound, .selects RX3 yX3_beginRound yX3_beginRound, .initialized RX3, .code yX3_beginRound cX3_beginRound 1 none, .fieldLink RX3 37 "ClusterField$Sensor" "head" "I", .fieldLink RX3 40 "ClusterField$Sensor" "slot" "I", .fieldLink RX3 43 "ClusterField$Sensor" "elected" "Z", .fieldLink RX3 46 "ClusterField$Sensor" "readings" "I"] ++ wsX20 ++ wsX10 ++ wsX30)
def wsX2_draw : List Cond := .code yX2_draw cX2_draw 3 (some .int) :: ([.fieldLink RX2 9 "ClusterField$Rounds" "net" "LClusterField$Network;", .fieldLink RX2 93 "ClusterField$Network" "generator" "I", .constantLong RX2 96 (1103515245), .constantLong RX2 98 (12345), .constantLong RX2 100 (2147483648), .constant RX2 102 (65536)] ++ wsX20 ++ wsX10)
def wsX2_elect : List Cond := .code yX2_elect cX2_elect 4 none :: ([.fieldLink RX2 9 "ClusterField$Rounds" "net" "LClusterField$Network;", .fieldLink RX2 80 "ClusterField$Network" "settings" "[I", .fieldLink RX2 64 "ClusterField$Network" "count" "I", .fieldLink RX2 67 "ClusterField$Network" "sensors" "[LClusterField$Sensor;", .fieldLink RX2 84 "ClusterField$Sensor" "alive" "Z", .fieldLink RX2 76 "ClusterField$Sensor" "eligible" "Z", .fieldLink RX2 90 "ClusterField$Sensor" "elected" "Z", .methodLink RX2 61 yX1_phase, .instanceMethod yX1_phase, .selects RX1 yX1_phase yX1_phase, .initialized RX1, .code yX1_phase cX1_phase 2 (some .int), .fieldLink RX1 17 "ClusterField$Network" "settings" "[I", .fieldLink RX1 48 "ClusterField$Network" "round" "I", .methodLink RX2 87 yX2_draw, .instanceMethod yX2_draw, .selects RX2 yX2_draw yX2_draw, .initialized RX2, .code yX2_draw cX2_draw 3 (some .int), .fieldLink RX2 93 "ClusterField$Network" "generator" "I", .constantLong RX2 96 (1103515245), .constantLong RX2 98 (12345), .constantLong RX2 100 (2147483648), .constant RX2 102 (65536)] ++ wsX20 ++ wsX10 ++ wsX30)
def wsX2_pays : List Cond := .code yX2_pays cX2_pays 3 (some .boolean) :: ([.fieldLink RX2 177 "ClusterField$Sensor" "battery" "I", .fieldLink RX2 84 "ClusterField$Sensor" "alive" "Z", .fieldLink RX2 9 "ClusterField$Rounds" "net" "LClusterField$Network;", .fieldLink RX2 58 "ClusterField$Network" "round" "I", .fieldLink RX2 180 "ClusterField$Sensor" "deathRound" "I", .fieldLink RX2 183 "ClusterField$Network" "paid" "I"] ++ wsX30 ++ wsX20 ++ wsX10)
def wsX2_announce : List Cond := .code yX2_announce cX2_announce 3 none :: ([.fieldLink RX2 9 "ClusterField$Rounds" "net" "LClusterField$Network;", .fieldLink RX2 64 "ClusterField$Network" "count" "I", .fieldLink RX2 67 "ClusterField$Network" "sensors" "[LClusterField$Sensor;", .fieldLink RX2 90 "ClusterField$Sensor" "elected" "Z", .fieldLink RX2 80 "ClusterField$Network" "settings" "[I", .fieldLink RX2 107 "ClusterField$Sensor" "head" "I", .fieldLink RX2 76 "ClusterField$Sensor" "eligible" "Z", .fieldLink RX2 110 "ClusterField$Sensor" "headRounds" "I", .fieldLink RX2 33 "ClusterField$Network" "lastHeads" "I", .methodLink RX2 103 yX2_pays, .instanceMethod yX2_pays, .selects RX2 yX2_pays yX2_pays, .initialized RX2, .code yX2_pays cX2_pays 3 (some .boolean), .fieldLink RX2 177 "ClusterField$Sensor" "battery" "I", .fieldLink RX2 84 "ClusterField$Sensor" "alive" "Z", .fieldLink RX2 58 "ClusterField$Network" "round" "I", .fieldLink RX2 180 "ClusterField$Sensor" "deathRound" "I", .fieldLink RX2 183 "ClusterField$Network" "paid" "I"] ++ wsX20 ++ wsX10 ++ wsX30)
def wsX3_distanceTo : List Cond := .code yX3_distanceTo cX3_distanceTo 5 (some .int) :: ([.fieldLink RX3 9 "ClusterField$Sensor" "x" "I", .fieldLink RX3 15 "ClusterField$Sensor" "y" "I"] ++ wsX30)
def wsX2_sendToBase_r1 : List Cond := [Cond.fieldLink RX2 9 "ClusterField$Rounds" "net" "LClusterField$Network;", Cond.fieldLink RX2 164 "ClusterField$Network" "baseX" "I", Cond.fieldLink RX2 167 "ClusterField$Network" "baseY" "I", Cond.fieldLink RX2 55 "ClusterField$Network" "lastReadings" "I", Cond.methodLink RX2 134 yX3_distanceTo, Cond.instanceMethod yX3_distanceTo, Cond.selects RX3 yX3_distanceTo yX3_distanceTo, Cond.initialized RX3, Cond.code yX3_distanceTo cX3_distanceTo 5 (some .int), Cond.fieldLink RX3 9 "ClusterField$Sensor" "x" "I", Cond.fieldLink RX3 15 "ClusterField$Sensor" "y" "I", Cond.methodLink RX2 173 yX1_costOver, Cond.instanceMethod yX1_costOver, Cond.selects RX1 yX1_costOver yX1_costOver, Cond.initialized RX1, Cond.code yX1_costOver cX1_costOver 3 (some .int), Cond.fieldLink RX1 17 "ClusterField$Network" "settings" "[I", Cond.methodLink RX2 103 yX2_pays, Cond.instanceMethod yX2_pays, Cond.selects RX2 yX2_pays yX2_pays, Cond.initialized RX2, Cond.code yX2_pays cX2_pays 3 (some .boolean), Cond.fieldLink RX2 177 "ClusterField$Sensor" "battery" "I", Cond.fieldLink RX2 84 "ClusterField$Sensor" "alive" "Z"]
def wsX2_sendToBase_r2 : List Cond := [Cond.fieldLink RX2 58 "ClusterField$Network" "round" "I", Cond.fieldLink RX2 180 "ClusterField$Sensor" "deathRound" "I", Cond.fieldLink RX2 183 "ClusterField$Network" "paid" "I"]
def wsX2_sendToBase : List Cond := .code yX2_sendToBase cX2_sendToBase 3 none :: ((wsX2_sendToBase_r1 ++ wsX2_sendToBase_r2) ++ wsX20 ++ wsX10 ++ wsX30)
def wsX2_reportToBase_r1 : List Cond := [Cond.fieldLink RX2 9 "ClusterField$Rounds" "net" "LClusterField$Network;", Cond.fieldLink RX2 64 "ClusterField$Network" "count" "I", Cond.fieldLink RX2 67 "ClusterField$Network" "sensors" "[LClusterField$Sensor;", Cond.fieldLink RX2 84 "ClusterField$Sensor" "alive" "Z", Cond.methodLink RX2 160 yX2_sendToBase, Cond.instanceMethod yX2_sendToBase, Cond.selects RX2 yX2_sendToBase yX2_sendToBase, Cond.initialized RX2, Cond.code yX2_sendToBase cX2_sendToBase 3 none, Cond.fieldLink RX2 164 "ClusterField$Network" "baseX" "I", Cond.fieldLink RX2 167 "ClusterField$Network" "baseY" "I", Cond.fieldLink RX2 55 "ClusterField$Network" "lastReadings" "I", Cond.methodLink RX2 134 yX3_distanceTo, Cond.instanceMethod yX3_distanceTo, Cond.selects RX3 yX3_distanceTo yX3_distanceTo, Cond.initialized RX3, Cond.code yX3_distanceTo cX3_distanceTo 5 (some .int), Cond.fieldLink RX3 9 "ClusterField$Sensor" "x" "I", Cond.fieldLink RX3 15 "ClusterField$Sensor" "y" "I", Cond.methodLink RX2 173 yX1_costOver, Cond.instanceMethod yX1_costOver, Cond.selects RX1 yX1_costOver yX1_costOver, Cond.initialized RX1, Cond.code yX1_costOver cX1_costOver 3 (some .int)]
def wsX2_reportToBase_r2 : List Cond := [Cond.fieldLink RX1 17 "ClusterField$Network" "settings" "[I", Cond.methodLink RX2 103 yX2_pays, Cond.instanceMethod yX2_pays, Cond.selects RX2 yX2_pays yX2_pays, Cond.code yX2_pays cX2_pays 3 (some .boolean), Cond.fieldLink RX2 177 "ClusterField$Sensor" "battery" "I", Cond.fieldLink RX2 58 "ClusterField$Network" "round" "I", Cond.fieldLink RX2 180 "ClusterField$Sensor" "deathRound" "I", Cond.fieldLink RX2 183 "ClusterField$Network" "paid" "I"]
def wsX2_reportToBase : List Cond := .code yX2_reportToBase cX2_reportToBase 3 none :: ((wsX2_reportToBase_r1 ++ wsX2_reportToBase_r2) ++ wsX20 ++ wsX10 ++ wsX30)
def wsX2_isLivingHead : List Cond := .code yX2_isLivingHead cX2_isLivingHead 3 (some .boolean) :: ([.fieldLink RX2 9 "ClusterField$Rounds" "net" "LClusterField$Network;", .fieldLink RX2 67 "ClusterField$Network" "sensors" "[LClusterField$Sensor;", .fieldLink RX2 84 "ClusterField$Sensor" "alive" "Z", .fieldLink RX2 107 "ClusterField$Sensor" "head" "I"] ++ wsX20 ++ wsX10 ++ wsX30)
def wsX2_nearestHead : List Cond := .code yX2_nearestHead cX2_nearestHead 7 (some .int) :: ([.fieldLink RX2 9 "ClusterField$Rounds" "net" "LClusterField$Network;", .fieldLink RX2 64 "ClusterField$Network" "count" "I", .fieldLink RX2 67 "ClusterField$Network" "sensors" "[LClusterField$Sensor;", .methodLink RX2 131 yX2_isLivingHead, .instanceMethod yX2_isLivingHead, .selects RX2 yX2_isLivingHead yX2_isLivingHead, .initialized RX2, .code yX2_isLivingHead cX2_isLivingHead 3 (some .boolean), .fieldLink RX2 84 "ClusterField$Sensor" "alive" "Z", .fieldLink RX2 107 "ClusterField$Sensor" "head" "I", .methodLink RX2 134 yX3_distanceTo, .instanceMethod yX3_distanceTo, .selects RX3 yX3_distanceTo yX3_distanceTo, .initialized RX3, .code yX3_distanceTo cX3_distanceTo 5 (some .int), .fieldLink RX3 9 "ClusterField$Sensor" "x" "I", .fieldLink RX3 15 "ClusterField$Sensor" "y" "I"] ++ wsX20 ++ wsX10 ++ wsX30)
def wsX2_isHead : List Cond := .code yX2_isHead cX2_isHead 2 (some .boolean) :: ([.fieldLink RX2 9 "ClusterField$Rounds" "net" "LClusterField$Network;", .fieldLink RX2 67 "ClusterField$Network" "sensors" "[LClusterField$Sensor;", .fieldLink RX2 107 "ClusterField$Sensor" "head" "I"] ++ wsX20 ++ wsX10 ++ wsX30)
def wsX2_hasJoined : List Cond := .code yX2_hasJoined cX2_hasJoined 3 (some .boolean) :: ([.fieldLink RX2 9 "ClusterField$Rounds" "net" "LClusterField$Network;", .fieldLink RX2 67 "ClusterField$Network" "sensors" "[LClusterField$Sensor;", .fieldLink RX2 107 "ClusterField$Sensor" "head" "I"] ++ wsX20 ++ wsX10 ++ wsX30)
def wsX2_giveSlots : List Cond := .code yX2_giveSlots cX2_giveSlots 4 none :: ([.fieldLink RX2 9 "ClusterField$Rounds" "net" "LClusterField$Network;", .fieldLink RX2 64 "ClusterField$Network" "count" "I", .fieldLink RX2 67 "ClusterField$Network" "sensors" "[LClusterField$Sensor;", .fieldLink RX2 141 "ClusterField$Sensor" "slot" "I", .methodLink RX2 137 yX2_hasJoined, .instanceMethod yX2_hasJoined, .selects RX2 yX2_hasJoined yX2_hasJoined, .initialized RX2, .code yX2_hasJoined cX2_hasJoined 3 (some .boolean), .fieldLink RX2 107 "ClusterField$Sensor" "head" "I"] ++ wsX20 ++ wsX10 ++ wsX30)
def wsX2_join_r1 : List Cond := [Cond.fieldLink RX2 9 "ClusterField$Rounds" "net" "LClusterField$Network;", Cond.fieldLink RX2 64 "ClusterField$Network" "count" "I", Cond.fieldLink RX2 67 "ClusterField$Network" "sensors" "[LClusterField$Sensor;", Cond.fieldLink RX2 84 "ClusterField$Sensor" "alive" "Z", Cond.fieldLink RX2 107 "ClusterField$Sensor" "head" "I", Cond.fieldLink RX2 113 "ClusterField$Sensor" "x" "I", Cond.fieldLink RX2 116 "ClusterField$Sensor" "y" "I", Cond.methodLink RX2 119 yX2_nearestHead, Cond.instanceMethod yX2_nearestHead, Cond.selects RX2 yX2_nearestHead yX2_nearestHead, Cond.initialized RX2, Cond.code yX2_nearestHead cX2_nearestHead 7 (some .int), Cond.methodLink RX2 131 yX2_isLivingHead, Cond.instanceMethod yX2_isLivingHead, Cond.selects RX2 yX2_isLivingHead yX2_isLivingHead, Cond.code yX2_isLivingHead cX2_isLivingHead 3 (some .boolean), Cond.methodLink RX2 134 yX3_distanceTo, Cond.instanceMethod yX3_distanceTo, Cond.selects RX3 yX3_distanceTo yX3_distanceTo, Cond.initialized RX3, Cond.code yX3_distanceTo cX3_distanceTo 5 (some .int), Cond.fieldLink RX3 9 "ClusterField$Sensor" "x" "I", Cond.fieldLink RX3 15 "ClusterField$Sensor" "y" "I", Cond.methodLink RX2 123 yX2_isHead]
def wsX2_join_r2 : List Cond := [Cond.instanceMethod yX2_isHead, Cond.selects RX2 yX2_isHead yX2_isHead, Cond.code yX2_isHead cX2_isHead 2 (some .boolean), Cond.methodLink RX2 127 yX2_giveSlots, Cond.instanceMethod yX2_giveSlots, Cond.selects RX2 yX2_giveSlots yX2_giveSlots, Cond.code yX2_giveSlots cX2_giveSlots 4 none, Cond.fieldLink RX2 141 "ClusterField$Sensor" "slot" "I", Cond.methodLink RX2 137 yX2_hasJoined, Cond.instanceMethod yX2_hasJoined, Cond.selects RX2 yX2_hasJoined yX2_hasJoined, Cond.code yX2_hasJoined cX2_hasJoined 3 (some .boolean)]
def wsX2_join : List Cond := .code yX2_join cX2_join 3 none :: ((wsX2_join_r1 ++ wsX2_join_r2) ++ wsX20 ++ wsX10 ++ wsX30)
def wsX2_sends_r1 : List Cond := [Cond.fieldLink RX2 9 "ClusterField$Rounds" "net" "LClusterField$Network;", Cond.fieldLink RX2 113 "ClusterField$Sensor" "x" "I", Cond.fieldLink RX2 116 "ClusterField$Sensor" "y" "I", Cond.fieldLink RX2 84 "ClusterField$Sensor" "alive" "Z", Cond.fieldLink RX2 80 "ClusterField$Network" "settings" "[I", Cond.methodLink RX2 134 yX3_distanceTo, Cond.instanceMethod yX3_distanceTo, Cond.selects RX3 yX3_distanceTo yX3_distanceTo, Cond.initialized RX3, Cond.code yX3_distanceTo cX3_distanceTo 5 (some .int), Cond.fieldLink RX3 9 "ClusterField$Sensor" "x" "I", Cond.fieldLink RX3 15 "ClusterField$Sensor" "y" "I", Cond.methodLink RX2 173 yX1_costOver, Cond.instanceMethod yX1_costOver, Cond.selects RX1 yX1_costOver yX1_costOver, Cond.initialized RX1, Cond.code yX1_costOver cX1_costOver 3 (some .int), Cond.fieldLink RX1 17 "ClusterField$Network" "settings" "[I", Cond.methodLink RX2 103 yX2_pays, Cond.instanceMethod yX2_pays, Cond.selects RX2 yX2_pays yX2_pays, Cond.initialized RX2, Cond.code yX2_pays cX2_pays 3 (some .boolean), Cond.fieldLink RX2 177 "ClusterField$Sensor" "battery" "I"]
def wsX2_sends_r2 : List Cond := [Cond.fieldLink RX2 58 "ClusterField$Network" "round" "I", Cond.fieldLink RX2 180 "ClusterField$Sensor" "deathRound" "I", Cond.fieldLink RX2 183 "ClusterField$Network" "paid" "I"]
def wsX2_sends : List Cond := .code yX2_sends cX2_sends 3 (some .boolean) :: ((wsX2_sends_r1 ++ wsX2_sends_r2) ++ wsX20 ++ wsX30 ++ wsX10)
def wsX2_reportTo_r1 : List Cond := [Cond.fieldLink RX2 9 "ClusterField$Rounds" "net" "LClusterField$Network;", Cond.fieldLink RX2 67 "ClusterField$Network" "sensors" "[LClusterField$Sensor;", Cond.fieldLink RX2 64 "ClusterField$Network" "count" "I", Cond.fieldLink RX2 84 "ClusterField$Sensor" "alive" "Z", Cond.fieldLink RX2 151 "ClusterField$Sensor" "readings" "I", Cond.methodLink RX2 137 yX2_hasJoined, Cond.instanceMethod yX2_hasJoined, Cond.selects RX2 yX2_hasJoined yX2_hasJoined, Cond.initialized RX2, Cond.code yX2_hasJoined cX2_hasJoined 3 (some .boolean), Cond.fieldLink RX2 107 "ClusterField$Sensor" "head" "I", Cond.methodLink RX2 147 yX2_sends, Cond.instanceMethod yX2_sends, Cond.selects RX2 yX2_sends yX2_sends, Cond.code yX2_sends cX2_sends 3 (some .boolean), Cond.fieldLink RX2 113 "ClusterField$Sensor" "x" "I", Cond.fieldLink RX2 116 "ClusterField$Sensor" "y" "I", Cond.fieldLink RX2 80 "ClusterField$Network" "settings" "[I", Cond.methodLink RX2 134 yX3_distanceTo, Cond.instanceMethod yX3_distanceTo, Cond.selects RX3 yX3_distanceTo yX3_distanceTo, Cond.initialized RX3, Cond.code yX3_distanceTo cX3_distanceTo 5 (some .int), Cond.fieldLink RX3 9 "ClusterField$Sensor" "x" "I"]
def wsX2_reportTo_r2 : List Cond := [Cond.fieldLink RX3 15 "ClusterField$Sensor" "y" "I", Cond.methodLink RX2 173 yX1_costOver, Cond.instanceMethod yX1_costOver, Cond.selects RX1 yX1_costOver yX1_costOver, Cond.initialized RX1, Cond.code yX1_costOver cX1_costOver 3 (some .int), Cond.fieldLink RX1 17 "ClusterField$Network" "settings" "[I", Cond.methodLink RX2 103 yX2_pays, Cond.instanceMethod yX2_pays, Cond.selects RX2 yX2_pays yX2_pays, Cond.code yX2_pays cX2_pays 3 (some .boolean), Cond.fieldLink RX2 177 "ClusterField$Sensor" "battery" "I", Cond.fieldLink RX2 58 "ClusterField$Network" "round" "I", Cond.fieldLink RX2 180 "ClusterField$Sensor" "deathRound" "I", Cond.fieldLink RX2 183 "ClusterField$Network" "paid" "I"]
def wsX2_reportTo : List Cond := .code yX2_reportTo cX2_reportTo 5 none :: ((wsX2_reportTo_r1 ++ wsX2_reportTo_r2) ++ wsX20 ++ wsX10 ++ wsX30)
def wsX2_reportToHeads_r1 : List Cond := [Cond.fieldLink RX2 9 "ClusterField$Rounds" "net" "LClusterField$Network;", Cond.fieldLink RX2 64 "ClusterField$Network" "count" "I", Cond.methodLink RX2 123 yX2_isHead, Cond.instanceMethod yX2_isHead, Cond.selects RX2 yX2_isHead yX2_isHead, Cond.initialized RX2, Cond.code yX2_isHead cX2_isHead 2 (some .boolean), Cond.fieldLink RX2 67 "ClusterField$Network" "sensors" "[LClusterField$Sensor;", Cond.fieldLink RX2 107 "ClusterField$Sensor" "head" "I", Cond.methodLink RX2 144 yX2_reportTo, Cond.instanceMethod yX2_reportTo, Cond.selects RX2 yX2_reportTo yX2_reportTo, Cond.code yX2_reportTo cX2_reportTo 5 none, Cond.fieldLink RX2 84 "ClusterField$Sensor" "alive" "Z", Cond.fieldLink RX2 151 "ClusterField$Sensor" "readings" "I", Cond.methodLink RX2 137 yX2_hasJoined, Cond.instanceMethod yX2_hasJoined, Cond.selects RX2 yX2_hasJoined yX2_hasJoined, Cond.code yX2_hasJoined cX2_hasJoined 3 (some .boolean), Cond.methodLink RX2 147 yX2_sends, Cond.instanceMethod yX2_sends, Cond.selects RX2 yX2_sends yX2_sends, Cond.code yX2_sends cX2_sends 3 (some .boolean), Cond.fieldLink RX2 113 "ClusterField$Sensor" "x" "I"]
def wsX2_reportToHeads_r2 : List Cond := [Cond.fieldLink RX2 116 "ClusterField$Sensor" "y" "I", Cond.fieldLink RX2 80 "ClusterField$Network" "settings" "[I", Cond.methodLink RX2 134 yX3_distanceTo, Cond.instanceMethod yX3_distanceTo, Cond.selects RX3 yX3_distanceTo yX3_distanceTo, Cond.initialized RX3, Cond.code yX3_distanceTo cX3_distanceTo 5 (some .int), Cond.fieldLink RX3 9 "ClusterField$Sensor" "x" "I", Cond.fieldLink RX3 15 "ClusterField$Sensor" "y" "I", Cond.methodLink RX2 173 yX1_costOver, Cond.instanceMethod yX1_costOver, Cond.selects RX1 yX1_costOver yX1_costOver, Cond.initialized RX1, Cond.code yX1_costOver cX1_costOver 3 (some .int), Cond.fieldLink RX1 17 "ClusterField$Network" "settings" "[I", Cond.methodLink RX2 103 yX2_pays, Cond.instanceMethod yX2_pays, Cond.selects RX2 yX2_pays yX2_pays, Cond.code yX2_pays cX2_pays 3 (some .boolean), Cond.fieldLink RX2 177 "ClusterField$Sensor" "battery" "I", Cond.fieldLink RX2 58 "ClusterField$Network" "round" "I", Cond.fieldLink RX2 180 "ClusterField$Sensor" "deathRound" "I", Cond.fieldLink RX2 183 "ClusterField$Network" "paid" "I"]
def wsX2_reportToHeads : List Cond := .code yX2_reportToHeads cX2_reportToHeads 2 none :: ((wsX2_reportToHeads_r1 ++ wsX2_reportToHeads_r2) ++ wsX20 ++ wsX10 ++ wsX30)
def wsX2_addOwnReadings : List Cond := .code yX2_addOwnReadings cX2_addOwnReadings 3 none :: ([.fieldLink RX2 9 "ClusterField$Rounds" "net" "LClusterField$Network;", .fieldLink RX2 64 "ClusterField$Network" "count" "I", .fieldLink RX2 67 "ClusterField$Network" "sensors" "[LClusterField$Sensor;", .fieldLink RX2 80 "ClusterField$Network" "settings" "[I", .fieldLink RX2 151 "ClusterField$Sensor" "readings" "I", .methodLink RX2 131 yX2_isLivingHead, .instanceMethod yX2_isLivingHead, .selects RX2 yX2_isLivingHead yX2_isLivingHead, .initialized RX2, .code yX2_isLivingHead cX2_isLivingHead 3 (some .boolean), .fieldLink RX2 84 "ClusterField$Sensor" "alive" "Z", .fieldLink RX2 107 "ClusterField$Sensor" "head" "I", .methodLink RX2 103 yX2_pays, .instanceMethod yX2_pays, .selects RX2 yX2_pays yX2_pays, .code yX2_pays cX2_pays 3 (some .boolean), .fieldLink RX2 177 "ClusterField$Sensor" "battery" "I", .fieldLink RX2 58 "ClusterField$Network" "round" "I", .fieldLink RX2 180 "ClusterField$Sensor" "deathRound" "I", .fieldLink RX2 183 "ClusterField$Network" "paid" "I"] ++ wsX20 ++ wsX10 ++ wsX30)
def wsX2_deliverThroughRelay_r1 : List Cond := [Cond.fieldLink RX2 9 "ClusterField$Rounds" "net" "LClusterField$Network;", Cond.fieldLink RX2 164 "ClusterField$Network" "baseX" "I", Cond.fieldLink RX2 167 "ClusterField$Network" "baseY" "I", Cond.fieldLink RX2 67 "ClusterField$Network" "sensors" "[LClusterField$Sensor;", Cond.fieldLink RX2 64 "ClusterField$Network" "count" "I", Cond.fieldLink RX2 151 "ClusterField$Sensor" "readings" "I", Cond.fieldLink RX2 84 "ClusterField$Sensor" "alive" "Z", Cond.methodLink RX2 119 yX2_nearestHead, Cond.instanceMethod yX2_nearestHead, Cond.selects RX2 yX2_nearestHead yX2_nearestHead, Cond.initialized RX2, Cond.code yX2_nearestHead cX2_nearestHead 7 (some .int), Cond.methodLink RX2 131 yX2_isLivingHead, Cond.instanceMethod yX2_isLivingHead, Cond.selects RX2 yX2_isLivingHead yX2_isLivingHead, Cond.code yX2_isLivingHead cX2_isLivingHead 3 (some .boolean), Cond.fieldLink RX2 107 "ClusterField$Sensor" "head" "I", Cond.methodLink RX2 134 yX3_distanceTo, Cond.instanceMethod yX3_distanceTo, Cond.selects RX3 yX3_distanceTo yX3_distanceTo, Cond.initialized RX3, Cond.code yX3_distanceTo cX3_distanceTo 5 (some .int), Cond.fieldLink RX3 9 "ClusterField$Sensor" "x" "I", Cond.fieldLink RX3 15 "ClusterField$Sensor" "y" "I"]
def wsX2_deliverThroughRelay_r2 : List Cond := [Cond.methodLink RX2 170 yX1_has, Cond.instanceMethod yX1_has, Cond.selects RX1 yX1_has yX1_has, Cond.initialized RX1, Cond.code yX1_has cX1_has 2 (some .boolean), Cond.fieldLink RX1 41 "ClusterField$Network" "count" "I", Cond.methodLink RX2 147 yX2_sends, Cond.instanceMethod yX2_sends, Cond.selects RX2 yX2_sends yX2_sends, Cond.code yX2_sends cX2_sends 3 (some .boolean), Cond.fieldLink RX2 113 "ClusterField$Sensor" "x" "I", Cond.fieldLink RX2 116 "ClusterField$Sensor" "y" "I", Cond.fieldLink RX2 80 "ClusterField$Network" "settings" "[I", Cond.methodLink RX2 173 yX1_costOver, Cond.instanceMethod yX1_costOver, Cond.selects RX1 yX1_costOver yX1_costOver, Cond.code yX1_costOver cX1_costOver 3 (some .int), Cond.fieldLink RX1 17 "ClusterField$Network" "settings" "[I", Cond.methodLink RX2 103 yX2_pays, Cond.instanceMethod yX2_pays, Cond.selects RX2 yX2_pays yX2_pays, Cond.code yX2_pays cX2_pays 3 (some .boolean), Cond.fieldLink RX2 177 "ClusterField$Sensor" "battery" "I", Cond.fieldLink RX2 58 "ClusterField$Network" "round" "I"]
def wsX2_deliverThroughRelay_r3 : List Cond := [Cond.fieldLink RX2 180 "ClusterField$Sensor" "deathRound" "I", Cond.fieldLink RX2 183 "ClusterField$Network" "paid" "I", Cond.methodLink RX2 160 yX2_sendToBase, Cond.instanceMethod yX2_sendToBase, Cond.selects RX2 yX2_sendToBase yX2_sendToBase, Cond.code yX2_sendToBase cX2_sendToBase 3 none, Cond.fieldLink RX2 55 "ClusterField$Network" "lastReadings" "I"]
def wsX2_deliverThroughRelay : List Cond := .code yX2_deliverThroughRelay cX2_deliverThroughRelay 5 none :: ((wsX2_deliverThroughRelay_r1 ++ (wsX2_deliverThroughRelay_r2 ++ wsX2_deliverThroughRelay_r3)) ++ wsX20 ++ wsX10 ++ wsX30)
def wsX2_deliverDirectly_r1 : List Cond := [Cond.fieldLink RX2 9 "ClusterField$Rounds" "net" "LClusterField$Network;", Cond.fieldLink RX2 64 "ClusterField$Network" "count" "I", Cond.fieldLink RX2 67 "ClusterField$Network" "sensors" "[LClusterField$Sensor;", Cond.fieldLink RX2 151 "ClusterField$Sensor" "readings" "I", Cond.methodLink RX2 131 yX2_isLivingHead, Cond.instanceMethod yX2_isLivingHead, Cond.selects RX2 yX2_isLivingHead yX2_isLivingHead, Cond.initialized RX2, Cond.code yX2_isLivingHead cX2_isLivingHead 3 (some .boolean), Cond.fieldLink RX2 84 "ClusterField$Sensor" "alive" "Z", Cond.fieldLink RX2 107 "ClusterField$Sensor" "head" "I", Cond.methodLink RX2 160 yX2_sendToBase, Cond.instanceMethod yX2_sendToBase, Cond.selects RX2 yX2_sendToBase yX2_sendToBase, Cond.code yX2_sendToBase cX2_sendToBase 3 none, Cond.fieldLink RX2 164 "ClusterField$Network" "baseX" "I", Cond.fieldLink RX2 167 "ClusterField$Network" "baseY" "I", Cond.fieldLink RX2 55 "ClusterField$Network" "lastReadings" "I", Cond.methodLink RX2 134 yX3_distanceTo, Cond.instanceMethod yX3_distanceTo, Cond.selects RX3 yX3_distanceTo yX3_distanceTo, Cond.initialized RX3, Cond.code yX3_distanceTo cX3_distanceTo 5 (some .int), Cond.fieldLink RX3 9 "ClusterField$Sensor" "x" "I"]
def wsX2_deliverDirectly_r2 : List Cond := [Cond.fieldLink RX3 15 "ClusterField$Sensor" "y" "I", Cond.methodLink RX2 173 yX1_costOver, Cond.instanceMethod yX1_costOver, Cond.selects RX1 yX1_costOver yX1_costOver, Cond.initialized RX1, Cond.code yX1_costOver cX1_costOver 3 (some .int), Cond.fieldLink RX1 17 "ClusterField$Network" "settings" "[I", Cond.methodLink RX2 103 yX2_pays, Cond.instanceMethod yX2_pays, Cond.selects RX2 yX2_pays yX2_pays, Cond.code yX2_pays cX2_pays 3 (some .boolean), Cond.fieldLink RX2 177 "ClusterField$Sensor" "battery" "I", Cond.fieldLink RX2 58 "ClusterField$Network" "round" "I", Cond.fieldLink RX2 180 "ClusterField$Sensor" "deathRound" "I", Cond.fieldLink RX2 183 "ClusterField$Network" "paid" "I"]
def wsX2_deliverDirectly : List Cond := .code yX2_deliverDirectly cX2_deliverDirectly 3 none :: ((wsX2_deliverDirectly_r1 ++ wsX2_deliverDirectly_r2) ++ wsX20 ++ wsX10 ++ wsX30)
def wsX2_deliver_r1 : List Cond := [Cond.fieldLink RX2 9 "ClusterField$Rounds" "net" "LClusterField$Network;", Cond.fieldLink RX2 80 "ClusterField$Network" "settings" "[I", Cond.methodLink RX2 154 yX2_deliverThroughRelay, Cond.instanceMethod yX2_deliverThroughRelay, Cond.selects RX2 yX2_deliverThroughRelay yX2_deliverThroughRelay, Cond.initialized RX2, Cond.code yX2_deliverThroughRelay cX2_deliverThroughRelay 5 none, Cond.fieldLink RX2 164 "ClusterField$Network" "baseX" "I", Cond.fieldLink RX2 167 "ClusterField$Network" "baseY" "I", Cond.fieldLink RX2 67 "ClusterField$Network" "sensors" "[LClusterField$Sensor;", Cond.fieldLink RX2 64 "ClusterField$Network" "count" "I", Cond.fieldLink RX2 151 "ClusterField$Sensor" "readings" "I", Cond.fieldLink RX2 84 "ClusterField$Sensor" "alive" "Z", Cond.methodLink RX2 119 yX2_nearestHead, Cond.instanceMethod yX2_nearestHead, Cond.selects RX2 yX2_nearestHead yX2_nearestHead, Cond.code yX2_nearestHead cX2_nearestHead 7 (some .int), Cond.methodLink RX2 131 yX2_isLivingHead, Cond.instanceMethod yX2_isLivingHead, Cond.selects RX2 yX2_isLivingHead yX2_isLivingHead, Cond.code yX2_isLivingHead cX2_isLivingHead 3 (some .boolean), Cond.fieldLink RX2 107 "ClusterField$Sensor" "head" "I", Cond.methodLink RX2 134 yX3_distanceTo, Cond.instanceMethod yX3_distanceTo]
def wsX2_deliver_r2 : List Cond := [Cond.selects RX3 yX3_distanceTo yX3_distanceTo, Cond.initialized RX3, Cond.code yX3_distanceTo cX3_distanceTo 5 (some .int), Cond.fieldLink RX3 9 "ClusterField$Sensor" "x" "I", Cond.fieldLink RX3 15 "ClusterField$Sensor" "y" "I", Cond.methodLink RX2 170 yX1_has, Cond.instanceMethod yX1_has, Cond.selects RX1 yX1_has yX1_has, Cond.initialized RX1, Cond.code yX1_has cX1_has 2 (some .boolean), Cond.fieldLink RX1 41 "ClusterField$Network" "count" "I", Cond.methodLink RX2 147 yX2_sends, Cond.instanceMethod yX2_sends, Cond.selects RX2 yX2_sends yX2_sends, Cond.code yX2_sends cX2_sends 3 (some .boolean), Cond.fieldLink RX2 113 "ClusterField$Sensor" "x" "I", Cond.fieldLink RX2 116 "ClusterField$Sensor" "y" "I", Cond.methodLink RX2 173 yX1_costOver, Cond.instanceMethod yX1_costOver, Cond.selects RX1 yX1_costOver yX1_costOver, Cond.code yX1_costOver cX1_costOver 3 (some .int), Cond.fieldLink RX1 17 "ClusterField$Network" "settings" "[I", Cond.methodLink RX2 103 yX2_pays, Cond.instanceMethod yX2_pays]
def wsX2_deliver_r3 : List Cond := [Cond.selects RX2 yX2_pays yX2_pays, Cond.code yX2_pays cX2_pays 3 (some .boolean), Cond.fieldLink RX2 177 "ClusterField$Sensor" "battery" "I", Cond.fieldLink RX2 58 "ClusterField$Network" "round" "I", Cond.fieldLink RX2 180 "ClusterField$Sensor" "deathRound" "I", Cond.fieldLink RX2 183 "ClusterField$Network" "paid" "I", Cond.methodLink RX2 160 yX2_sendToBase, Cond.instanceMethod yX2_sendToBase, Cond.selects RX2 yX2_sendToBase yX2_sendToBase, Cond.code yX2_sendToBase cX2_sendToBase 3 none, Cond.fieldLink RX2 55 "ClusterField$Network" "lastReadings" "I", Cond.methodLink RX2 157 yX2_deliverDirectly, Cond.instanceMethod yX2_deliverDirectly, Cond.selects RX2 yX2_deliverDirectly yX2_deliverDirectly, Cond.code yX2_deliverDirectly cX2_deliverDirectly 3 none]
def wsX2_deliver : List Cond := .code yX2_deliver cX2_deliver 1 none :: ((wsX2_deliver_r1 ++ (wsX2_deliver_r2 ++ wsX2_deliver_r3)) ++ wsX20 ++ wsX10 ++ wsX30)
def wsX2_performOne_r1 : List Cond := [Cond.fieldLink RX2 9 "ClusterField$Rounds" "net" "LClusterField$Network;", Cond.fieldLink RX2 33 "ClusterField$Network" "lastHeads" "I", Cond.fieldLink RX2 52 "ClusterField$Network" "allReadings" "I", Cond.fieldLink RX2 55 "ClusterField$Network" "lastReadings" "I", Cond.fieldLink RX2 58 "ClusterField$Network" "round" "I", Cond.methodLink RX2 24 yX2_begin, Cond.instanceMethod yX2_begin, Cond.selects RX2 yX2_begin yX2_begin, Cond.initialized RX2, Cond.code yX2_begin cX2_begin 4 none, Cond.fieldLink RX2 64 "ClusterField$Network" "count" "I", Cond.fieldLink RX2 67 "ClusterField$Network" "sensors" "[LClusterField$Sensor;", Cond.fieldLink RX2 76 "ClusterField$Sensor" "eligible" "Z", Cond.methodLink RX2 61 yX1_phase, Cond.instanceMethod yX1_phase, Cond.selects RX1 yX1_phase yX1_phase, Cond.initialized RX1, Cond.code yX1_phase cX1_phase 2 (some .int), Cond.fieldLink RX1 17 "ClusterField$Network" "settings" "[I", Cond.fieldLink RX1 48 "ClusterField$Network" "round" "I", Cond.methodLink RX2 71 yX3_beginRound, Cond.instanceMethod yX3_beginRound, Cond.selects RX3 yX3_beginRound yX3_beginRound, Cond.initialized RX3]
def wsX2_performOne_r2 : List Cond := [Cond.code yX3_beginRound cX3_beginRound 1 none, Cond.fieldLink RX3 37 "ClusterField$Sensor" "head" "I", Cond.fieldLink RX3 40 "ClusterField$Sensor" "slot" "I", Cond.fieldLink RX3 43 "ClusterField$Sensor" "elected" "Z", Cond.fieldLink RX3 46 "ClusterField$Sensor" "readings" "I", Cond.methodLink RX2 27 yX2_elect, Cond.instanceMethod yX2_elect, Cond.selects RX2 yX2_elect yX2_elect, Cond.code yX2_elect cX2_elect 4 none, Cond.fieldLink RX2 80 "ClusterField$Network" "settings" "[I", Cond.fieldLink RX2 84 "ClusterField$Sensor" "alive" "Z", Cond.fieldLink RX2 90 "ClusterField$Sensor" "elected" "Z", Cond.methodLink RX2 87 yX2_draw, Cond.instanceMethod yX2_draw, Cond.selects RX2 yX2_draw yX2_draw, Cond.code yX2_draw cX2_draw 3 (some .int), Cond.fieldLink RX2 93 "ClusterField$Network" "generator" "I", Cond.constantLong RX2 96 (1103515245), Cond.constantLong RX2 98 (12345), Cond.constantLong RX2 100 (2147483648), Cond.constant RX2 102 (65536), Cond.methodLink RX2 30 yX2_announce, Cond.instanceMethod yX2_announce, Cond.selects RX2 yX2_announce yX2_announce]
def wsX2_performOne_r3 : List Cond := [Cond.code yX2_announce cX2_announce 3 none, Cond.fieldLink RX2 107 "ClusterField$Sensor" "head" "I", Cond.fieldLink RX2 110 "ClusterField$Sensor" "headRounds" "I", Cond.methodLink RX2 103 yX2_pays, Cond.instanceMethod yX2_pays, Cond.selects RX2 yX2_pays yX2_pays, Cond.code yX2_pays cX2_pays 3 (some .boolean), Cond.fieldLink RX2 177 "ClusterField$Sensor" "battery" "I", Cond.fieldLink RX2 180 "ClusterField$Sensor" "deathRound" "I", Cond.fieldLink RX2 183 "ClusterField$Network" "paid" "I", Cond.methodLink RX2 37 yX2_reportToBase, Cond.instanceMethod yX2_reportToBase, Cond.selects RX2 yX2_reportToBase yX2_reportToBase, Cond.code yX2_reportToBase cX2_reportToBase 3 none, Cond.methodLink RX2 160 yX2_sendToBase, Cond.instanceMethod yX2_sendToBase, Cond.selects RX2 yX2_sendToBase yX2_sendToBase, Cond.code yX2_sendToBase cX2_sendToBase 3 none, Cond.fieldLink RX2 164 "ClusterField$Network" "baseX" "I", Cond.fieldLink RX2 167 "ClusterField$Network" "baseY" "I", Cond.methodLink RX2 134 yX3_distanceTo, Cond.instanceMethod yX3_distanceTo, Cond.selects RX3 yX3_distanceTo yX3_distanceTo, Cond.code yX3_distanceTo cX3_distanceTo 5 (some .int)]
def wsX2_performOne_r4 : List Cond := [Cond.fieldLink RX3 9 "ClusterField$Sensor" "x" "I", Cond.fieldLink RX3 15 "ClusterField$Sensor" "y" "I", Cond.methodLink RX2 173 yX1_costOver, Cond.instanceMethod yX1_costOver, Cond.selects RX1 yX1_costOver yX1_costOver, Cond.code yX1_costOver cX1_costOver 3 (some .int), Cond.methodLink RX2 40 yX2_join, Cond.instanceMethod yX2_join, Cond.selects RX2 yX2_join yX2_join, Cond.code yX2_join cX2_join 3 none, Cond.fieldLink RX2 113 "ClusterField$Sensor" "x" "I", Cond.fieldLink RX2 116 "ClusterField$Sensor" "y" "I", Cond.methodLink RX2 119 yX2_nearestHead, Cond.instanceMethod yX2_nearestHead, Cond.selects RX2 yX2_nearestHead yX2_nearestHead, Cond.code yX2_nearestHead cX2_nearestHead 7 (some .int), Cond.methodLink RX2 131 yX2_isLivingHead, Cond.instanceMethod yX2_isLivingHead, Cond.selects RX2 yX2_isLivingHead yX2_isLivingHead, Cond.code yX2_isLivingHead cX2_isLivingHead 3 (some .boolean), Cond.methodLink RX2 123 yX2_isHead, Cond.instanceMethod yX2_isHead, Cond.selects RX2 yX2_isHead yX2_isHead, Cond.code yX2_isHead cX2_isHead 2 (some .boolean)]
def wsX2_performOne_r5 : List Cond := [Cond.methodLink RX2 127 yX2_giveSlots, Cond.instanceMethod yX2_giveSlots, Cond.selects RX2 yX2_giveSlots yX2_giveSlots, Cond.code yX2_giveSlots cX2_giveSlots 4 none, Cond.fieldLink RX2 141 "ClusterField$Sensor" "slot" "I", Cond.methodLink RX2 137 yX2_hasJoined, Cond.instanceMethod yX2_hasJoined, Cond.selects RX2 yX2_hasJoined yX2_hasJoined, Cond.code yX2_hasJoined cX2_hasJoined 3 (some .boolean), Cond.methodLink RX2 43 yX2_reportToHeads, Cond.instanceMethod yX2_reportToHeads, Cond.selects RX2 yX2_reportToHeads yX2_reportToHeads, Cond.code yX2_reportToHeads cX2_reportToHeads 2 none, Cond.methodLink RX2 144 yX2_reportTo, Cond.instanceMethod yX2_reportTo, Cond.selects RX2 yX2_reportTo yX2_reportTo, Cond.code yX2_reportTo cX2_reportTo 5 none, Cond.fieldLink RX2 151 "ClusterField$Sensor" "readings" "I", Cond.methodLink RX2 147 yX2_sends, Cond.instanceMethod yX2_sends, Cond.selects RX2 yX2_sends yX2_sends, Cond.code yX2_sends cX2_sends 3 (some .boolean), Cond.methodLink RX2 46 yX2_addOwnReadings, Cond.instanceMethod yX2_addOwnReadings]
def wsX2_performOne_r6 : List Cond := [Cond.selects RX2 yX2_addOwnReadings yX2_addOwnReadings, Cond.code yX2_addOwnReadings cX2_addOwnReadings 3 none, Cond.methodLink RX2 49 yX2_deliver, Cond.instanceMethod yX2_deliver, Cond.selects RX2 yX2_deliver yX2_deliver, Cond.code yX2_deliver cX2_deliver 1 none, Cond.methodLink RX2 154 yX2_deliverThroughRelay, Cond.instanceMethod yX2_deliverThroughRelay, Cond.selects RX2 yX2_deliverThroughRelay yX2_deliverThroughRelay, Cond.code yX2_deliverThroughRelay cX2_deliverThroughRelay 5 none, Cond.methodLink RX2 170 yX1_has, Cond.instanceMethod yX1_has, Cond.selects RX1 yX1_has yX1_has, Cond.code yX1_has cX1_has 2 (some .boolean), Cond.fieldLink RX1 41 "ClusterField$Network" "count" "I", Cond.methodLink RX2 157 yX2_deliverDirectly, Cond.instanceMethod yX2_deliverDirectly, Cond.selects RX2 yX2_deliverDirectly yX2_deliverDirectly, Cond.code yX2_deliverDirectly cX2_deliverDirectly 3 none]
def wsX2_performOne : List Cond := .code yX2_performOne cX2_performOne 1 none :: ((wsX2_performOne_r1 ++ (wsX2_performOne_r2 ++ (wsX2_performOne_r3 ++ (wsX2_performOne_r4 ++ (wsX2_performOne_r5 ++ wsX2_performOne_r6))))) ++ wsX20 ++ wsX10 ++ wsX30)
def wsX2_perform_r1 : List Cond := [Cond.fieldLink RX2 9 "ClusterField$Rounds" "net" "LClusterField$Network;", Cond.methodLink RX2 15 yX1_countAlive, Cond.instanceMethod yX1_countAlive, Cond.selects RX1 yX1_countAlive yX1_countAlive, Cond.initialized RX1, Cond.code yX1_countAlive cX1_countAlive 3 (some .int), Cond.fieldLink RX1 41 "ClusterField$Network" "count" "I", Cond.fieldLink RX1 11 "ClusterField$Network" "sensors" "[LClusterField$Sensor;", Cond.fieldLink RX1 63 "ClusterField$Sensor" "alive" "Z", Cond.methodLink RX2 21 yX2_performOne, Cond.instanceMethod yX2_performOne, Cond.selects RX2 yX2_performOne yX2_performOne, Cond.initialized RX2, Cond.code yX2_performOne cX2_performOne 1 none, Cond.fieldLink RX2 33 "ClusterField$Network" "lastHeads" "I", Cond.fieldLink RX2 52 "ClusterField$Network" "allReadings" "I", Cond.fieldLink RX2 55 "ClusterField$Network" "lastReadings" "I", Cond.fieldLink RX2 58 "ClusterField$Network" "round" "I", Cond.methodLink RX2 24 yX2_begin, Cond.instanceMethod yX2_begin, Cond.selects RX2 yX2_begin yX2_begin, Cond.code yX2_begin cX2_begin 4 none, Cond.fieldLink RX2 64 "ClusterField$Network" "count" "I", Cond.fieldLink RX2 67 "ClusterField$Network" "sensors" "[LClusterField$Sensor;"]
def wsX2_perform_r2 : List Cond := [Cond.fieldLink RX2 76 "ClusterField$Sensor" "eligible" "Z", Cond.methodLink RX2 61 yX1_phase, Cond.instanceMethod yX1_phase, Cond.selects RX1 yX1_phase yX1_phase, Cond.code yX1_phase cX1_phase 2 (some .int), Cond.fieldLink RX1 17 "ClusterField$Network" "settings" "[I", Cond.fieldLink RX1 48 "ClusterField$Network" "round" "I", Cond.methodLink RX2 71 yX3_beginRound, Cond.instanceMethod yX3_beginRound, Cond.selects RX3 yX3_beginRound yX3_beginRound, Cond.initialized RX3, Cond.code yX3_beginRound cX3_beginRound 1 none, Cond.fieldLink RX3 37 "ClusterField$Sensor" "head" "I", Cond.fieldLink RX3 40 "ClusterField$Sensor" "slot" "I", Cond.fieldLink RX3 43 "ClusterField$Sensor" "elected" "Z", Cond.fieldLink RX3 46 "ClusterField$Sensor" "readings" "I", Cond.methodLink RX2 27 yX2_elect, Cond.instanceMethod yX2_elect, Cond.selects RX2 yX2_elect yX2_elect, Cond.code yX2_elect cX2_elect 4 none, Cond.fieldLink RX2 80 "ClusterField$Network" "settings" "[I", Cond.fieldLink RX2 84 "ClusterField$Sensor" "alive" "Z", Cond.fieldLink RX2 90 "ClusterField$Sensor" "elected" "Z", Cond.methodLink RX2 87 yX2_draw]
def wsX2_perform_r3 : List Cond := [Cond.instanceMethod yX2_draw, Cond.selects RX2 yX2_draw yX2_draw, Cond.code yX2_draw cX2_draw 3 (some .int), Cond.fieldLink RX2 93 "ClusterField$Network" "generator" "I", Cond.constantLong RX2 96 (1103515245), Cond.constantLong RX2 98 (12345), Cond.constantLong RX2 100 (2147483648), Cond.constant RX2 102 (65536), Cond.methodLink RX2 30 yX2_announce, Cond.instanceMethod yX2_announce, Cond.selects RX2 yX2_announce yX2_announce, Cond.code yX2_announce cX2_announce 3 none, Cond.fieldLink RX2 107 "ClusterField$Sensor" "head" "I", Cond.fieldLink RX2 110 "ClusterField$Sensor" "headRounds" "I", Cond.methodLink RX2 103 yX2_pays, Cond.instanceMethod yX2_pays, Cond.selects RX2 yX2_pays yX2_pays, Cond.code yX2_pays cX2_pays 3 (some .boolean), Cond.fieldLink RX2 177 "ClusterField$Sensor" "battery" "I", Cond.fieldLink RX2 180 "ClusterField$Sensor" "deathRound" "I", Cond.fieldLink RX2 183 "ClusterField$Network" "paid" "I", Cond.methodLink RX2 37 yX2_reportToBase, Cond.instanceMethod yX2_reportToBase, Cond.selects RX2 yX2_reportToBase yX2_reportToBase]
def wsX2_perform_r4 : List Cond := [Cond.code yX2_reportToBase cX2_reportToBase 3 none, Cond.methodLink RX2 160 yX2_sendToBase, Cond.instanceMethod yX2_sendToBase, Cond.selects RX2 yX2_sendToBase yX2_sendToBase, Cond.code yX2_sendToBase cX2_sendToBase 3 none, Cond.fieldLink RX2 164 "ClusterField$Network" "baseX" "I", Cond.fieldLink RX2 167 "ClusterField$Network" "baseY" "I", Cond.methodLink RX2 134 yX3_distanceTo, Cond.instanceMethod yX3_distanceTo, Cond.selects RX3 yX3_distanceTo yX3_distanceTo, Cond.code yX3_distanceTo cX3_distanceTo 5 (some .int), Cond.fieldLink RX3 9 "ClusterField$Sensor" "x" "I", Cond.fieldLink RX3 15 "ClusterField$Sensor" "y" "I", Cond.methodLink RX2 173 yX1_costOver, Cond.instanceMethod yX1_costOver, Cond.selects RX1 yX1_costOver yX1_costOver, Cond.code yX1_costOver cX1_costOver 3 (some .int), Cond.methodLink RX2 40 yX2_join, Cond.instanceMethod yX2_join, Cond.selects RX2 yX2_join yX2_join, Cond.code yX2_join cX2_join 3 none, Cond.fieldLink RX2 113 "ClusterField$Sensor" "x" "I", Cond.fieldLink RX2 116 "ClusterField$Sensor" "y" "I", Cond.methodLink RX2 119 yX2_nearestHead]
def wsX2_perform_r5 : List Cond := [Cond.instanceMethod yX2_nearestHead, Cond.selects RX2 yX2_nearestHead yX2_nearestHead, Cond.code yX2_nearestHead cX2_nearestHead 7 (some .int), Cond.methodLink RX2 131 yX2_isLivingHead, Cond.instanceMethod yX2_isLivingHead, Cond.selects RX2 yX2_isLivingHead yX2_isLivingHead, Cond.code yX2_isLivingHead cX2_isLivingHead 3 (some .boolean), Cond.methodLink RX2 123 yX2_isHead, Cond.instanceMethod yX2_isHead, Cond.selects RX2 yX2_isHead yX2_isHead, Cond.code yX2_isHead cX2_isHead 2 (some .boolean), Cond.methodLink RX2 127 yX2_giveSlots, Cond.instanceMethod yX2_giveSlots, Cond.selects RX2 yX2_giveSlots yX2_giveSlots, Cond.code yX2_giveSlots cX2_giveSlots 4 none, Cond.fieldLink RX2 141 "ClusterField$Sensor" "slot" "I", Cond.methodLink RX2 137 yX2_hasJoined, Cond.instanceMethod yX2_hasJoined, Cond.selects RX2 yX2_hasJoined yX2_hasJoined, Cond.code yX2_hasJoined cX2_hasJoined 3 (some .boolean), Cond.methodLink RX2 43 yX2_reportToHeads, Cond.instanceMethod yX2_reportToHeads, Cond.selects RX2 yX2_reportToHeads yX2_reportToHeads, Cond.code yX2_reportToHeads cX2_reportToHeads 2 none]
def wsX2_perform_r6 : List Cond := [Cond.methodLink RX2 144 yX2_reportTo, Cond.instanceMethod yX2_reportTo, Cond.selects RX2 yX2_reportTo yX2_reportTo, Cond.code yX2_reportTo cX2_reportTo 5 none, Cond.fieldLink RX2 151 "ClusterField$Sensor" "readings" "I", Cond.methodLink RX2 147 yX2_sends, Cond.instanceMethod yX2_sends, Cond.selects RX2 yX2_sends yX2_sends, Cond.code yX2_sends cX2_sends 3 (some .boolean), Cond.methodLink RX2 46 yX2_addOwnReadings, Cond.instanceMethod yX2_addOwnReadings, Cond.selects RX2 yX2_addOwnReadings yX2_addOwnReadings, Cond.code yX2_addOwnReadings cX2_addOwnReadings 3 none, Cond.methodLink RX2 49 yX2_deliver, Cond.instanceMethod yX2_deliver, Cond.selects RX2 yX2_deliver yX2_deliver, Cond.code yX2_deliver cX2_deliver 1 none, Cond.methodLink RX2 154 yX2_deliverThroughRelay, Cond.instanceMethod yX2_deliverThroughRelay, Cond.selects RX2 yX2_deliverThroughRelay yX2_deliverThroughRelay, Cond.code yX2_deliverThroughRelay cX2_deliverThroughRelay 5 none, Cond.methodLink RX2 170 yX1_has, Cond.instanceMethod yX1_has, Cond.selects RX1 yX1_has yX1_has]
def wsX2_perform_r7 : List Cond := [Cond.code yX1_has cX1_has 2 (some .boolean), Cond.methodLink RX2 157 yX2_deliverDirectly, Cond.instanceMethod yX2_deliverDirectly, Cond.selects RX2 yX2_deliverDirectly yX2_deliverDirectly, Cond.code yX2_deliverDirectly cX2_deliverDirectly 3 none]
def wsX2_perform : List Cond := .code yX2_perform cX2_perform 3 (some .int) :: ((wsX2_perform_r1 ++ (wsX2_perform_r2 ++ (wsX2_perform_r3 ++ (wsX2_perform_r4 ++ (wsX2_perform_r5 ++ (wsX2_perform_r6 ++ wsX2_perform_r7)))))) ++ wsX20 ++ wsX10 ++ wsX30)
def wsX3_place : List Cond := .code yX3_place cX3_place 4 none :: ([.fieldLink RX3 9 "ClusterField$Sensor" "x" "I", .fieldLink RX3 15 "ClusterField$Sensor" "y" "I", .fieldLink RX3 18 "ClusterField$Sensor" "battery" "I", .fieldLink RX3 21 "ClusterField$Sensor" "alive" "Z", .fieldLink RX3 25 "ClusterField$Sensor" "eligible" "Z", .fieldLink RX3 28 "ClusterField$Sensor" "headRounds" "I", .fieldLink RX3 31 "ClusterField$Sensor" "deathRound" "I", .methodLink RX3 34 yX3_beginRound, .instanceMethod yX3_beginRound, .selects RX3 yX3_beginRound yX3_beginRound, .initialized RX3, .code yX3_beginRound cX3_beginRound 1 none, .fieldLink RX3 37 "ClusterField$Sensor" "head" "I", .fieldLink RX3 40 "ClusterField$Sensor" "slot" "I", .fieldLink RX3 43 "ClusterField$Sensor" "elected" "Z", .fieldLink RX3 46 "ClusterField$Sensor" "readings" "I"] ++ wsX30)
def wsX4_init_r1 : List Cond := [Cond.methodLink RX4 1 objectInit, Cond.instanceMethod objectInit, Cond.code objectInit ⟨#[0xb1]⟩ 1 none, Cond.classLink RX4 7 RX1, Cond.instantiable RX1 11, Cond.initialized RX1, Cond.fieldLink RX4 10 "ClusterField" "network" "LClusterField$Network;", Cond.classLink RX4 16 RX2, Cond.instantiable RX2 1, Cond.initialized RX2, Cond.fieldLink RX4 21 "ClusterField" "livePlay" "LClusterField$Rounds;", Cond.fieldLink RX4 25 "ClusterField" "trial" "LClusterField$Network;", Cond.fieldLink RX4 28 "ClusterField" "trialPlay" "LClusterField$Rounds;", Cond.classLink RX4 31 RX0, Cond.instantiable RX0 2, Cond.initialized RX0, Cond.fieldLink RX4 34 "ClusterField" "history" "LClusterField$History;", Cond.fieldLink RX4 38 "ClusterField" "snapshots" "[LClusterField$Network;", Cond.arrayClass .boolean, Cond.fieldLink RX4 42 "ClusterField" "snapshotFilled" "[Z", Cond.methodLink RX4 9 yX1_init, Cond.instanceMethod yX1_init, Cond.code yX1_init cX1_init 2 none, Cond.methodLink RX1 3 objectInit]
def wsX4_init_r2 : List Cond := [Cond.classLink RX1 9 RX3, Cond.fieldLink RX1 11 "ClusterField$Network" "sensors" "[LClusterField$Sensor;", Cond.arrayClass .int, Cond.fieldLink RX1 17 "ClusterField$Network" "settings" "[I", Cond.fieldLink RX1 21 "ClusterField$Network" "baseX" "I", Cond.fieldLink RX1 25 "ClusterField$Network" "baseY" "I", Cond.fieldLink RX1 28 "ClusterField$Network" "generator" "I", Cond.instantiable RX3 11, Cond.initialized RX3, Cond.fieldLink RX1 32 "ClusterField$Network" "FIRST" "[I", Cond.methodLink RX1 35 arraycopyName, Cond.native arraycopyName, Cond.static arraycopyName, Cond.initialized "java/lang/System", Cond.instanceMethod yX3_init, Cond.code yX3_init cX3_init 1 none, Cond.methodLink RX3 3 objectInit, Cond.methodLink RX4 18 yX2_init, Cond.instanceMethod yX2_init, Cond.code yX2_init cX2_init 2 none, Cond.methodLink RX2 3 objectInit, Cond.fieldLink RX2 9 "ClusterField$Rounds" "net" "LClusterField$Network;", Cond.methodLink RX4 33 yX0_init, Cond.instanceMethod yX0_init]
def wsX4_init_r3 : List Cond := [Cond.code yX0_init cX0_init 2 none, Cond.methodLink RX0 1 objectInit, Cond.classLink RX0 9 RX1, Cond.fieldLink RX0 11 "ClusterField$History" "saved" "[LClusterField$Network;", Cond.methodLink RX0 15 yX1_init]
def wsX4_init : List Cond := .code yX4_init cX4_init 2 none :: ((wsX4_init_r1 ++ (wsX4_init_r2 ++ wsX4_init_r3)) ++ wsX10 ++ wsX40 ++ wsX20 ++ wsX00 ++ wsX30)
def wsX4_inRange : List Cond := .code yX4_inRange cX4_inRange 3 (some .boolean) :: ([])
def wsX4_addSensor_r1 : List Cond := [Cond.constant RX4 50 (100000), Cond.fieldLink RX4 10 "ClusterField" "network" "LClusterField$Network;", Cond.fieldLink RX4 51 "ClusterField$Network" "count" "I", Cond.fieldLink RX4 34 "ClusterField" "history" "LClusterField$History;", Cond.fieldLink RX4 58 "ClusterField$Network" "sensors" "[LClusterField$Sensor;", Cond.methodLink RX4 46 yX4_inRange, Cond.static yX4_inRange, Cond.initialized RX4, Cond.code yX4_inRange cX4_inRange 3 (some .boolean), Cond.methodLink RX4 55 yX0_push, Cond.instanceMethod yX0_push, Cond.selects RX0 yX0_push yX0_push, Cond.initialized RX0, Cond.code yX0_push cX0_push 2 none, Cond.fieldLink RX0 16 "ClusterField$History" "depth" "I", Cond.fieldLink RX0 11 "ClusterField$History" "saved" "[LClusterField$Network;", Cond.methodLink RX0 20 yX0_dropOldest, Cond.instanceMethod yX0_dropOldest, Cond.selects RX0 yX0_dropOldest yX0_dropOldest, Cond.code yX0_dropOldest cX0_dropOldest 3 none, Cond.methodLink RX0 23 yX1_copyFrom, Cond.instanceMethod yX1_copyFrom, Cond.selects RX1 yX1_copyFrom yX1_copyFrom, Cond.initialized RX1]
def wsX4_addSensor_r2 : List Cond := [Cond.code yX1_copyFrom cX1_copyFrom 3 none, Cond.fieldLink RX1 41 "ClusterField$Network" "count" "I", Cond.fieldLink RX1 11 "ClusterField$Network" "sensors" "[LClusterField$Sensor;", Cond.fieldLink RX1 17 "ClusterField$Network" "settings" "[I", Cond.methodLink RX1 35 arraycopyName, Cond.native arraycopyName, Cond.static arraycopyName, Cond.initialized "java/lang/System", Cond.fieldLink RX1 21 "ClusterField$Network" "baseX" "I", Cond.fieldLink RX1 25 "ClusterField$Network" "baseY" "I", Cond.fieldLink RX1 28 "ClusterField$Network" "generator" "I", Cond.fieldLink RX1 48 "ClusterField$Network" "round" "I", Cond.fieldLink RX1 51 "ClusterField$Network" "lastHeads" "I", Cond.fieldLink RX1 54 "ClusterField$Network" "lastReadings" "I", Cond.fieldLink RX1 57 "ClusterField$Network" "allReadings" "I", Cond.fieldLink RX1 60 "ClusterField$Network" "paid" "I", Cond.methodLink RX1 44 yX3_copyFrom, Cond.instanceMethod yX3_copyFrom, Cond.selects RX3 yX3_copyFrom yX3_copyFrom, Cond.initialized RX3, Cond.code yX3_copyFrom cX3_copyFrom 2 none, Cond.fieldLink RX3 9 "ClusterField$Sensor" "x" "I", Cond.fieldLink RX3 15 "ClusterField$Sensor" "y" "I", Cond.fieldLink RX3 18 "ClusterField$Sensor" "battery" "I"]
def wsX4_addSensor_r3 : List Cond := [Cond.fieldLink RX3 21 "ClusterField$Sensor" "alive" "Z", Cond.fieldLink RX3 25 "ClusterField$Sensor" "eligible" "Z", Cond.fieldLink RX3 28 "ClusterField$Sensor" "headRounds" "I", Cond.fieldLink RX3 31 "ClusterField$Sensor" "deathRound" "I", Cond.fieldLink RX3 37 "ClusterField$Sensor" "head" "I", Cond.fieldLink RX3 40 "ClusterField$Sensor" "slot" "I", Cond.methodLink RX4 62 yX3_place, Cond.instanceMethod yX3_place, Cond.selects RX3 yX3_place yX3_place, Cond.code yX3_place cX3_place 4 none, Cond.methodLink RX3 34 yX3_beginRound, Cond.instanceMethod yX3_beginRound, Cond.selects RX3 yX3_beginRound yX3_beginRound, Cond.code yX3_beginRound cX3_beginRound 1 none, Cond.fieldLink RX3 43 "ClusterField$Sensor" "elected" "Z", Cond.fieldLink RX3 46 "ClusterField$Sensor" "readings" "I"]
def wsX4_addSensor : List Cond := .code yX4_addSensor cX4_addSensor 4 (some .int) :: ((wsX4_addSensor_r1 ++ (wsX4_addSensor_r2 ++ wsX4_addSensor_r3)) ++ wsX40 ++ wsX10 ++ wsX00 ++ wsX30)
def wsX4_setSetting_r1 : List Cond := [Cond.fieldLink RX4 74 "ClusterField$Network" "LEAST" "[I", Cond.fieldLink RX4 78 "ClusterField$Network" "GREATEST" "[I", Cond.fieldLink RX4 10 "ClusterField" "network" "LClusterField$Network;", Cond.fieldLink RX4 81 "ClusterField$Network" "settings" "[I", Cond.fieldLink RX4 34 "ClusterField" "history" "LClusterField$History;", Cond.methodLink RX4 46 yX4_inRange, Cond.static yX4_inRange, Cond.initialized RX4, Cond.code yX4_inRange cX4_inRange 3 (some .boolean), Cond.methodLink RX4 55 yX0_push, Cond.instanceMethod yX0_push, Cond.selects RX0 yX0_push yX0_push, Cond.initialized RX0, Cond.code yX0_push cX0_push 2 none, Cond.fieldLink RX0 16 "ClusterField$History" "depth" "I", Cond.fieldLink RX0 11 "ClusterField$History" "saved" "[LClusterField$Network;", Cond.methodLink RX0 20 yX0_dropOldest, Cond.instanceMethod yX0_dropOldest, Cond.selects RX0 yX0_dropOldest yX0_dropOldest, Cond.code yX0_dropOldest cX0_dropOldest 3 none, Cond.methodLink RX0 23 yX1_copyFrom, Cond.instanceMethod yX1_copyFrom, Cond.selects RX1 yX1_copyFrom yX1_copyFrom, Cond.initialized RX1]
def wsX4_setSetting_r2 : List Cond := [Cond.code yX1_copyFrom cX1_copyFrom 3 none, Cond.fieldLink RX1 41 "ClusterField$Network" "count" "I", Cond.fieldLink RX1 11 "ClusterField$Network" "sensors" "[LClusterField$Sensor;", Cond.fieldLink RX1 17 "ClusterField$Network" "settings" "[I", Cond.methodLink RX1 35 arraycopyName, Cond.native arraycopyName, Cond.static arraycopyName, Cond.initialized "java/lang/System", Cond.fieldLink RX1 21 "ClusterField$Network" "baseX" "I", Cond.fieldLink RX1 25 "ClusterField$Network" "baseY" "I", Cond.fieldLink RX1 28 "ClusterField$Network" "generator" "I", Cond.fieldLink RX1 48 "ClusterField$Network" "round" "I", Cond.fieldLink RX1 51 "ClusterField$Network" "lastHeads" "I", Cond.fieldLink RX1 54 "ClusterField$Network" "lastReadings" "I", Cond.fieldLink RX1 57 "ClusterField$Network" "allReadings" "I", Cond.fieldLink RX1 60 "ClusterField$Network" "paid" "I", Cond.methodLink RX1 44 yX3_copyFrom, Cond.instanceMethod yX3_copyFrom, Cond.selects RX3 yX3_copyFrom yX3_copyFrom, Cond.initialized RX3, Cond.code yX3_copyFrom cX3_copyFrom 2 none, Cond.fieldLink RX3 9 "ClusterField$Sensor" "x" "I", Cond.fieldLink RX3 15 "ClusterField$Sensor" "y" "I", Cond.fieldLink RX3 18 "ClusterField$Sensor" "battery" "I"]
def wsX4_setSetting_r3 : List Cond := [Cond.fieldLink RX3 21 "ClusterField$Sensor" "alive" "Z", Cond.fieldLink RX3 25 "ClusterField$Sensor" "eligible" "Z", Cond.fieldLink RX3 28 "ClusterField$Sensor" "headRounds" "I", Cond.fieldLink RX3 31 "ClusterField$Sensor" "deathRound" "I", Cond.fieldLink RX3 37 "ClusterField$Sensor" "head" "I", Cond.fieldLink RX3 40 "ClusterField$Sensor" "slot" "I"]
def wsX4_setSetting : List Cond := .code yX4_setSetting cX4_setSetting 4 (some .int) :: ((wsX4_setSetting_r1 ++ (wsX4_setSetting_r2 ++ wsX4_setSetting_r3)) ++ wsX40 ++ wsX10 ++ wsX00 ++ wsX30)
def wsX4_setGenerator_r1 : List Cond := [Cond.fieldLink RX4 34 "ClusterField" "history" "LClusterField$History;", Cond.fieldLink RX4 10 "ClusterField" "network" "LClusterField$Network;", Cond.fieldLink RX4 84 "ClusterField$Network" "generator" "I", Cond.fieldLink RX4 87 "ClusterField$Network" "round" "I", Cond.methodLink RX4 55 yX0_push, Cond.instanceMethod yX0_push, Cond.selects RX0 yX0_push yX0_push, Cond.initialized RX0, Cond.code yX0_push cX0_push 2 none, Cond.fieldLink RX0 16 "ClusterField$History" "depth" "I", Cond.fieldLink RX0 11 "ClusterField$History" "saved" "[LClusterField$Network;", Cond.methodLink RX0 20 yX0_dropOldest, Cond.instanceMethod yX0_dropOldest, Cond.selects RX0 yX0_dropOldest yX0_dropOldest, Cond.code yX0_dropOldest cX0_dropOldest 3 none, Cond.methodLink RX0 23 yX1_copyFrom, Cond.instanceMethod yX1_copyFrom, Cond.selects RX1 yX1_copyFrom yX1_copyFrom, Cond.initialized RX1, Cond.code yX1_copyFrom cX1_copyFrom 3 none, Cond.fieldLink RX1 41 "ClusterField$Network" "count" "I", Cond.fieldLink RX1 11 "ClusterField$Network" "sensors" "[LClusterField$Sensor;", Cond.fieldLink RX1 17 "ClusterField$Network" "settings" "[I", Cond.methodLink RX1 35 arraycopyName]
def wsX4_setGenerator_r2 : List Cond := [Cond.native arraycopyName, Cond.static arraycopyName, Cond.initialized "java/lang/System", Cond.fieldLink RX1 21 "ClusterField$Network" "baseX" "I", Cond.fieldLink RX1 25 "ClusterField$Network" "baseY" "I", Cond.fieldLink RX1 28 "ClusterField$Network" "generator" "I", Cond.fieldLink RX1 48 "ClusterField$Network" "round" "I", Cond.fieldLink RX1 51 "ClusterField$Network" "lastHeads" "I", Cond.fieldLink RX1 54 "ClusterField$Network" "lastReadings" "I", Cond.fieldLink RX1 57 "ClusterField$Network" "allReadings" "I", Cond.fieldLink RX1 60 "ClusterField$Network" "paid" "I", Cond.methodLink RX1 44 yX3_copyFrom, Cond.instanceMethod yX3_copyFrom, Cond.selects RX3 yX3_copyFrom yX3_copyFrom, Cond.initialized RX3, Cond.code yX3_copyFrom cX3_copyFrom 2 none, Cond.fieldLink RX3 9 "ClusterField$Sensor" "x" "I", Cond.fieldLink RX3 15 "ClusterField$Sensor" "y" "I", Cond.fieldLink RX3 18 "ClusterField$Sensor" "battery" "I", Cond.fieldLink RX3 21 "ClusterField$Sensor" "alive" "Z", Cond.fieldLink RX3 25 "ClusterField$Sensor" "eligible" "Z", Cond.fieldLink RX3 28 "ClusterField$Sensor" "headRounds" "I", Cond.fieldLink RX3 31 "ClusterField$Sensor" "deathRound" "I", Cond.fieldLink RX3 37 "ClusterField$Sensor" "head" "I"]
def wsX4_setGenerator_r3 : List Cond := [Cond.fieldLink RX3 40 "ClusterField$Sensor" "slot" "I"]
def wsX4_setGenerator : List Cond := .code yX4_setGenerator cX4_setGenerator 2 (some .int) :: ((wsX4_setGenerator_r1 ++ (wsX4_setGenerator_r2 ++ wsX4_setGenerator_r3)) ++ wsX40 ++ wsX10 ++ wsX00 ++ wsX30)
def wsX4_charge_r1 : List Cond := [Cond.fieldLink RX4 10 "ClusterField" "network" "LClusterField$Network;", Cond.constant RX4 50 (100000), Cond.fieldLink RX4 58 "ClusterField$Network" "sensors" "[LClusterField$Sensor;", Cond.fieldLink RX4 94 "ClusterField$Sensor" "alive" "Z", Cond.fieldLink RX4 98 "ClusterField$Sensor" "battery" "I", Cond.constant RX4 101 (1000000), Cond.fieldLink RX4 34 "ClusterField" "history" "LClusterField$History;", Cond.methodLink RX4 90 yX1_has, Cond.instanceMethod yX1_has, Cond.selects RX1 yX1_has yX1_has, Cond.initialized RX1, Cond.code yX1_has cX1_has 2 (some .boolean), Cond.fieldLink RX1 41 "ClusterField$Network" "count" "I", Cond.methodLink RX4 46 yX4_inRange, Cond.static yX4_inRange, Cond.initialized RX4, Cond.code yX4_inRange cX4_inRange 3 (some .boolean), Cond.methodLink RX4 55 yX0_push, Cond.instanceMethod yX0_push, Cond.selects RX0 yX0_push yX0_push, Cond.initialized RX0, Cond.code yX0_push cX0_push 2 none, Cond.fieldLink RX0 16 "ClusterField$History" "depth" "I", Cond.fieldLink RX0 11 "ClusterField$History" "saved" "[LClusterField$Network;"]
def wsX4_charge_r2 : List Cond := [Cond.methodLink RX0 20 yX0_dropOldest, Cond.instanceMethod yX0_dropOldest, Cond.selects RX0 yX0_dropOldest yX0_dropOldest, Cond.code yX0_dropOldest cX0_dropOldest 3 none, Cond.methodLink RX0 23 yX1_copyFrom, Cond.instanceMethod yX1_copyFrom, Cond.selects RX1 yX1_copyFrom yX1_copyFrom, Cond.code yX1_copyFrom cX1_copyFrom 3 none, Cond.fieldLink RX1 11 "ClusterField$Network" "sensors" "[LClusterField$Sensor;", Cond.fieldLink RX1 17 "ClusterField$Network" "settings" "[I", Cond.methodLink RX1 35 arraycopyName, Cond.native arraycopyName, Cond.static arraycopyName, Cond.initialized "java/lang/System", Cond.fieldLink RX1 21 "ClusterField$Network" "baseX" "I", Cond.fieldLink RX1 25 "ClusterField$Network" "baseY" "I", Cond.fieldLink RX1 28 "ClusterField$Network" "generator" "I", Cond.fieldLink RX1 48 "ClusterField$Network" "round" "I", Cond.fieldLink RX1 51 "ClusterField$Network" "lastHeads" "I", Cond.fieldLink RX1 54 "ClusterField$Network" "lastReadings" "I", Cond.fieldLink RX1 57 "ClusterField$Network" "allReadings" "I", Cond.fieldLink RX1 60 "ClusterField$Network" "paid" "I", Cond.methodLink RX1 44 yX3_copyFrom, Cond.instanceMethod yX3_copyFrom]
def wsX4_charge_r3 : List Cond := [Cond.selects RX3 yX3_copyFrom yX3_copyFrom, Cond.initialized RX3, Cond.code yX3_copyFrom cX3_copyFrom 2 none, Cond.fieldLink RX3 9 "ClusterField$Sensor" "x" "I", Cond.fieldLink RX3 15 "ClusterField$Sensor" "y" "I", Cond.fieldLink RX3 18 "ClusterField$Sensor" "battery" "I", Cond.fieldLink RX3 21 "ClusterField$Sensor" "alive" "Z", Cond.fieldLink RX3 25 "ClusterField$Sensor" "eligible" "Z", Cond.fieldLink RX3 28 "ClusterField$Sensor" "headRounds" "I", Cond.fieldLink RX3 31 "ClusterField$Sensor" "deathRound" "I", Cond.fieldLink RX3 37 "ClusterField$Sensor" "head" "I", Cond.fieldLink RX3 40 "ClusterField$Sensor" "slot" "I"]
def wsX4_charge : List Cond := .code yX4_charge cX4_charge 4 (some .int) :: ((wsX4_charge_r1 ++ (wsX4_charge_r2 ++ wsX4_charge_r3)) ++ wsX40 ++ wsX10 ++ wsX30 ++ wsX00)
def wsX4_run_r1 : List Cond := [Cond.fieldLink RX4 10 "ClusterField" "network" "LClusterField$Network;", Cond.fieldLink RX4 34 "ClusterField" "history" "LClusterField$History;", Cond.fieldLink RX4 21 "ClusterField" "livePlay" "LClusterField$Rounds;", Cond.methodLink RX4 46 yX4_inRange, Cond.static yX4_inRange, Cond.initialized RX4, Cond.code yX4_inRange cX4_inRange 3 (some .boolean), Cond.methodLink RX4 102 yX1_countAlive, Cond.instanceMethod yX1_countAlive, Cond.selects RX1 yX1_countAlive yX1_countAlive, Cond.initialized RX1, Cond.code yX1_countAlive cX1_countAlive 3 (some .int), Cond.fieldLink RX1 41 "ClusterField$Network" "count" "I", Cond.fieldLink RX1 11 "ClusterField$Network" "sensors" "[LClusterField$Sensor;", Cond.fieldLink RX1 63 "ClusterField$Sensor" "alive" "Z", Cond.methodLink RX4 55 yX0_push, Cond.instanceMethod yX0_push, Cond.selects RX0 yX0_push yX0_push, Cond.initialized RX0, Cond.code yX0_push cX0_push 2 none, Cond.fieldLink RX0 16 "ClusterField$History" "depth" "I", Cond.fieldLink RX0 11 "ClusterField$History" "saved" "[LClusterField$Network;", Cond.methodLink RX0 20 yX0_dropOldest, Cond.instanceMethod yX0_dropOldest]
def wsX4_run_r2 : List Cond := [Cond.selects RX0 yX0_dropOldest yX0_dropOldest, Cond.code yX0_dropOldest cX0_dropOldest 3 none, Cond.methodLink RX0 23 yX1_copyFrom, Cond.instanceMethod yX1_copyFrom, Cond.selects RX1 yX1_copyFrom yX1_copyFrom, Cond.code yX1_copyFrom cX1_copyFrom 3 none, Cond.fieldLink RX1 17 "ClusterField$Network" "settings" "[I", Cond.methodLink RX1 35 arraycopyName, Cond.native arraycopyName, Cond.static arraycopyName, Cond.initialized "java/lang/System", Cond.fieldLink RX1 21 "ClusterField$Network" "baseX" "I", Cond.fieldLink RX1 25 "ClusterField$Network" "baseY" "I", Cond.fieldLink RX1 28 "ClusterField$Network" "generator" "I", Cond.fieldLink RX1 48 "ClusterField$Network" "round" "I", Cond.fieldLink RX1 51 "ClusterField$Network" "lastHeads" "I", Cond.fieldLink RX1 54 "ClusterField$Network" "lastReadings" "I", Cond.fieldLink RX1 57 "ClusterField$Network" "allReadings" "I", Cond.fieldLink RX1 60 "ClusterField$Network" "paid" "I", Cond.methodLink RX1 44 yX3_copyFrom, Cond.instanceMethod yX3_copyFrom, Cond.selects RX3 yX3_copyFrom yX3_copyFrom, Cond.initialized RX3, Cond.code yX3_copyFrom cX3_copyFrom 2 none]
def wsX4_run_r3 : List Cond := [Cond.fieldLink RX3 9 "ClusterField$Sensor" "x" "I", Cond.fieldLink RX3 15 "ClusterField$Sensor" "y" "I", Cond.fieldLink RX3 18 "ClusterField$Sensor" "battery" "I", Cond.fieldLink RX3 21 "ClusterField$Sensor" "alive" "Z", Cond.fieldLink RX3 25 "ClusterField$Sensor" "eligible" "Z", Cond.fieldLink RX3 28 "ClusterField$Sensor" "headRounds" "I", Cond.fieldLink RX3 31 "ClusterField$Sensor" "deathRound" "I", Cond.fieldLink RX3 37 "ClusterField$Sensor" "head" "I", Cond.fieldLink RX3 40 "ClusterField$Sensor" "slot" "I", Cond.methodLink RX4 106 yX2_perform, Cond.instanceMethod yX2_perform, Cond.selects RX2 yX2_perform yX2_perform, Cond.initialized RX2, Cond.code yX2_perform cX2_perform 3 (some .int), Cond.fieldLink RX2 9 "ClusterField$Rounds" "net" "LClusterField$Network;", Cond.methodLink RX2 15 yX1_countAlive, Cond.methodLink RX2 21 yX2_performOne, Cond.instanceMethod yX2_performOne, Cond.selects RX2 yX2_performOne yX2_performOne, Cond.code yX2_performOne cX2_performOne 1 none, Cond.fieldLink RX2 33 "ClusterField$Network" "lastHeads" "I", Cond.fieldLink RX2 52 "ClusterField$Network" "allReadings" "I", Cond.fieldLink RX2 55 "ClusterField$Network" "lastReadings" "I", Cond.fieldLink RX2 58 "ClusterField$Network" "round" "I"]
def wsX4_run_r4 : List Cond := [Cond.methodLink RX2 24 yX2_begin, Cond.instanceMethod yX2_begin, Cond.selects RX2 yX2_begin yX2_begin, Cond.code yX2_begin cX2_begin 4 none, Cond.fieldLink RX2 64 "ClusterField$Network" "count" "I", Cond.fieldLink RX2 67 "ClusterField$Network" "sensors" "[LClusterField$Sensor;", Cond.fieldLink RX2 76 "ClusterField$Sensor" "eligible" "Z", Cond.methodLink RX2 61 yX1_phase, Cond.instanceMethod yX1_phase, Cond.selects RX1 yX1_phase yX1_phase, Cond.code yX1_phase cX1_phase 2 (some .int), Cond.methodLink RX2 71 yX3_beginRound, Cond.instanceMethod yX3_beginRound, Cond.selects RX3 yX3_beginRound yX3_beginRound, Cond.code yX3_beginRound cX3_beginRound 1 none, Cond.fieldLink RX3 43 "ClusterField$Sensor" "elected" "Z", Cond.fieldLink RX3 46 "ClusterField$Sensor" "readings" "I", Cond.methodLink RX2 27 yX2_elect, Cond.instanceMethod yX2_elect, Cond.selects RX2 yX2_elect yX2_elect, Cond.code yX2_elect cX2_elect 4 none, Cond.fieldLink RX2 80 "ClusterField$Network" "settings" "[I", Cond.fieldLink RX2 84 "ClusterField$Sensor" "alive" "Z", Cond.fieldLink RX2 90 "ClusterField$Sensor" "elected" "Z"]
def wsX4_run_r5 : List Cond := [Cond.methodLink RX2 87 yX2_draw, Cond.instanceMethod yX2_draw, Cond.selects RX2 yX2_draw yX2_draw, Cond.code yX2_draw cX2_draw 3 (some .int), Cond.fieldLink RX2 93 "ClusterField$Network" "generator" "I", Cond.constantLong RX2 96 (1103515245), Cond.constantLong RX2 98 (12345), Cond.constantLong RX2 100 (2147483648), Cond.constant RX2 102 (65536), Cond.methodLink RX2 30 yX2_announce, Cond.instanceMethod yX2_announce, Cond.selects RX2 yX2_announce yX2_announce, Cond.code yX2_announce cX2_announce 3 none, Cond.fieldLink RX2 107 "ClusterField$Sensor" "head" "I", Cond.fieldLink RX2 110 "ClusterField$Sensor" "headRounds" "I", Cond.methodLink RX2 103 yX2_pays, Cond.instanceMethod yX2_pays, Cond.selects RX2 yX2_pays yX2_pays, Cond.code yX2_pays cX2_pays 3 (some .boolean), Cond.fieldLink RX2 177 "ClusterField$Sensor" "battery" "I", Cond.fieldLink RX2 180 "ClusterField$Sensor" "deathRound" "I", Cond.fieldLink RX2 183 "ClusterField$Network" "paid" "I", Cond.methodLink RX2 37 yX2_reportToBase, Cond.instanceMethod yX2_reportToBase]
def wsX4_run_r6 : List Cond := [Cond.selects RX2 yX2_reportToBase yX2_reportToBase, Cond.code yX2_reportToBase cX2_reportToBase 3 none, Cond.methodLink RX2 160 yX2_sendToBase, Cond.instanceMethod yX2_sendToBase, Cond.selects RX2 yX2_sendToBase yX2_sendToBase, Cond.code yX2_sendToBase cX2_sendToBase 3 none, Cond.fieldLink RX2 164 "ClusterField$Network" "baseX" "I", Cond.fieldLink RX2 167 "ClusterField$Network" "baseY" "I", Cond.methodLink RX2 134 yX3_distanceTo, Cond.instanceMethod yX3_distanceTo, Cond.selects RX3 yX3_distanceTo yX3_distanceTo, Cond.code yX3_distanceTo cX3_distanceTo 5 (some .int), Cond.methodLink RX2 173 yX1_costOver, Cond.instanceMethod yX1_costOver, Cond.selects RX1 yX1_costOver yX1_costOver, Cond.code yX1_costOver cX1_costOver 3 (some .int), Cond.methodLink RX2 40 yX2_join, Cond.instanceMethod yX2_join, Cond.selects RX2 yX2_join yX2_join, Cond.code yX2_join cX2_join 3 none, Cond.fieldLink RX2 113 "ClusterField$Sensor" "x" "I", Cond.fieldLink RX2 116 "ClusterField$Sensor" "y" "I", Cond.methodLink RX2 119 yX2_nearestHead, Cond.instanceMethod yX2_nearestHead]
def wsX4_run_r7 : List Cond := [Cond.selects RX2 yX2_nearestHead yX2_nearestHead, Cond.code yX2_nearestHead cX2_nearestHead 7 (some .int), Cond.methodLink RX2 131 yX2_isLivingHead, Cond.instanceMethod yX2_isLivingHead, Cond.selects RX2 yX2_isLivingHead yX2_isLivingHead, Cond.code yX2_isLivingHead cX2_isLivingHead 3 (some .boolean), Cond.methodLink RX2 123 yX2_isHead, Cond.instanceMethod yX2_isHead, Cond.selects RX2 yX2_isHead yX2_isHead, Cond.code yX2_isHead cX2_isHead 2 (some .boolean), Cond.methodLink RX2 127 yX2_giveSlots, Cond.instanceMethod yX2_giveSlots, Cond.selects RX2 yX2_giveSlots yX2_giveSlots, Cond.code yX2_giveSlots cX2_giveSlots 4 none, Cond.fieldLink RX2 141 "ClusterField$Sensor" "slot" "I", Cond.methodLink RX2 137 yX2_hasJoined, Cond.instanceMethod yX2_hasJoined, Cond.selects RX2 yX2_hasJoined yX2_hasJoined, Cond.code yX2_hasJoined cX2_hasJoined 3 (some .boolean), Cond.methodLink RX2 43 yX2_reportToHeads, Cond.instanceMethod yX2_reportToHeads, Cond.selects RX2 yX2_reportToHeads yX2_reportToHeads, Cond.code yX2_reportToHeads cX2_reportToHeads 2 none, Cond.methodLink RX2 144 yX2_reportTo]
def wsX4_run_r8 : List Cond := [Cond.instanceMethod yX2_reportTo, Cond.selects RX2 yX2_reportTo yX2_reportTo, Cond.code yX2_reportTo cX2_reportTo 5 none, Cond.fieldLink RX2 151 "ClusterField$Sensor" "readings" "I", Cond.methodLink RX2 147 yX2_sends, Cond.instanceMethod yX2_sends, Cond.selects RX2 yX2_sends yX2_sends, Cond.code yX2_sends cX2_sends 3 (some .boolean), Cond.methodLink RX2 46 yX2_addOwnReadings, Cond.instanceMethod yX2_addOwnReadings, Cond.selects RX2 yX2_addOwnReadings yX2_addOwnReadings, Cond.code yX2_addOwnReadings cX2_addOwnReadings 3 none, Cond.methodLink RX2 49 yX2_deliver, Cond.instanceMethod yX2_deliver, Cond.selects RX2 yX2_deliver yX2_deliver, Cond.code yX2_deliver cX2_deliver 1 none, Cond.methodLink RX2 154 yX2_deliverThroughRelay, Cond.instanceMethod yX2_deliverThroughRelay, Cond.selects RX2 yX2_deliverThroughRelay yX2_deliverThroughRelay, Cond.code yX2_deliverThroughRelay cX2_deliverThroughRelay 5 none, Cond.methodLink RX2 170 yX1_has, Cond.instanceMethod yX1_has, Cond.selects RX1 yX1_has yX1_has, Cond.code yX1_has cX1_has 2 (some .boolean)]
def wsX4_run_r9 : List Cond := [Cond.methodLink RX2 157 yX2_deliverDirectly, Cond.instanceMethod yX2_deliverDirectly, Cond.selects RX2 yX2_deliverDirectly yX2_deliverDirectly, Cond.code yX2_deliverDirectly cX2_deliverDirectly 3 none]
def wsX4_run : List Cond := .code yX4_run cX4_run 2 (some .int) :: ((wsX4_run_r1 ++ (wsX4_run_r2 ++ (wsX4_run_r3 ++ (wsX4_run_r4 ++ (wsX4_run_r5 ++ (wsX4_run_r6 ++ (wsX4_run_r7 ++ (wsX4_run_r8 ++ wsX4_run_r9)))))))) ++ wsX40 ++ wsX10 ++ wsX30 ++ wsX00 ++ wsX20)
def wsX4_roundNumber : List Cond := .code yX4_roundNumber cX4_roundNumber 1 (some .int) :: ([.fieldLink RX4 10 "ClusterField" "network" "LClusterField$Network;", .fieldLink RX4 87 "ClusterField$Network" "round" "I"] ++ wsX40 ++ wsX10)
def wsX4_aliveCount : List Cond := .code yX4_aliveCount cX4_aliveCount 1 (some .int) :: ([.fieldLink RX4 10 "ClusterField" "network" "LClusterField$Network;", .methodLink RX4 102 yX1_countAlive, .instanceMethod yX1_countAlive, .selects RX1 yX1_countAlive yX1_countAlive, .initialized RX1, .code yX1_countAlive cX1_countAlive 3 (some .int), .fieldLink RX1 41 "ClusterField$Network" "count" "I", .fieldLink RX1 11 "ClusterField$Network" "sensors" "[LClusterField$Sensor;", .fieldLink RX1 63 "ClusterField$Sensor" "alive" "Z"] ++ wsX40 ++ wsX10 ++ wsX30)
def wsX4_isAlive : List Cond := .code yX4_isAlive cX4_isAlive 2 (some .int) :: ([.fieldLink RX4 10 "ClusterField" "network" "LClusterField$Network;", .fieldLink RX4 58 "ClusterField$Network" "sensors" "[LClusterField$Sensor;", .fieldLink RX4 94 "ClusterField$Sensor" "alive" "Z", .methodLink RX4 90 yX1_has, .instanceMethod yX1_has, .selects RX1 yX1_has yX1_has, .initialized RX1, .code yX1_has cX1_has 2 (some .boolean), .fieldLink RX1 41 "ClusterField$Network" "count" "I"] ++ wsX40 ++ wsX10 ++ wsX30)
def wsX4_battery : List Cond := .code yX4_battery cX4_battery 2 (some .int) :: ([.fieldLink RX4 10 "ClusterField" "network" "LClusterField$Network;", .fieldLink RX4 58 "ClusterField$Network" "sensors" "[LClusterField$Sensor;", .fieldLink RX4 98 "ClusterField$Sensor" "battery" "I", .methodLink RX4 90 yX1_has, .instanceMethod yX1_has, .selects RX1 yX1_has yX1_has, .initialized RX1, .code yX1_has cX1_has 2 (some .boolean), .fieldLink RX1 41 "ClusterField$Network" "count" "I"] ++ wsX40 ++ wsX10 ++ wsX30)
def wsX4_isEligible : List Cond := .code yX4_isEligible cX4_isEligible 3 (some .int) :: ([.fieldLink RX4 10 "ClusterField" "network" "LClusterField$Network;", .fieldLink RX4 58 "ClusterField$Network" "sensors" "[LClusterField$Sensor;", .fieldLink RX4 94 "ClusterField$Sensor" "alive" "Z", .fieldLink RX4 110 "ClusterField$Sensor" "eligible" "Z", .methodLink RX4 90 yX1_has, .instanceMethod yX1_has, .selects RX1 yX1_has yX1_has, .initialized RX1, .code yX1_has cX1_has 2 (some .boolean), .fieldLink RX1 41 "ClusterField$Network" "count" "I", .methodLink RX4 113 yX1_phase, .instanceMethod yX1_phase, .selects RX1 yX1_phase yX1_phase, .code yX1_phase cX1_phase 2 (some .int), .fieldLink RX1 17 "ClusterField$Network" "settings" "[I", .fieldLink RX1 48 "ClusterField$Network" "round" "I"] ++ wsX40 ++ wsX10 ++ wsX30)
def wsX4_deathRound : List Cond := .code yX4_deathRound cX4_deathRound 2 (some .int) :: ([.fieldLink RX4 10 "ClusterField" "network" "LClusterField$Network;", .fieldLink RX4 58 "ClusterField$Network" "sensors" "[LClusterField$Sensor;", .fieldLink RX4 119 "ClusterField$Sensor" "deathRound" "I", .methodLink RX4 90 yX1_has, .instanceMethod yX1_has, .selects RX1 yX1_has yX1_has, .initialized RX1, .code yX1_has cX1_has 2 (some .boolean), .fieldLink RX1 41 "ClusterField$Network" "count" "I"] ++ wsX40 ++ wsX10 ++ wsX30)
def wsX4_headOf : List Cond := .code yX4_headOf cX4_headOf 2 (some .int) :: ([.fieldLink RX4 10 "ClusterField" "network" "LClusterField$Network;", .fieldLink RX4 58 "ClusterField$Network" "sensors" "[LClusterField$Sensor;", .fieldLink RX4 122 "ClusterField$Sensor" "head" "I", .methodLink RX4 90 yX1_has, .instanceMethod yX1_has, .selects RX1 yX1_has yX1_has, .initialized RX1, .code yX1_has cX1_has 2 (some .boolean), .fieldLink RX1 41 "ClusterField$Network" "count" "I"] ++ wsX40 ++ wsX10 ++ wsX30)
def wsX4_slotOf : List Cond := .code yX4_slotOf cX4_slotOf 2 (some .int) :: ([.fieldLink RX4 10 "ClusterField" "network" "LClusterField$Network;", .fieldLink RX4 58 "ClusterField$Network" "sensors" "[LClusterField$Sensor;", .fieldLink RX4 125 "ClusterField$Sensor" "slot" "I", .methodLink RX4 90 yX1_has, .instanceMethod yX1_has, .selects RX1 yX1_has yX1_has, .initialized RX1, .code yX1_has cX1_has 2 (some .boolean), .fieldLink RX1 41 "ClusterField$Network" "count" "I"] ++ wsX40 ++ wsX10 ++ wsX30)
def wsX4_headCount : List Cond := .code yX4_headCount cX4_headCount 1 (some .int) :: ([.fieldLink RX4 10 "ClusterField" "network" "LClusterField$Network;", .fieldLink RX4 128 "ClusterField$Network" "lastHeads" "I"] ++ wsX40 ++ wsX10)
def wsX4_lastDelivered : List Cond := .code yX4_lastDelivered cX4_lastDelivered 1 (some .int) :: ([.fieldLink RX4 10 "ClusterField" "network" "LClusterField$Network;", .fieldLink RX4 131 "ClusterField$Network" "lastReadings" "I"] ++ wsX40 ++ wsX10)
def wsX4_deliveredTotal : List Cond := .code yX4_deliveredTotal cX4_deliveredTotal 1 (some .int) :: ([.fieldLink RX4 10 "ClusterField" "network" "LClusterField$Network;", .fieldLink RX4 134 "ClusterField$Network" "allReadings" "I"] ++ wsX40 ++ wsX10)
def wsX4_energyPaid : List Cond := .code yX4_energyPaid cX4_energyPaid 1 (some .int) :: ([.fieldLink RX4 10 "ClusterField" "network" "LClusterField$Network;", .fieldLink RX4 137 "ClusterField$Network" "paid" "I"] ++ wsX40 ++ wsX10)
def wsX4_undo_r1 : List Cond := [Cond.fieldLink RX4 34 "ClusterField" "history" "LClusterField$History;", Cond.fieldLink RX4 156 "ClusterField$History" "depth" "I", Cond.fieldLink RX4 10 "ClusterField" "network" "LClusterField$Network;", Cond.methodLink RX4 159 yX0_popInto, Cond.instanceMethod yX0_popInto, Cond.selects RX0 yX0_popInto yX0_popInto, Cond.initialized RX0, Cond.code yX0_popInto cX0_popInto 2 none, Cond.fieldLink RX0 16 "ClusterField$History" "depth" "I", Cond.fieldLink RX0 11 "ClusterField$History" "saved" "[LClusterField$Network;", Cond.methodLink RX0 23 yX1_copyFrom, Cond.instanceMethod yX1_copyFrom, Cond.selects RX1 yX1_copyFrom yX1_copyFrom, Cond.initialized RX1, Cond.code yX1_copyFrom cX1_copyFrom 3 none, Cond.fieldLink RX1 41 "ClusterField$Network" "count" "I", Cond.fieldLink RX1 11 "ClusterField$Network" "sensors" "[LClusterField$Sensor;", Cond.fieldLink RX1 17 "ClusterField$Network" "settings" "[I", Cond.methodLink RX1 35 arraycopyName, Cond.native arraycopyName, Cond.static arraycopyName, Cond.initialized "java/lang/System", Cond.fieldLink RX1 21 "ClusterField$Network" "baseX" "I", Cond.fieldLink RX1 25 "ClusterField$Network" "baseY" "I"]
def wsX4_undo_r2 : List Cond := [Cond.fieldLink RX1 28 "ClusterField$Network" "generator" "I", Cond.fieldLink RX1 48 "ClusterField$Network" "round" "I", Cond.fieldLink RX1 51 "ClusterField$Network" "lastHeads" "I", Cond.fieldLink RX1 54 "ClusterField$Network" "lastReadings" "I", Cond.fieldLink RX1 57 "ClusterField$Network" "allReadings" "I", Cond.fieldLink RX1 60 "ClusterField$Network" "paid" "I", Cond.methodLink RX1 44 yX3_copyFrom, Cond.instanceMethod yX3_copyFrom, Cond.selects RX3 yX3_copyFrom yX3_copyFrom, Cond.initialized RX3, Cond.code yX3_copyFrom cX3_copyFrom 2 none, Cond.fieldLink RX3 9 "ClusterField$Sensor" "x" "I", Cond.fieldLink RX3 15 "ClusterField$Sensor" "y" "I", Cond.fieldLink RX3 18 "ClusterField$Sensor" "battery" "I", Cond.fieldLink RX3 21 "ClusterField$Sensor" "alive" "Z", Cond.fieldLink RX3 25 "ClusterField$Sensor" "eligible" "Z", Cond.fieldLink RX3 28 "ClusterField$Sensor" "headRounds" "I", Cond.fieldLink RX3 31 "ClusterField$Sensor" "deathRound" "I", Cond.fieldLink RX3 37 "ClusterField$Sensor" "head" "I", Cond.fieldLink RX3 40 "ClusterField$Sensor" "slot" "I"]
def wsX4_undo : List Cond := .code yX4_undo cX4_undo 1 (some .int) :: ((wsX4_undo_r1 ++ wsX4_undo_r2) ++ wsX40 ++ wsX00 ++ wsX10 ++ wsX30)
def wsL_cell : List Cond := .code yL_cell cL_cell 2 (some .int) :: ([])
def wsL_low : List Cond := .code yL_low cL_low 2 (some .int) :: ([.constant RL 7 (2147483647)])
def wsL_sensors_r1 : List Cond := [Cond.methodLink RL 8 yL_cell, Cond.static yL_cell, Cond.initialized RL, Cond.code yL_cell cL_cell 2 (some .int), Cond.methodLink RL 14 yL_low, Cond.static yL_low, Cond.code yL_low cL_low 2 (some .int), Cond.constant RL 7 (2147483647), Cond.methodLink RL 18 yX4_addSensor, Cond.instanceMethod yX4_addSensor, Cond.selects RX4 yX4_addSensor yX4_addSensor, Cond.initialized RX4, Cond.code yX4_addSensor cX4_addSensor 4 (some .int), Cond.constant RX4 50 (100000), Cond.fieldLink RX4 10 "ClusterField" "network" "LClusterField$Network;", Cond.fieldLink RX4 51 "ClusterField$Network" "count" "I", Cond.fieldLink RX4 34 "ClusterField" "history" "LClusterField$History;", Cond.fieldLink RX4 58 "ClusterField$Network" "sensors" "[LClusterField$Sensor;", Cond.methodLink RX4 46 yX4_inRange, Cond.static yX4_inRange, Cond.code yX4_inRange cX4_inRange 3 (some .boolean), Cond.methodLink RX4 55 yX0_push, Cond.instanceMethod yX0_push, Cond.selects RX0 yX0_push yX0_push]
def wsL_sensors_r2 : List Cond := [Cond.initialized RX0, Cond.code yX0_push cX0_push 2 none, Cond.fieldLink RX0 16 "ClusterField$History" "depth" "I", Cond.fieldLink RX0 11 "ClusterField$History" "saved" "[LClusterField$Network;", Cond.methodLink RX0 20 yX0_dropOldest, Cond.instanceMethod yX0_dropOldest, Cond.selects RX0 yX0_dropOldest yX0_dropOldest, Cond.code yX0_dropOldest cX0_dropOldest 3 none, Cond.methodLink RX0 23 yX1_copyFrom, Cond.instanceMethod yX1_copyFrom, Cond.selects RX1 yX1_copyFrom yX1_copyFrom, Cond.initialized RX1, Cond.code yX1_copyFrom cX1_copyFrom 3 none, Cond.fieldLink RX1 41 "ClusterField$Network" "count" "I", Cond.fieldLink RX1 11 "ClusterField$Network" "sensors" "[LClusterField$Sensor;", Cond.fieldLink RX1 17 "ClusterField$Network" "settings" "[I", Cond.methodLink RX1 35 arraycopyName, Cond.native arraycopyName, Cond.static arraycopyName, Cond.initialized "java/lang/System", Cond.fieldLink RX1 21 "ClusterField$Network" "baseX" "I", Cond.fieldLink RX1 25 "ClusterField$Network" "baseY" "I", Cond.fieldLink RX1 28 "ClusterField$Network" "generator" "I", Cond.fieldLink RX1 48 "ClusterField$Network" "round" "I"]
def wsL_sensors_r3 : List Cond := [Cond.fieldLink RX1 51 "ClusterField$Network" "lastHeads" "I", Cond.fieldLink RX1 54 "ClusterField$Network" "lastReadings" "I", Cond.fieldLink RX1 57 "ClusterField$Network" "allReadings" "I", Cond.fieldLink RX1 60 "ClusterField$Network" "paid" "I", Cond.methodLink RX1 44 yX3_copyFrom, Cond.instanceMethod yX3_copyFrom, Cond.selects RX3 yX3_copyFrom yX3_copyFrom, Cond.initialized RX3, Cond.code yX3_copyFrom cX3_copyFrom 2 none, Cond.fieldLink RX3 9 "ClusterField$Sensor" "x" "I", Cond.fieldLink RX3 15 "ClusterField$Sensor" "y" "I", Cond.fieldLink RX3 18 "ClusterField$Sensor" "battery" "I", Cond.fieldLink RX3 21 "ClusterField$Sensor" "alive" "Z", Cond.fieldLink RX3 25 "ClusterField$Sensor" "eligible" "Z", Cond.fieldLink RX3 28 "ClusterField$Sensor" "headRounds" "I", Cond.fieldLink RX3 31 "ClusterField$Sensor" "deathRound" "I", Cond.fieldLink RX3 37 "ClusterField$Sensor" "head" "I", Cond.fieldLink RX3 40 "ClusterField$Sensor" "slot" "I", Cond.methodLink RX4 62 yX3_place, Cond.instanceMethod yX3_place, Cond.selects RX3 yX3_place yX3_place, Cond.code yX3_place cX3_place 4 none, Cond.methodLink RX3 34 yX3_beginRound, Cond.instanceMethod yX3_beginRound]
def wsL_sensors_r4 : List Cond := [Cond.selects RX3 yX3_beginRound yX3_beginRound, Cond.code yX3_beginRound cX3_beginRound 1 none, Cond.fieldLink RX3 43 "ClusterField$Sensor" "elected" "Z", Cond.fieldLink RX3 46 "ClusterField$Sensor" "readings" "I"]
def wsL_sensors : List Cond := .code yL_sensors cL_sensors 7 (some .int) :: ((wsL_sensors_r1 ++ (wsL_sensors_r2 ++ (wsL_sensors_r3 ++ wsL_sensors_r4))) ++ wsX40 ++ wsX10 ++ wsX00 ++ wsX30)
def wsL_far : List Cond := .code yL_far cL_far 5 (some .int) :: ([])
def wsL_energy : List Cond := .code yL_energy cL_energy 4 (some .int) :: ([.methodLink RL 24 yX4_energyPaid, .instanceMethod yX4_energyPaid, .selects RX4 yX4_energyPaid yX4_energyPaid, .initialized RX4, .code yX4_energyPaid cX4_energyPaid 1 (some .int), .fieldLink RX4 10 "ClusterField" "network" "LClusterField$Network;", .fieldLink RX4 137 "ClusterField$Network" "paid" "I", .methodLink RL 28 yX4_battery, .instanceMethod yX4_battery, .selects RX4 yX4_battery yX4_battery, .code yX4_battery cX4_battery 2 (some .int), .fieldLink RX4 58 "ClusterField$Network" "sensors" "[LClusterField$Sensor;", .fieldLink RX4 98 "ClusterField$Sensor" "battery" "I", .methodLink RX4 90 yX1_has, .instanceMethod yX1_has, .selects RX1 yX1_has yX1_has, .initialized RX1, .code yX1_has cX1_has 2 (some .boolean), .fieldLink RX1 41 "ClusterField$Network" "count" "I"] ++ wsX40 ++ wsX10 ++ wsX30)
def wsL_clusters_r1 : List Cond := [Cond.methodLink RL 32 yX4_headOf, Cond.instanceMethod yX4_headOf, Cond.selects RX4 yX4_headOf yX4_headOf, Cond.initialized RX4, Cond.code yX4_headOf cX4_headOf 2 (some .int), Cond.fieldLink RX4 10 "ClusterField" "network" "LClusterField$Network;", Cond.fieldLink RX4 58 "ClusterField$Network" "sensors" "[LClusterField$Sensor;", Cond.fieldLink RX4 122 "ClusterField$Sensor" "head" "I", Cond.methodLink RX4 90 yX1_has, Cond.instanceMethod yX1_has, Cond.selects RX1 yX1_has yX1_has, Cond.initialized RX1, Cond.code yX1_has cX1_has 2 (some .boolean), Cond.fieldLink RX1 41 "ClusterField$Network" "count" "I", Cond.methodLink RL 35 yX4_slotOf, Cond.instanceMethod yX4_slotOf, Cond.selects RX4 yX4_slotOf yX4_slotOf, Cond.code yX4_slotOf cX4_slotOf 2 (some .int), Cond.fieldLink RX4 125 "ClusterField$Sensor" "slot" "I", Cond.methodLink RL 38 yL_far, Cond.static yL_far, Cond.initialized RL, Cond.code yL_far cL_far 5 (some .int), Cond.methodLink RL 42 yX4_deathRound]
def wsL_clusters_r2 : List Cond := [Cond.instanceMethod yX4_deathRound, Cond.selects RX4 yX4_deathRound yX4_deathRound, Cond.code yX4_deathRound cX4_deathRound 2 (some .int), Cond.fieldLink RX4 119 "ClusterField$Sensor" "deathRound" "I", Cond.methodLink RL 45 yX4_isAlive, Cond.instanceMethod yX4_isAlive, Cond.selects RX4 yX4_isAlive yX4_isAlive, Cond.code yX4_isAlive cX4_isAlive 2 (some .int), Cond.fieldLink RX4 94 "ClusterField$Sensor" "alive" "Z", Cond.methodLink RL 48 yX4_roundNumber, Cond.instanceMethod yX4_roundNumber, Cond.selects RX4 yX4_roundNumber yX4_roundNumber, Cond.code yX4_roundNumber cX4_roundNumber 1 (some .int), Cond.fieldLink RX4 87 "ClusterField$Network" "round" "I", Cond.methodLink RL 51 yX4_headCount, Cond.instanceMethod yX4_headCount, Cond.selects RX4 yX4_headCount yX4_headCount, Cond.code yX4_headCount cX4_headCount 1 (some .int), Cond.fieldLink RX4 128 "ClusterField$Network" "lastHeads" "I"]
def wsL_clusters : List Cond := .code yL_clusters cL_clusters 9 (some .boolean) :: ((wsL_clusters_r1 ++ wsL_clusters_r2) ++ wsX40 ++ wsX10 ++ wsX30)
abbrev vwCl : List vw_C := [(RX0, TX0, 2), (RX1, TX1, 11), (RX2, TX2, 1), (RX3, TX3, 11), (RX4, TX4, 7)]
end
section
set_option maxRecDepth 20000 in
theorem ggX0_init_X1_init : GoodIn wsX0_init wsX1_init := goodIn_r _ [10, 11, 2, 3, 12, 13, 14, 15, 16, 17, 18, 19, 20, 21, 22, 23, 24, 25, 26, 27, 28, 31, 32, 33, 34, 35, 36, 37, 38, 39, 40, 41, 42, 43, 44, 45, 46, 47, 48, 49, 50, 51, 52] (by decide +kernel) (by decide +kernel)
set_option maxRecDepth 20000 in
theorem gX0_init_X1_init : GoodIn wsX0_init (wsX1_init) := ggX0_init_X1_init
theorem dX0_init_0 : decode cX0_init 0 = .ok (.aload_n 0, 1) := by decide +kernel
theorem dX0_init_1 : decode cX0_init 1 = .ok (.invokespecial 1, 3) := by decide +kernel
theorem dX0_init_4 : decode cX0_init 4 = .ok (.aload_n 0, 1) := by decide +kernel
theorem dX0_init_5 : decode cX0_init 5 = .ok (.bipush 6, 2) := by decide +kernel
theorem dX0_init_7 : decode cX0_init 7 = .ok (.anewarray 9, 3) := by decide +kernel
theorem dX0_init_10 : decode cX0_init 10 = .ok (.putfield 11, 3) := by decide +kernel
theorem dX0_init_13 : decode cX0_init 13 = .ok (.iconst 0, 1) := by decide +kernel
theorem dX0_init_14 : decode cX0_init 14 = .ok (.istore_n 1, 1) := by decide +kernel
theorem dX0_init_15 : decode cX0_init 15 = .ok (.iload_n 1, 1) := by decide +kernel
theorem dX0_init_16 : decode cX0_init 16 = .ok (.bipush 6, 2) := by decide +kernel
theorem dX0_init_18 : decode cX0_init 18 = .ok (.if_icmp .ge 22, 3) := by decide +kernel
theorem dX0_init_21 : decode cX0_init 21 = .ok (.aload_n 0, 1) := by decide +kernel
theorem dX0_init_22 : decode cX0_init 22 = .ok (.getfield 11, 3) := by decide +kernel
theorem dX0_init_25 : decode cX0_init 25 = .ok (.iload_n 1, 1) := by decide +kernel
theorem dX0_init_26 : decode cX0_init 26 = .ok (.new 9, 3) := by decide +kernel
theorem dX0_init_29 : decode cX0_init 29 = .ok (.dup, 1) := by decide +kernel
theorem dX0_init_30 : decode cX0_init 30 = .ok (.invokespecial 15, 3) := by decide +kernel
theorem dX0_init_33 : decode cX0_init 33 = .ok (.aastore, 1) := by decide +kernel
theorem dX0_init_34 : decode cX0_init 34 = .ok (.iinc 1 1, 3) := by decide +kernel
theorem dX0_init_37 : decode cX0_init 37 = .ok (.goto (-22), 3) := by decide +kernel
theorem dX0_init_40 : decode cX0_init 40 = .ok (.return_, 1) := by decide +kernel
set_option maxRecDepth 20000 in
theorem ggX0_push_X0_dropOldest : GoodIn wsX0_push wsX0_dropOldest := goodIn_r _ [7, 2, 1, 42, 43] (by decide +kernel) (by decide +kernel)
set_option maxRecDepth 20000 in
theorem gX0_push_X0_dropOldest : GoodIn wsX0_push (wsV RX0 20 RX0 yX0_dropOldest wsX0_dropOldest) := goodIn_app (goodIn_of _ (by decide +kernel)) ggX0_push_X0_dropOldest
set_option maxRecDepth 20000 in
theorem ggX0_push_X1_copyFrom : GoodIn wsX0_push wsX1_copyFrom := goodIn_r _ [12, 13, 14, 15, 16, 17, 18, 19, 20, 21, 22, 23, 24, 25, 26, 27, 28, 29, 30, 31, 32, 33, 34, 35, 36, 37, 38, 39, 40, 41, 44, 45, 46, 47, 48, 49, 50, 51, 52, 53, 54, 55, 56, 57, 58, 59, 60, 61, 62, 63, 64, 65] (by decide +kernel) (by decide +kernel)
set_option maxRecDepth 20000 in
theorem gX0_push_X1_copyFrom : GoodIn wsX0_push (wsV RX0 23 RX1 yX1_copyFrom wsX1_copyFrom) := goodIn_app (goodIn_of _ (by decide +kernel)) ggX0_push_X1_copyFrom
theorem dX0_push_0 : decode cX0_push 0 = .ok (.aload_n 0, 1) := by decide +kernel
theorem dX0_push_1 : decode cX0_push 1 = .ok (.getfield 16, 3) := by decide +kernel
theorem dX0_push_4 : decode cX0_push 4 = .ok (.bipush 6, 2) := by decide +kernel
theorem dX0_push_6 : decode cX0_push 6 = .ok (.if_icmp .lt 7, 3) := by decide +kernel
theorem dX0_push_9 : decode cX0_push 9 = .ok (.aload_n 0, 1) := by decide +kernel
theorem dX0_push_10 : decode cX0_push 10 = .ok (.invokevirtual 20, 3) := by decide +kernel
theorem dX0_push_13 : decode cX0_push 13 = .ok (.aload_n 0, 1) := by decide +kernel
theorem dX0_push_14 : decode cX0_push 14 = .ok (.getfield 11, 3) := by decide +kernel
theorem dX0_push_17 : decode cX0_push 17 = .ok (.aload_n 0, 1) := by decide +kernel
theorem dX0_push_18 : decode cX0_push 18 = .ok (.getfield 16, 3) := by decide +kernel
theorem dX0_push_21 : decode cX0_push 21 = .ok (.aaload, 1) := by decide +kernel
theorem dX0_push_22 : decode cX0_push 22 = .ok (.aload_n 1, 1) := by decide +kernel
theorem dX0_push_23 : decode cX0_push 23 = .ok (.invokevirtual 23, 3) := by decide +kernel
theorem dX0_push_26 : decode cX0_push 26 = .ok (.aload_n 0, 1) := by decide +kernel
theorem dX0_push_27 : decode cX0_push 27 = .ok (.dup, 1) := by decide +kernel
theorem dX0_push_28 : decode cX0_push 28 = .ok (.getfield 16, 3) := by decide +kernel
theorem dX0_push_31 : decode cX0_push 31 = .ok (.iconst 1, 1) := by decide +kernel
theorem dX0_push_32 : decode cX0_push 32 = .ok (.iadd, 1) := by decide +kernel
theorem dX0_push_33 : decode cX0_push 33 = .ok (.putfield 16, 3) := by decide +kernel
theorem dX0_push_36 : decode cX0_push 36 = .ok (.return_, 1) := by decide +kernel
theorem dX0_dropOldest_0 : decode cX0_dropOldest 0 = .ok (.aload_n 0, 1) := by decide +kernel
theorem dX0_dropOldest_1 : decode cX0_dropOldest 1 = .ok (.getfield 11, 3) := by decide +kernel
theorem dX0_dropOldest_4 : decode cX0_dropOldest 4 = .ok (.iconst 0, 1) := by decide +kernel
theorem dX0_dropOldest_5 : decode cX0_dropOldest 5 = .ok (.aaload, 1) := by decide +kernel
theorem dX0_dropOldest_6 : decode cX0_dropOldest 6 = .ok (.astore_n 1, 1) := by decide +kernel
theorem dX0_dropOldest_7 : decode cX0_dropOldest 7 = .ok (.iconst 1, 1) := by decide +kernel
theorem dX0_dropOldest_8 : decode cX0_dropOldest 8 = .ok (.istore_n 2, 1) := by decide +kernel
theorem dX0_dropOldest_9 : decode cX0_dropOldest 9 = .ok (.iload_n 2, 1) := by decide +kernel
theorem dX0_dropOldest_10 : decode cX0_dropOldest 10 = .ok (.bipush 6, 2) := by decide +kernel
theorem dX0_dropOldest_12 : decode cX0_dropOldest 12 = .ok (.if_icmp .ge 23, 3) := by decide +kernel
theorem dX0_dropOldest_15 : decode cX0_dropOldest 15 = .ok (.aload_n 0, 1) := by decide +kernel
theorem dX0_dropOldest_16 : decode cX0_dropOldest 16 = .ok (.getfield 11, 3) := by decide +kernel
theorem dX0_dropOldest_19 : decode cX0_dropOldest 19 = .ok (.iload_n 2, 1) := by decide +kernel
theorem dX0_dropOldest_20 : decode cX0_dropOldest 20 = .ok (.iconst 1, 1) := by decide +kernel
theorem dX0_dropOldest_21 : decode cX0_dropOldest 21 = .ok (.isub, 1) := by decide +kernel
theorem dX0_dropOldest_22 : decode cX0_dropOldest 22 = .ok (.aload_n 0, 1) := by decide +kernel
theorem dX0_dropOldest_23 : decode cX0_dropOldest 23 = .ok (.getfield 11, 3) := by decide +kernel
theorem dX0_dropOldest_26 : decode cX0_dropOldest 26 = .ok (.iload_n 2, 1) := by decide +kernel
theorem dX0_dropOldest_27 : decode cX0_dropOldest 27 = .ok (.aaload, 1) := by decide +kernel
theorem dX0_dropOldest_28 : decode cX0_dropOldest 28 = .ok (.aastore, 1) := by decide +kernel
theorem dX0_dropOldest_29 : decode cX0_dropOldest 29 = .ok (.iinc 2 1, 3) := by decide +kernel
theorem dX0_dropOldest_32 : decode cX0_dropOldest 32 = .ok (.goto (-23), 3) := by decide +kernel
theorem dX0_dropOldest_35 : decode cX0_dropOldest 35 = .ok (.aload_n 0, 1) := by decide +kernel
theorem dX0_dropOldest_36 : decode cX0_dropOldest 36 = .ok (.getfield 11, 3) := by decide +kernel
theorem dX0_dropOldest_39 : decode cX0_dropOldest 39 = .ok (.iconst 5, 1) := by decide +kernel
theorem dX0_dropOldest_40 : decode cX0_dropOldest 40 = .ok (.aload_n 1, 1) := by decide +kernel
theorem dX0_dropOldest_41 : decode cX0_dropOldest 41 = .ok (.aastore, 1) := by decide +kernel
theorem dX0_dropOldest_42 : decode cX0_dropOldest 42 = .ok (.aload_n 0, 1) := by decide +kernel
theorem dX0_dropOldest_43 : decode cX0_dropOldest 43 = .ok (.iconst 5, 1) := by decide +kernel
theorem dX0_dropOldest_44 : decode cX0_dropOldest 44 = .ok (.putfield 16, 3) := by decide +kernel
theorem dX0_dropOldest_47 : decode cX0_dropOldest 47 = .ok (.return_, 1) := by decide +kernel
set_option maxRecDepth 20000 in
theorem ggX0_popInto_X1_copyFrom : GoodIn wsX0_popInto wsX1_copyFrom := goodIn_r _ [7, 8, 9, 10, 11, 12, 13, 14, 15, 16, 17, 18, 19, 20, 21, 22, 23, 24, 25, 26, 27, 28, 29, 30, 31, 32, 33, 34, 35, 36, 39, 40, 41, 42, 43, 44, 45, 46, 47, 48, 49, 50, 51, 52, 53, 54, 55, 56, 57, 58, 59, 60] (by decide +kernel) (by decide +kernel)
set_option maxRecDepth 20000 in
theorem gX0_popInto_X1_copyFrom : GoodIn wsX0_popInto (wsV RX0 23 RX1 yX1_copyFrom wsX1_copyFrom) := goodIn_app (goodIn_of _ (by decide +kernel)) ggX0_popInto_X1_copyFrom
theorem dX0_popInto_0 : decode cX0_popInto 0 = .ok (.aload_n 0, 1) := by decide +kernel
theorem dX0_popInto_1 : decode cX0_popInto 1 = .ok (.getfield 16, 3) := by decide +kernel
theorem dX0_popInto_4 : decode cX0_popInto 4 = .ok (.ifCond .le 26, 3) := by decide +kernel
theorem dX0_popInto_7 : decode cX0_popInto 7 = .ok (.aload_n 0, 1) := by decide +kernel
theorem dX0_popInto_8 : decode cX0_popInto 8 = .ok (.dup, 1) := by decide +kernel
theorem dX0_popInto_9 : decode cX0_popInto 9 = .ok (.getfield 16, 3) := by decide +kernel
theorem dX0_popInto_12 : decode cX0_popInto 12 = .ok (.iconst 1, 1) := by decide +kernel
theorem dX0_popInto_13 : decode cX0_popInto 13 = .ok (.isub, 1) := by decide +kernel
theorem dX0_popInto_14 : decode cX0_popInto 14 = .ok (.putfield 16, 3) := by decide +kernel
theorem dX0_popInto_17 : decode cX0_popInto 17 = .ok (.aload_n 1, 1) := by decide +kernel
theorem dX0_popInto_18 : decode cX0_popInto 18 = .ok (.aload_n 0, 1) := by decide +kernel
theorem dX0_popInto_19 : decode cX0_popInto 19 = .ok (.getfield 11, 3) := by decide +kernel
theorem dX0_popInto_22 : decode cX0_popInto 22 = .ok (.aload_n 0, 1) := by decide +kernel
theorem dX0_popInto_23 : decode cX0_popInto 23 = .ok (.getfield 16, 3) := by decide +kernel
theorem dX0_popInto_26 : decode cX0_popInto 26 = .ok (.aaload, 1) := by decide +kernel
theorem dX0_popInto_27 : decode cX0_popInto 27 = .ok (.invokevirtual 23, 3) := by decide +kernel
theorem dX0_popInto_30 : decode cX0_popInto 30 = .ok (.return_, 1) := by decide +kernel
set_option maxRecDepth 20000 in
theorem ggX1_init_X3_init : GoodIn wsX1_init wsX3_init := goodIn_r _ [19, 20, 2, 3] (by decide +kernel) (by decide +kernel)
set_option maxRecDepth 20000 in
theorem gX1_init_X3_init_n31 : GoodIn wsX1_init (wsX3_init) := ggX1_init_X3_init
theorem dX1_init_0 : decode cX1_init 0 = .ok (.aload_n 0, 1) := by decide +kernel
theorem dX1_init_1 : decode cX1_init 1 = .ok (.invokespecial 3, 3) := by decide +kernel
theorem dX1_init_4 : decode cX1_init 4 = .ok (.aload_n 0, 1) := by decide +kernel
theorem dX1_init_5 : decode cX1_init 5 = .ok (.bipush 12, 2) := by decide +kernel
theorem dX1_init_7 : decode cX1_init 7 = .ok (.anewarray 9, 3) := by decide +kernel
theorem dX1_init_10 : decode cX1_init 10 = .ok (.putfield 11, 3) := by decide +kernel
theorem dX1_init_13 : decode cX1_init 13 = .ok (.aload_n 0, 1) := by decide +kernel
theorem dX1_init_14 : decode cX1_init 14 = .ok (.bipush 6, 2) := by decide +kernel
theorem dX1_init_16 : decode cX1_init 16 = .ok (.newarray .int, 2) := by decide +kernel
theorem dX1_init_18 : decode cX1_init 18 = .ok (.putfield 17, 3) := by decide +kernel
theorem dX1_init_21 : decode cX1_init 21 = .ok (.aload_n 0, 1) := by decide +kernel
theorem dX1_init_22 : decode cX1_init 22 = .ok (.bipush 50, 2) := by decide +kernel
theorem dX1_init_24 : decode cX1_init 24 = .ok (.putfield 21, 3) := by decide +kernel
theorem dX1_init_27 : decode cX1_init 27 = .ok (.aload_n 0, 1) := by decide +kernel
theorem dX1_init_28 : decode cX1_init 28 = .ok (.sipush 150, 3) := by decide +kernel
theorem dX1_init_31 : decode cX1_init 31 = .ok (.putfield 25, 3) := by decide +kernel
theorem dX1_init_34 : decode cX1_init 34 = .ok (.aload_n 0, 1) := by decide +kernel
theorem dX1_init_35 : decode cX1_init 35 = .ok (.iconst 1, 1) := by decide +kernel
theorem dX1_init_36 : decode cX1_init 36 = .ok (.putfield 28, 3) := by decide +kernel
theorem dX1_init_39 : decode cX1_init 39 = .ok (.iconst 0, 1) := by decide +kernel
theorem dX1_init_40 : decode cX1_init 40 = .ok (.istore_n 1, 1) := by decide +kernel
theorem dX1_init_41 : decode cX1_init 41 = .ok (.iload_n 1, 1) := by decide +kernel
theorem dX1_init_42 : decode cX1_init 42 = .ok (.bipush 12, 2) := by decide +kernel
theorem dX1_init_44 : decode cX1_init 44 = .ok (.if_icmp .ge 22, 3) := by decide +kernel
theorem dX1_init_47 : decode cX1_init 47 = .ok (.aload_n 0, 1) := by decide +kernel
theorem dX1_init_48 : decode cX1_init 48 = .ok (.getfield 11, 3) := by decide +kernel
theorem dX1_init_51 : decode cX1_init 51 = .ok (.iload_n 1, 1) := by decide +kernel
theorem dX1_init_52 : decode cX1_init 52 = .ok (.new 9, 3) := by decide +kernel
theorem dX1_init_55 : decode cX1_init 55 = .ok (.dup, 1) := by decide +kernel
theorem dX1_init_56 : decode cX1_init 56 = .ok (.invokespecial 31, 3) := by decide +kernel
theorem dX1_init_59 : decode cX1_init 59 = .ok (.aastore, 1) := by decide +kernel
theorem dX1_init_60 : decode cX1_init 60 = .ok (.iinc 1 1, 3) := by decide +kernel
theorem dX1_init_63 : decode cX1_init 63 = .ok (.goto (-22), 3) := by decide +kernel
theorem dX1_init_66 : decode cX1_init 66 = .ok (.getstatic 32, 3) := by decide +kernel
theorem dX1_init_69 : decode cX1_init 69 = .ok (.iconst 0, 1) := by decide +kernel
theorem dX1_init_70 : decode cX1_init 70 = .ok (.aload_n 0, 1) := by decide +kernel
theorem dX1_init_71 : decode cX1_init 71 = .ok (.getfield 17, 3) := by decide +kernel
theorem dX1_init_74 : decode cX1_init 74 = .ok (.iconst 0, 1) := by decide +kernel
theorem dX1_init_75 : decode cX1_init 75 = .ok (.bipush 6, 2) := by decide +kernel
theorem dX1_init_77 : decode cX1_init 77 = .ok (.invokestatic 35, 3) := by decide +kernel
theorem dX1_init_80 : decode cX1_init 80 = .ok (.return_, 1) := by decide +kernel
set_option maxRecDepth 20000 in
theorem ggX1_copyFrom_X3_copyFrom : GoodIn wsX1_copyFrom wsX3_copyFrom := goodIn_r _ [20, 21, 22, 23, 24, 25, 26, 27, 28, 29, 41, 42, 43, 44, 45, 46, 47, 48, 49, 50, 51] (by decide +kernel) (by decide +kernel)
set_option maxRecDepth 20000 in
theorem gX1_copyFrom_X3_copyFrom : GoodIn wsX1_copyFrom (wsV RX1 44 RX3 yX3_copyFrom wsX3_copyFrom) := goodIn_app (goodIn_of _ (by decide +kernel)) ggX1_copyFrom_X3_copyFrom
theorem dX1_copyFrom_0 : decode cX1_copyFrom 0 = .ok (.aload_n 0, 1) := by decide +kernel
theorem dX1_copyFrom_1 : decode cX1_copyFrom 1 = .ok (.aload_n 1, 1) := by decide +kernel
theorem dX1_copyFrom_2 : decode cX1_copyFrom 2 = .ok (.getfield 41, 3) := by decide +kernel
theorem dX1_copyFrom_5 : decode cX1_copyFrom 5 = .ok (.putfield 41, 3) := by decide +kernel
theorem dX1_copyFrom_8 : decode cX1_copyFrom 8 = .ok (.iconst 0, 1) := by decide +kernel
theorem dX1_copyFrom_9 : decode cX1_copyFrom 9 = .ok (.istore_n 2, 1) := by decide +kernel
theorem dX1_copyFrom_10 : decode cX1_copyFrom 10 = .ok (.iload_n 2, 1) := by decide +kernel
theorem dX1_copyFrom_11 : decode cX1_copyFrom 11 = .ok (.aload_n 0, 1) := by decide +kernel
theorem dX1_copyFrom_12 : decode cX1_copyFrom 12 = .ok (.getfield 41, 3) := by decide +kernel
theorem dX1_copyFrom_15 : decode cX1_copyFrom 15 = .ok (.if_icmp .ge 24, 3) := by decide +kernel
theorem dX1_copyFrom_18 : decode cX1_copyFrom 18 = .ok (.aload_n 0, 1) := by decide +kernel
theorem dX1_copyFrom_19 : decode cX1_copyFrom 19 = .ok (.getfield 11, 3) := by decide +kernel
theorem dX1_copyFrom_22 : decode cX1_copyFrom 22 = .ok (.iload_n 2, 1) := by decide +kernel
theorem dX1_copyFrom_23 : decode cX1_copyFrom 23 = .ok (.aaload, 1) := by decide +kernel
theorem dX1_copyFrom_24 : decode cX1_copyFrom 24 = .ok (.aload_n 1, 1) := by decide +kernel
theorem dX1_copyFrom_25 : decode cX1_copyFrom 25 = .ok (.getfield 11, 3) := by decide +kernel
theorem dX1_copyFrom_28 : decode cX1_copyFrom 28 = .ok (.iload_n 2, 1) := by decide +kernel
theorem dX1_copyFrom_29 : decode cX1_copyFrom 29 = .ok (.aaload, 1) := by decide +kernel
theorem dX1_copyFrom_30 : decode cX1_copyFrom 30 = .ok (.invokevirtual 44, 3) := by decide +kernel
theorem dX1_copyFrom_33 : decode cX1_copyFrom 33 = .ok (.iinc 2 1, 3) := by decide +kernel
theorem dX1_copyFrom_36 : decode cX1_copyFrom 36 = .ok (.goto (-26), 3) := by decide +kernel
theorem dX1_copyFrom_39 : decode cX1_copyFrom 39 = .ok (.aload_n 1, 1) := by decide +kernel
theorem dX1_copyFrom_40 : decode cX1_copyFrom 40 = .ok (.getfield 17, 3) := by decide +kernel
theorem dX1_copyFrom_43 : decode cX1_copyFrom 43 = .ok (.iconst 0, 1) := by decide +kernel
theorem dX1_copyFrom_44 : decode cX1_copyFrom 44 = .ok (.aload_n 0, 1) := by decide +kernel
theorem dX1_copyFrom_45 : decode cX1_copyFrom 45 = .ok (.getfield 17, 3) := by decide +kernel
theorem dX1_copyFrom_48 : decode cX1_copyFrom 48 = .ok (.iconst 0, 1) := by decide +kernel
theorem dX1_copyFrom_49 : decode cX1_copyFrom 49 = .ok (.bipush 6, 2) := by decide +kernel
theorem dX1_copyFrom_51 : decode cX1_copyFrom 51 = .ok (.invokestatic 35, 3) := by decide +kernel
theorem dX1_copyFrom_54 : decode cX1_copyFrom 54 = .ok (.aload_n 0, 1) := by decide +kernel
theorem dX1_copyFrom_55 : decode cX1_copyFrom 55 = .ok (.aload_n 1, 1) := by decide +kernel
theorem dX1_copyFrom_56 : decode cX1_copyFrom 56 = .ok (.getfield 21, 3) := by decide +kernel
theorem dX1_copyFrom_59 : decode cX1_copyFrom 59 = .ok (.putfield 21, 3) := by decide +kernel
theorem dX1_copyFrom_62 : decode cX1_copyFrom 62 = .ok (.aload_n 0, 1) := by decide +kernel
theorem dX1_copyFrom_63 : decode cX1_copyFrom 63 = .ok (.aload_n 1, 1) := by decide +kernel
theorem dX1_copyFrom_64 : decode cX1_copyFrom 64 = .ok (.getfield 25, 3) := by decide +kernel
theorem dX1_copyFrom_67 : decode cX1_copyFrom 67 = .ok (.putfield 25, 3) := by decide +kernel
theorem dX1_copyFrom_70 : decode cX1_copyFrom 70 = .ok (.aload_n 0, 1) := by decide +kernel
theorem dX1_copyFrom_71 : decode cX1_copyFrom 71 = .ok (.aload_n 1, 1) := by decide +kernel
theorem dX1_copyFrom_72 : decode cX1_copyFrom 72 = .ok (.getfield 28, 3) := by decide +kernel
theorem dX1_copyFrom_75 : decode cX1_copyFrom 75 = .ok (.putfield 28, 3) := by decide +kernel
theorem dX1_copyFrom_78 : decode cX1_copyFrom 78 = .ok (.aload_n 0, 1) := by decide +kernel
theorem dX1_copyFrom_79 : decode cX1_copyFrom 79 = .ok (.aload_n 1, 1) := by decide +kernel
theorem dX1_copyFrom_80 : decode cX1_copyFrom 80 = .ok (.getfield 48, 3) := by decide +kernel
theorem dX1_copyFrom_83 : decode cX1_copyFrom 83 = .ok (.putfield 48, 3) := by decide +kernel
theorem dX1_copyFrom_86 : decode cX1_copyFrom 86 = .ok (.aload_n 0, 1) := by decide +kernel
theorem dX1_copyFrom_87 : decode cX1_copyFrom 87 = .ok (.aload_n 1, 1) := by decide +kernel
theorem dX1_copyFrom_88 : decode cX1_copyFrom 88 = .ok (.getfield 51, 3) := by decide +kernel
theorem dX1_copyFrom_91 : decode cX1_copyFrom 91 = .ok (.putfield 51, 3) := by decide +kernel
theorem dX1_copyFrom_94 : decode cX1_copyFrom 94 = .ok (.aload_n 0, 1) := by decide +kernel
theorem dX1_copyFrom_95 : decode cX1_copyFrom 95 = .ok (.aload_n 1, 1) := by decide +kernel
theorem dX1_copyFrom_96 : decode cX1_copyFrom 96 = .ok (.getfield 54, 3) := by decide +kernel
theorem dX1_copyFrom_99 : decode cX1_copyFrom 99 = .ok (.putfield 54, 3) := by decide +kernel
theorem dX1_copyFrom_102 : decode cX1_copyFrom 102 = .ok (.aload_n 0, 1) := by decide +kernel
theorem dX1_copyFrom_103 : decode cX1_copyFrom 103 = .ok (.aload_n 1, 1) := by decide +kernel
theorem dX1_copyFrom_104 : decode cX1_copyFrom 104 = .ok (.getfield 57, 3) := by decide +kernel
theorem dX1_copyFrom_107 : decode cX1_copyFrom 107 = .ok (.putfield 57, 3) := by decide +kernel
theorem dX1_copyFrom_110 : decode cX1_copyFrom 110 = .ok (.aload_n 0, 1) := by decide +kernel
theorem dX1_copyFrom_111 : decode cX1_copyFrom 111 = .ok (.aload_n 1, 1) := by decide +kernel
theorem dX1_copyFrom_112 : decode cX1_copyFrom 112 = .ok (.getfield 60, 3) := by decide +kernel
theorem dX1_copyFrom_115 : decode cX1_copyFrom 115 = .ok (.putfield 60, 3) := by decide +kernel
theorem dX1_copyFrom_118 : decode cX1_copyFrom 118 = .ok (.return_, 1) := by decide +kernel
theorem dX1_has_0 : decode cX1_has 0 = .ok (.iload_n 1, 1) := by decide +kernel
theorem dX1_has_1 : decode cX1_has 1 = .ok (.ifCond .lt 15, 3) := by decide +kernel
theorem dX1_has_4 : decode cX1_has 4 = .ok (.iload_n 1, 1) := by decide +kernel
theorem dX1_has_5 : decode cX1_has 5 = .ok (.aload_n 0, 1) := by decide +kernel
theorem dX1_has_6 : decode cX1_has 6 = .ok (.getfield 41, 3) := by decide +kernel
theorem dX1_has_9 : decode cX1_has 9 = .ok (.if_icmp .ge 7, 3) := by decide +kernel
theorem dX1_has_12 : decode cX1_has 12 = .ok (.iconst 1, 1) := by decide +kernel
theorem dX1_has_13 : decode cX1_has 13 = .ok (.goto 4, 3) := by decide +kernel
theorem dX1_has_16 : decode cX1_has 16 = .ok (.iconst 0, 1) := by decide +kernel
theorem dX1_has_17 : decode cX1_has 17 = .ok (.ireturn, 1) := by decide +kernel
theorem dX1_countAlive_0 : decode cX1_countAlive 0 = .ok (.iconst 0, 1) := by decide +kernel
theorem dX1_countAlive_1 : decode cX1_countAlive 1 = .ok (.istore_n 1, 1) := by decide +kernel
theorem dX1_countAlive_2 : decode cX1_countAlive 2 = .ok (.iconst 0, 1) := by decide +kernel
theorem dX1_countAlive_3 : decode cX1_countAlive 3 = .ok (.istore_n 2, 1) := by decide +kernel
theorem dX1_countAlive_4 : decode cX1_countAlive 4 = .ok (.iload_n 2, 1) := by decide +kernel
theorem dX1_countAlive_5 : decode cX1_countAlive 5 = .ok (.aload_n 0, 1) := by decide +kernel
theorem dX1_countAlive_6 : decode cX1_countAlive 6 = .ok (.getfield 41, 3) := by decide +kernel
theorem dX1_countAlive_9 : decode cX1_countAlive 9 = .ok (.if_icmp .ge 24, 3) := by decide +kernel
theorem dX1_countAlive_12 : decode cX1_countAlive 12 = .ok (.aload_n 0, 1) := by decide +kernel
theorem dX1_countAlive_13 : decode cX1_countAlive 13 = .ok (.getfield 11, 3) := by decide +kernel
theorem dX1_countAlive_16 : decode cX1_countAlive 16 = .ok (.iload_n 2, 1) := by decide +kernel
theorem dX1_countAlive_17 : decode cX1_countAlive 17 = .ok (.aaload, 1) := by decide +kernel
theorem dX1_countAlive_18 : decode cX1_countAlive 18 = .ok (.getfield 63, 3) := by decide +kernel
theorem dX1_countAlive_21 : decode cX1_countAlive 21 = .ok (.ifCond .eq 6, 3) := by decide +kernel
theorem dX1_countAlive_24 : decode cX1_countAlive 24 = .ok (.iinc 1 1, 3) := by decide +kernel
theorem dX1_countAlive_27 : decode cX1_countAlive 27 = .ok (.iinc 2 1, 3) := by decide +kernel
theorem dX1_countAlive_30 : decode cX1_countAlive 30 = .ok (.goto (-26), 3) := by decide +kernel
theorem dX1_countAlive_33 : decode cX1_countAlive 33 = .ok (.iload_n 1, 1) := by decide +kernel
theorem dX1_countAlive_34 : decode cX1_countAlive 34 = .ok (.ireturn, 1) := by decide +kernel
theorem dX1_phase_0 : decode cX1_phase 0 = .ok (.aload_n 0, 1) := by decide +kernel
theorem dX1_phase_1 : decode cX1_phase 1 = .ok (.getfield 17, 3) := by decide +kernel
theorem dX1_phase_4 : decode cX1_phase 4 = .ok (.iconst 0, 1) := by decide +kernel
theorem dX1_phase_5 : decode cX1_phase 5 = .ok (.iaload, 1) := by decide +kernel
theorem dX1_phase_6 : decode cX1_phase 6 = .ok (.istore_n 1, 1) := by decide +kernel
theorem dX1_phase_7 : decode cX1_phase 7 = .ok (.iload_n 1, 1) := by decide +kernel
theorem dX1_phase_8 : decode cX1_phase 8 = .ok (.ifCond .le 12, 3) := by decide +kernel
theorem dX1_phase_11 : decode cX1_phase 11 = .ok (.aload_n 0, 1) := by decide +kernel
theorem dX1_phase_12 : decode cX1_phase 12 = .ok (.getfield 48, 3) := by decide +kernel
theorem dX1_phase_15 : decode cX1_phase 15 = .ok (.iload_n 1, 1) := by decide +kernel
theorem dX1_phase_16 : decode cX1_phase 16 = .ok (.irem, 1) := by decide +kernel
theorem dX1_phase_17 : decode cX1_phase 17 = .ok (.goto 4, 3) := by decide +kernel
theorem dX1_phase_20 : decode cX1_phase 20 = .ok (.iconst 0, 1) := by decide +kernel
theorem dX1_phase_21 : decode cX1_phase 21 = .ok (.ireturn, 1) := by decide +kernel
theorem dX1_costOver_0 : decode cX1_costOver 0 = .ok (.aload_n 0, 1) := by decide +kernel
theorem dX1_costOver_1 : decode cX1_costOver 1 = .ok (.getfield 17, 3) := by decide +kernel
theorem dX1_costOver_4 : decode cX1_costOver 4 = .ok (.iconst 2, 1) := by decide +kernel
theorem dX1_costOver_5 : decode cX1_costOver 5 = .ok (.iaload, 1) := by decide +kernel
theorem dX1_costOver_6 : decode cX1_costOver 6 = .ok (.istore_n 2, 1) := by decide +kernel
theorem dX1_costOver_7 : decode cX1_costOver 7 = .ok (.aload_n 0, 1) := by decide +kernel
theorem dX1_costOver_8 : decode cX1_costOver 8 = .ok (.getfield 17, 3) := by decide +kernel
theorem dX1_costOver_11 : decode cX1_costOver 11 = .ok (.iconst 1, 1) := by decide +kernel
theorem dX1_costOver_12 : decode cX1_costOver 12 = .ok (.iaload, 1) := by decide +kernel
theorem dX1_costOver_13 : decode cX1_costOver 13 = .ok (.iload_n 2, 1) := by decide +kernel
theorem dX1_costOver_14 : decode cX1_costOver 14 = .ok (.ifCond .le 9, 3) := by decide +kernel
theorem dX1_costOver_17 : decode cX1_costOver 17 = .ok (.iload_n 1, 1) := by decide +kernel
theorem dX1_costOver_18 : decode cX1_costOver 18 = .ok (.iload_n 2, 1) := by decide +kernel
theorem dX1_costOver_19 : decode cX1_costOver 19 = .ok (.idiv, 1) := by decide +kernel
theorem dX1_costOver_20 : decode cX1_costOver 20 = .ok (.goto 4, 3) := by decide +kernel
theorem dX1_costOver_23 : decode cX1_costOver 23 = .ok (.iconst 0, 1) := by decide +kernel
theorem dX1_costOver_24 : decode cX1_costOver 24 = .ok (.iadd, 1) := by decide +kernel
theorem dX1_costOver_25 : decode cX1_costOver 25 = .ok (.ireturn, 1) := by decide +kernel
theorem dX2_init_0 : decode cX2_init 0 = .ok (.aload_n 0, 1) := by decide +kernel
theorem dX2_init_1 : decode cX2_init 1 = .ok (.invokespecial 3, 3) := by decide +kernel
theorem dX2_init_4 : decode cX2_init 4 = .ok (.aload_n 0, 1) := by decide +kernel
theorem dX2_init_5 : decode cX2_init 5 = .ok (.aload_n 1, 1) := by decide +kernel
theorem dX2_init_6 : decode cX2_init 6 = .ok (.putfield 9, 3) := by decide +kernel
theorem dX2_init_9 : decode cX2_init 9 = .ok (.return_, 1) := by decide +kernel
set_option maxRecDepth 20000 in
theorem ggX2_perform_X1_countAlive : GoodIn wsX2_perform wsX1_countAlive := goodIn_r _ [6, 7, 8, 9, 151, 152, 153, 154, 155, 156, 157, 158, 159, 160, 161, 162, 163, 164, 165, 166, 167, 168, 169, 170, 171, 172] (by decide +kernel) (by decide +kernel)
set_option maxRecDepth 20000 in
theorem gX2_perform_X1_countAlive : GoodIn wsX2_perform (wsV RX2 15 RX1 yX1_countAlive wsX1_countAlive) := goodIn_app (goodIn_of _ (by decide +kernel)) ggX2_perform_X1_countAlive
set_option maxRecDepth 20000 in
theorem ggX2_perform_X2_performOne : GoodIn wsX2_perform wsX2_performOne := goodIn_r _ [14, 1, 15, 16, 17, 18, 19, 20, 21, 13, 22, 23, 24, 25, 26, 27, 28, 5, 29, 30, 31, 32, 33, 34, 35, 36, 37, 38, 39, 40, 41, 42, 43, 44, 45, 46, 47, 48, 49, 50, 51, 52, 53, 54, 55, 56, 57, 58, 59, 60, 61, 62, 63, 64, 65, 66, 67, 68, 69, 70, 71, 72, 73, 74, 75, 76, 77, 78, 79, 80, 81, 82, 83, 84, 85, 86, 87, 88, 89, 90, 91, 92, 93, 94, 95, 96, 97, 98, 99, 100, 101, 102, 103, 104, 105, 106, 107, 108, 109, 110, 111, 112, 113, 114, 115, 116, 117, 118, 119, 120, 121, 122, 123, 124, 125, 126, 127, 128, 129, 130, 131, 132, 133, 134, 135, 136, 137, 138, 139, 140, 141, 142, 143, 144, 145, 7, 146, 147, 148, 149, 150, 151, 152, 153, 154, 155, 156, 157, 158, 159, 160, 161, 162, 163, 164, 165, 166, 167, 168, 169, 170, 171, 172] (by decide +kernel) (by decide +kernel)
set_option maxRecDepth 20000 in
theorem gX2_perform_X2_performOne : GoodIn wsX2_perform (wsV RX2 21 RX2 yX2_performOne wsX2_performOne) := goodIn_app (goodIn_of _ (by decide +kernel)) ggX2_perform_X2_performOne
theorem dX2_perform_0 : decode cX2_perform 0 = .ok (.iconst 0, 1) := by decide +kernel
theorem dX2_perform_1 : decode cX2_perform 1 = .ok (.istore_n 2, 1) := by decide +kernel
theorem dX2_perform_2 : decode cX2_perform 2 = .ok (.iload_n 2, 1) := by decide +kernel
theorem dX2_perform_3 : decode cX2_perform 3 = .ok (.iload_n 1, 1) := by decide +kernel
theorem dX2_perform_4 : decode cX2_perform 4 = .ok (.if_icmp .ge 23, 3) := by decide +kernel
theorem dX2_perform_7 : decode cX2_perform 7 = .ok (.aload_n 0, 1) := by decide +kernel
theorem dX2_perform_8 : decode cX2_perform 8 = .ok (.getfield 9, 3) := by decide +kernel
theorem dX2_perform_11 : decode cX2_perform 11 = .ok (.invokevirtual 15, 3) := by decide +kernel
theorem dX2_perform_14 : decode cX2_perform 14 = .ok (.ifCond .le 13, 3) := by decide +kernel
theorem dX2_perform_17 : decode cX2_perform 17 = .ok (.aload_n 0, 1) := by decide +kernel
theorem dX2_perform_18 : decode cX2_perform 18 = .ok (.invokevirtual 21, 3) := by decide +kernel
theorem dX2_perform_21 : decode cX2_perform 21 = .ok (.iinc 2 1, 3) := by decide +kernel
theorem dX2_perform_24 : decode cX2_perform 24 = .ok (.goto (-22), 3) := by decide +kernel
theorem dX2_perform_27 : decode cX2_perform 27 = .ok (.iload_n 2, 1) := by decide +kernel
theorem dX2_perform_28 : decode cX2_perform 28 = .ok (.ireturn, 1) := by decide +kernel
set_option maxRecDepth 20000 in
theorem ggX2_performOne_X2_begin : GoodIn wsX2_performOne wsX2_begin := goodIn_r _ [10, 1, 11, 12, 13, 2, 4, 14, 15, 16, 17, 18, 19, 20, 21, 22, 23, 24, 25, 26, 27, 28, 29, 140, 141, 142, 143, 144, 145, 146, 147, 148, 149, 150, 151, 152, 153, 154, 155, 156, 157, 158, 159, 160, 161, 162] (by decide +kernel) (by decide +kernel)
set_option maxRecDepth 20000 in
theorem gX2_performOne_X2_begin : GoodIn wsX2_performOne (wsV RX2 24 RX2 yX2_begin wsX2_begin) := goodIn_app (goodIn_of _ (by decide +kernel)) ggX2_performOne_X2_begin
set_option maxRecDepth 20000 in
theorem ggX2_performOne_X2_elect : GoodIn wsX2_performOne wsX2_elect := goodIn_r _ [33, 1, 34, 11, 12, 35, 13, 36, 14, 15, 16, 17, 18, 19, 20, 37, 38, 39, 9, 40, 41, 42, 43, 44, 45, 140, 141, 142, 143, 144, 145, 146, 147, 148, 149, 150, 151, 152, 153, 154, 155, 156, 157, 158, 159, 160, 161, 162] (by decide +kernel) (by decide +kernel)
set_option maxRecDepth 20000 in
theorem gX2_performOne_X2_elect : GoodIn wsX2_performOne (wsV RX2 27 RX2 yX2_elect wsX2_elect) := goodIn_app (goodIn_of _ (by decide +kernel)) ggX2_performOne_X2_elect
set_option maxRecDepth 20000 in
theorem ggX2_performOne_X2_announce : GoodIn wsX2_performOne wsX2_announce := goodIn_r _ [49, 1, 11, 12, 36, 34, 50, 13, 51, 2, 52, 53, 54, 9, 55, 56, 35, 5, 57, 58, 140, 141, 142, 143, 144, 145, 146, 147, 148, 149, 150, 151, 152, 153, 154, 155, 156, 157, 158, 159, 160, 161, 162] (by decide +kernel) (by decide +kernel)
set_option maxRecDepth 20000 in
theorem gX2_performOne_X2_announce : GoodIn wsX2_performOne (wsV RX2 30 RX2 yX2_announce wsX2_announce) := goodIn_app (goodIn_of _ (by decide +kernel)) ggX2_performOne_X2_announce
set_option maxRecDepth 20000 in
theorem ggX2_performOne_X2_reportToBase : GoodIn wsX2_performOne wsX2_reportToBase := goodIn_r _ [62, 1, 11, 12, 35, 63, 64, 65, 9, 66, 67, 68, 4, 69, 70, 71, 24, 72, 73, 74, 75, 76, 77, 17, 78, 19, 52, 53, 54, 55, 56, 5, 57, 58, 140, 141, 142, 143, 144, 145, 146, 147, 148, 149, 150, 151, 152, 153, 154, 155, 156, 157, 158, 159, 160, 161, 162] (by decide +kernel) (by decide +kernel)
set_option maxRecDepth 20000 in
theorem gX2_performOne_X2_reportToBase : GoodIn wsX2_performOne (wsV RX2 37 RX2 yX2_reportToBase wsX2_reportToBase) := goodIn_app (goodIn_of _ (by decide +kernel)) ggX2_performOne_X2_reportToBase
set_option maxRecDepth 20000 in
theorem ggX2_performOne_X2_join : GoodIn wsX2_performOne wsX2_join := goodIn_r _ [82, 1, 11, 12, 35, 50, 83, 84, 85, 86, 87, 9, 88, 89, 90, 91, 92, 69, 70, 71, 24, 72, 73, 74, 93, 94, 95, 96, 97, 98, 99, 100, 101, 102, 103, 104, 105, 140, 141, 142, 143, 144, 145, 146, 147, 148, 149, 150, 151, 152, 153, 154, 155, 156, 157, 158, 159, 160, 161, 162] (by decide +kernel) (by decide +kernel)
set_option maxRecDepth 20000 in
theorem gX2_performOne_X2_join : GoodIn wsX2_performOne (wsV RX2 40 RX2 yX2_join wsX2_join) := goodIn_app (goodIn_of _ (by decide +kernel)) ggX2_performOne_X2_join
set_option maxRecDepth 20000 in
theorem ggX2_performOne_X2_reportToHeads : GoodIn wsX2_performOne wsX2_reportToHeads := goodIn_r _ [109, 1, 11, 93, 94, 95, 9, 96, 12, 50, 110, 111, 112, 113, 35, 114, 102, 103, 104, 105, 115, 116, 117, 118, 83, 84, 34, 69, 70, 71, 24, 72, 73, 74, 75, 76, 77, 17, 78, 19, 52, 53, 54, 55, 56, 5, 57, 58, 140, 141, 142, 143, 144, 145, 146, 147, 148, 149, 150, 151, 152, 153, 154, 155, 156, 157, 158, 159, 160, 161, 162] (by decide +kernel) (by decide +kernel)
set_option maxRecDepth 20000 in
theorem gX2_performOne_X2_reportToHeads : GoodIn wsX2_performOne (wsV RX2 43 RX2 yX2_reportToHeads wsX2_reportToHeads) := goodIn_app (goodIn_of _ (by decide +kernel)) ggX2_performOne_X2_reportToHeads
set_option maxRecDepth 20000 in
theorem ggX2_performOne_X2_addOwnReadings : GoodIn wsX2_performOne wsX2_addOwnReadings := goodIn_r _ [122, 1, 11, 12, 34, 114, 89, 90, 91, 9, 92, 35, 50, 52, 53, 54, 55, 56, 5, 57, 58, 140, 141, 142, 143, 144, 145, 146, 147, 148, 149, 150, 151, 152, 153, 154, 155, 156, 157, 158, 159, 160, 161, 162] (by decide +kernel) (by decide +kernel)
set_option maxRecDepth 20000 in
theorem gX2_performOne_X2_addOwnReadings : GoodIn wsX2_performOne (wsV RX2 46 RX2 yX2_addOwnReadings wsX2_addOwnReadings) := goodIn_app (goodIn_of _ (by decide +kernel)) ggX2_performOne_X2_addOwnReadings
set_option maxRecDepth 20000 in
theorem ggX2_performOne_X2_deliver : GoodIn wsX2_performOne wsX2_deliver := goodIn_r _ [126, 1, 34, 127, 128, 129, 9, 130, 67, 68, 12, 11, 114, 35, 85, 86, 87, 88, 89, 90, 91, 92, 50, 69, 70, 71, 24, 72, 73, 74, 131, 132, 133, 17, 134, 135, 115, 116, 117, 118, 83, 84, 75, 76, 77, 78, 19, 52, 53, 54, 55, 56, 5, 57, 58, 63, 64, 65, 66, 4, 136, 137, 138, 139, 140, 141, 142, 143, 144, 145, 146, 147, 148, 149, 150, 151, 152, 153, 154, 155, 156, 157, 158, 159, 160, 161, 162] (by decide +kernel) (by decide +kernel)
set_option maxRecDepth 20000 in
theorem gX2_performOne_X2_deliver : GoodIn wsX2_performOne (wsV RX2 49 RX2 yX2_deliver wsX2_deliver) := goodIn_app (goodIn_of _ (by decide +kernel)) ggX2_performOne_X2_deliver
theorem dX2_performOne_0 : decode cX2_performOne 0 = .ok (.aload_n 0, 1) := by decide +kernel
theorem dX2_performOne_1 : decode cX2_performOne 1 = .ok (.invokevirtual 24, 3) := by decide +kernel
theorem dX2_performOne_4 : decode cX2_performOne 4 = .ok (.aload_n 0, 1) := by decide +kernel
theorem dX2_performOne_5 : decode cX2_performOne 5 = .ok (.invokevirtual 27, 3) := by decide +kernel
theorem dX2_performOne_8 : decode cX2_performOne 8 = .ok (.aload_n 0, 1) := by decide +kernel
theorem dX2_performOne_9 : decode cX2_performOne 9 = .ok (.invokevirtual 30, 3) := by decide +kernel
theorem dX2_performOne_12 : decode cX2_performOne 12 = .ok (.aload_n 0, 1) := by decide +kernel
theorem dX2_performOne_13 : decode cX2_performOne 13 = .ok (.getfield 9, 3) := by decide +kernel
theorem dX2_performOne_16 : decode cX2_performOne 16 = .ok (.getfield 33, 3) := by decide +kernel
theorem dX2_performOne_19 : decode cX2_performOne 19 = .ok (.ifCond .ne 10, 3) := by decide +kernel
theorem dX2_performOne_22 : decode cX2_performOne 22 = .ok (.aload_n 0, 1) := by decide +kernel
theorem dX2_performOne_23 : decode cX2_performOne 23 = .ok (.invokevirtual 37, 3) := by decide +kernel
theorem dX2_performOne_26 : decode cX2_performOne 26 = .ok (.goto 19, 3) := by decide +kernel
theorem dX2_performOne_29 : decode cX2_performOne 29 = .ok (.aload_n 0, 1) := by decide +kernel
theorem dX2_performOne_30 : decode cX2_performOne 30 = .ok (.invokevirtual 40, 3) := by decide +kernel
theorem dX2_performOne_33 : decode cX2_performOne 33 = .ok (.aload_n 0, 1) := by decide +kernel
theorem dX2_performOne_34 : decode cX2_performOne 34 = .ok (.invokevirtual 43, 3) := by decide +kernel
theorem dX2_performOne_37 : decode cX2_performOne 37 = .ok (.aload_n 0, 1) := by decide +kernel
theorem dX2_performOne_38 : decode cX2_performOne 38 = .ok (.invokevirtual 46, 3) := by decide +kernel
theorem dX2_performOne_41 : decode cX2_performOne 41 = .ok (.aload_n 0, 1) := by decide +kernel
theorem dX2_performOne_42 : decode cX2_performOne 42 = .ok (.invokevirtual 49, 3) := by decide +kernel
theorem dX2_performOne_45 : decode cX2_performOne 45 = .ok (.aload_n 0, 1) := by decide +kernel
theorem dX2_performOne_46 : decode cX2_performOne 46 = .ok (.getfield 9, 3) := by decide +kernel
theorem dX2_performOne_49 : decode cX2_performOne 49 = .ok (.dup, 1) := by decide +kernel
theorem dX2_performOne_50 : decode cX2_performOne 50 = .ok (.getfield 52, 3) := by decide +kernel
theorem dX2_performOne_53 : decode cX2_performOne 53 = .ok (.aload_n 0, 1) := by decide +kernel
theorem dX2_performOne_54 : decode cX2_performOne 54 = .ok (.getfield 9, 3) := by decide +kernel
theorem dX2_performOne_57 : decode cX2_performOne 57 = .ok (.getfield 55, 3) := by decide +kernel
theorem dX2_performOne_60 : decode cX2_performOne 60 = .ok (.iadd, 1) := by decide +kernel
theorem dX2_performOne_61 : decode cX2_performOne 61 = .ok (.putfield 52, 3) := by decide +kernel
theorem dX2_performOne_64 : decode cX2_performOne 64 = .ok (.aload_n 0, 1) := by decide +kernel
theorem dX2_performOne_65 : decode cX2_performOne 65 = .ok (.getfield 9, 3) := by decide +kernel
theorem dX2_performOne_68 : decode cX2_performOne 68 = .ok (.dup, 1) := by decide +kernel
theorem dX2_performOne_69 : decode cX2_performOne 69 = .ok (.getfield 58, 3) := by decide +kernel
theorem dX2_performOne_72 : decode cX2_performOne 72 = .ok (.iconst 1, 1) := by decide +kernel
theorem dX2_performOne_73 : decode cX2_performOne 73 = .ok (.iadd, 1) := by decide +kernel
theorem dX2_performOne_74 : decode cX2_performOne 74 = .ok (.putfield 58, 3) := by decide +kernel
theorem dX2_performOne_77 : decode cX2_performOne 77 = .ok (.return_, 1) := by decide +kernel
set_option maxRecDepth 20000 in
theorem ggX2_begin_X1_phase : GoodIn wsX2_begin wsX1_phase := goodIn_r _ [11, 12, 13, 24, 25, 26, 27, 28, 29, 30, 31, 32, 33, 34] (by decide +kernel) (by decide +kernel)
set_option maxRecDepth 20000 in
theorem gX2_begin_X1_phase : GoodIn wsX2_begin (wsV RX2 61 RX1 yX1_phase wsX1_phase) := goodIn_app (goodIn_of _ (by decide +kernel)) ggX2_begin_X1_phase
set_option maxRecDepth 20000 in
theorem ggX2_begin_X3_beginRound : GoodIn wsX2_begin wsX3_beginRound := goodIn_r _ [18, 19, 20, 21, 22, 35, 36, 37, 38, 39, 40, 41, 42, 43, 44, 45] (by decide +kernel) (by decide +kernel)
set_option maxRecDepth 20000 in
theorem gX2_begin_X3_beginRound : GoodIn wsX2_begin (wsV RX2 71 RX3 yX3_beginRound wsX3_beginRound) := goodIn_app (goodIn_of _ (by decide +kernel)) ggX2_begin_X3_beginRound
theorem dX2_begin_0 : decode cX2_begin 0 = .ok (.aload_n 0, 1) := by decide +kernel
theorem dX2_begin_1 : decode cX2_begin 1 = .ok (.getfield 9, 3) := by decide +kernel
theorem dX2_begin_4 : decode cX2_begin 4 = .ok (.invokevirtual 61, 3) := by decide +kernel
theorem dX2_begin_7 : decode cX2_begin 7 = .ok (.ifCond .ne 7, 3) := by decide +kernel
theorem dX2_begin_10 : decode cX2_begin 10 = .ok (.iconst 1, 1) := by decide +kernel
theorem dX2_begin_11 : decode cX2_begin 11 = .ok (.goto 4, 3) := by decide +kernel
theorem dX2_begin_14 : decode cX2_begin 14 = .ok (.iconst 0, 1) := by decide +kernel
theorem dX2_begin_15 : decode cX2_begin 15 = .ok (.istore_n 1, 1) := by decide +kernel
theorem dX2_begin_16 : decode cX2_begin 16 = .ok (.iconst 0, 1) := by decide +kernel
theorem dX2_begin_17 : decode cX2_begin 17 = .ok (.istore_n 2, 1) := by decide +kernel
theorem dX2_begin_18 : decode cX2_begin 18 = .ok (.iload_n 2, 1) := by decide +kernel
theorem dX2_begin_19 : decode cX2_begin 19 = .ok (.aload_n 0, 1) := by decide +kernel
theorem dX2_begin_20 : decode cX2_begin 20 = .ok (.getfield 9, 3) := by decide +kernel
theorem dX2_begin_23 : decode cX2_begin 23 = .ok (.getfield 64, 3) := by decide +kernel
theorem dX2_begin_26 : decode cX2_begin 26 = .ok (.if_icmp .ge 32, 3) := by decide +kernel
theorem dX2_begin_29 : decode cX2_begin 29 = .ok (.aload_n 0, 1) := by decide +kernel
theorem dX2_begin_30 : decode cX2_begin 30 = .ok (.getfield 9, 3) := by decide +kernel
theorem dX2_begin_33 : decode cX2_begin 33 = .ok (.getfield 67, 3) := by decide +kernel
theorem dX2_begin_36 : decode cX2_begin 36 = .ok (.iload_n 2, 1) := by decide +kernel
theorem dX2_begin_37 : decode cX2_begin 37 = .ok (.aaload, 1) := by decide +kernel
theorem dX2_begin_38 : decode cX2_begin 38 = .ok (.astore_n 3, 1) := by decide +kernel
theorem dX2_begin_39 : decode cX2_begin 39 = .ok (.aload_n 3, 1) := by decide +kernel
theorem dX2_begin_40 : decode cX2_begin 40 = .ok (.invokevirtual 71, 3) := by decide +kernel
theorem dX2_begin_43 : decode cX2_begin 43 = .ok (.iload_n 1, 1) := by decide +kernel
theorem dX2_begin_44 : decode cX2_begin 44 = .ok (.ifCond .eq 8, 3) := by decide +kernel
theorem dX2_begin_47 : decode cX2_begin 47 = .ok (.aload_n 3, 1) := by decide +kernel
theorem dX2_begin_48 : decode cX2_begin 48 = .ok (.iconst 1, 1) := by decide +kernel
theorem dX2_begin_49 : decode cX2_begin 49 = .ok (.putfield 76, 3) := by decide +kernel
theorem dX2_begin_52 : decode cX2_begin 52 = .ok (.iinc 2 1, 3) := by decide +kernel
theorem dX2_begin_55 : decode cX2_begin 55 = .ok (.goto (-37), 3) := by decide +kernel
theorem dX2_begin_58 : decode cX2_begin 58 = .ok (.aload_n 0, 1) := by decide +kernel
theorem dX2_begin_59 : decode cX2_begin 59 = .ok (.getfield 9, 3) := by decide +kernel
theorem dX2_begin_62 : decode cX2_begin 62 = .ok (.iconst 0, 1) := by decide +kernel
theorem dX2_begin_63 : decode cX2_begin 63 = .ok (.putfield 33, 3) := by decide +kernel
theorem dX2_begin_66 : decode cX2_begin 66 = .ok (.aload_n 0, 1) := by decide +kernel
theorem dX2_begin_67 : decode cX2_begin 67 = .ok (.getfield 9, 3) := by decide +kernel
theorem dX2_begin_70 : decode cX2_begin 70 = .ok (.iconst 0, 1) := by decide +kernel
theorem dX2_begin_71 : decode cX2_begin 71 = .ok (.putfield 55, 3) := by decide +kernel
theorem dX2_begin_74 : decode cX2_begin 74 = .ok (.return_, 1) := by decide +kernel
set_option maxRecDepth 20000 in
theorem ggX2_elect_X1_phase : GoodIn wsX2_elect wsX1_phase := goodIn_r _ [12, 13, 14, 26, 27, 28, 29, 30, 31, 32, 33, 34, 35, 36] (by decide +kernel) (by decide +kernel)
set_option maxRecDepth 20000 in
theorem gX2_elect_X1_phase : GoodIn wsX2_elect (wsV RX2 61 RX1 yX1_phase wsX1_phase) := goodIn_app (goodIn_of _ (by decide +kernel)) ggX2_elect_X1_phase
set_option maxRecDepth 20000 in
theorem ggX2_elect_X2_draw : GoodIn wsX2_elect wsX2_draw := goodIn_r _ [19, 1, 20, 21, 22, 23, 24, 25, 26, 27, 28, 29, 30, 31, 32, 33, 34, 35, 36] (by decide +kernel) (by decide +kernel)
set_option maxRecDepth 20000 in
theorem gX2_elect_X2_draw : GoodIn wsX2_elect (wsV RX2 87 RX2 yX2_draw wsX2_draw) := goodIn_app (goodIn_of _ (by decide +kernel)) ggX2_elect_X2_draw
theorem dX2_elect_0 : decode cX2_elect 0 = .ok (.aload_n 0, 1) := by decide +kernel
theorem dX2_elect_1 : decode cX2_elect 1 = .ok (.getfield 9, 3) := by decide +kernel
theorem dX2_elect_4 : decode cX2_elect 4 = .ok (.getfield 80, 3) := by decide +kernel
theorem dX2_elect_7 : decode cX2_elect 7 = .ok (.iconst 0, 1) := by decide +kernel
theorem dX2_elect_8 : decode cX2_elect 8 = .ok (.iaload, 1) := by decide +kernel
theorem dX2_elect_9 : decode cX2_elect 9 = .ok (.aload_n 0, 1) := by decide +kernel
theorem dX2_elect_10 : decode cX2_elect 10 = .ok (.getfield 9, 3) := by decide +kernel
theorem dX2_elect_13 : decode cX2_elect 13 = .ok (.invokevirtual 61, 3) := by decide +kernel
theorem dX2_elect_16 : decode cX2_elect 16 = .ok (.isub, 1) := by decide +kernel
theorem dX2_elect_17 : decode cX2_elect 17 = .ok (.istore_n 1, 1) := by decide +kernel
theorem dX2_elect_18 : decode cX2_elect 18 = .ok (.iconst 0, 1) := by decide +kernel
theorem dX2_elect_19 : decode cX2_elect 19 = .ok (.istore_n 2, 1) := by decide +kernel
theorem dX2_elect_20 : decode cX2_elect 20 = .ok (.iload_n 2, 1) := by decide +kernel
theorem dX2_elect_21 : decode cX2_elect 21 = .ok (.aload_n 0, 1) := by decide +kernel
theorem dX2_elect_22 : decode cX2_elect 22 = .ok (.getfield 9, 3) := by decide +kernel
theorem dX2_elect_25 : decode cX2_elect 25 = .ok (.getfield 64, 3) := by decide +kernel
theorem dX2_elect_28 : decode cX2_elect 28 = .ok (.if_icmp .ge 54, 3) := by decide +kernel
theorem dX2_elect_31 : decode cX2_elect 31 = .ok (.aload_n 0, 1) := by decide +kernel
theorem dX2_elect_32 : decode cX2_elect 32 = .ok (.getfield 9, 3) := by decide +kernel
theorem dX2_elect_35 : decode cX2_elect 35 = .ok (.getfield 67, 3) := by decide +kernel
theorem dX2_elect_38 : decode cX2_elect 38 = .ok (.iload_n 2, 1) := by decide +kernel
theorem dX2_elect_39 : decode cX2_elect 39 = .ok (.aaload, 1) := by decide +kernel
theorem dX2_elect_40 : decode cX2_elect 40 = .ok (.astore_n 3, 1) := by decide +kernel
theorem dX2_elect_41 : decode cX2_elect 41 = .ok (.aload_n 3, 1) := by decide +kernel
theorem dX2_elect_42 : decode cX2_elect 42 = .ok (.getfield 84, 3) := by decide +kernel
theorem dX2_elect_45 : decode cX2_elect 45 = .ok (.ifCond .eq 31, 3) := by decide +kernel
theorem dX2_elect_48 : decode cX2_elect 48 = .ok (.aload_n 3, 1) := by decide +kernel
theorem dX2_elect_49 : decode cX2_elect 49 = .ok (.getfield 76, 3) := by decide +kernel
theorem dX2_elect_52 : decode cX2_elect 52 = .ok (.ifCond .eq 24, 3) := by decide +kernel
theorem dX2_elect_55 : decode cX2_elect 55 = .ok (.aload_n 3, 1) := by decide +kernel
theorem dX2_elect_56 : decode cX2_elect 56 = .ok (.aload_n 0, 1) := by decide +kernel
theorem dX2_elect_57 : decode cX2_elect 57 = .ok (.invokevirtual 87, 3) := by decide +kernel
theorem dX2_elect_60 : decode cX2_elect 60 = .ok (.iload_n 1, 1) := by decide +kernel
theorem dX2_elect_61 : decode cX2_elect 61 = .ok (.imul, 1) := by decide +kernel
theorem dX2_elect_62 : decode cX2_elect 62 = .ok (.sipush 1000, 3) := by decide +kernel
theorem dX2_elect_65 : decode cX2_elect 65 = .ok (.if_icmp .ge 7, 3) := by decide +kernel
theorem dX2_elect_68 : decode cX2_elect 68 = .ok (.iconst 1, 1) := by decide +kernel
theorem dX2_elect_69 : decode cX2_elect 69 = .ok (.goto 4, 3) := by decide +kernel
theorem dX2_elect_72 : decode cX2_elect 72 = .ok (.iconst 0, 1) := by decide +kernel
theorem dX2_elect_73 : decode cX2_elect 73 = .ok (.putfield 90, 3) := by decide +kernel
theorem dX2_elect_76 : decode cX2_elect 76 = .ok (.iinc 2 1, 3) := by decide +kernel
theorem dX2_elect_79 : decode cX2_elect 79 = .ok (.goto (-59), 3) := by decide +kernel
theorem dX2_elect_82 : decode cX2_elect 82 = .ok (.return_, 1) := by decide +kernel
theorem dX2_draw_0 : decode cX2_draw 0 = .ok (.aload_n 0, 1) := by decide +kernel
theorem dX2_draw_1 : decode cX2_draw 1 = .ok (.getfield 9, 3) := by decide +kernel
theorem dX2_draw_4 : decode cX2_draw 4 = .ok (.getfield 93, 3) := by decide +kernel
theorem dX2_draw_7 : decode cX2_draw 7 = .ok (.i2l, 1) := by decide +kernel
theorem dX2_draw_8 : decode cX2_draw 8 = .ok (.ldc2_w 96, 3) := by decide +kernel
theorem dX2_draw_11 : decode cX2_draw 11 = .ok (.lmul, 1) := by decide +kernel
theorem dX2_draw_12 : decode cX2_draw 12 = .ok (.ldc2_w 98, 3) := by decide +kernel
theorem dX2_draw_15 : decode cX2_draw 15 = .ok (.ladd, 1) := by decide +kernel
theorem dX2_draw_16 : decode cX2_draw 16 = .ok (.ldc2_w 100, 3) := by decide +kernel
theorem dX2_draw_19 : decode cX2_draw 19 = .ok (.lrem, 1) := by decide +kernel
theorem dX2_draw_20 : decode cX2_draw 20 = .ok (.lstore_n 1, 1) := by decide +kernel
theorem dX2_draw_21 : decode cX2_draw 21 = .ok (.aload_n 0, 1) := by decide +kernel
theorem dX2_draw_22 : decode cX2_draw 22 = .ok (.getfield 9, 3) := by decide +kernel
theorem dX2_draw_25 : decode cX2_draw 25 = .ok (.lload_n 1, 1) := by decide +kernel
theorem dX2_draw_26 : decode cX2_draw 26 = .ok (.l2i, 1) := by decide +kernel
theorem dX2_draw_27 : decode cX2_draw 27 = .ok (.putfield 93, 3) := by decide +kernel
theorem dX2_draw_30 : decode cX2_draw 30 = .ok (.aload_n 0, 1) := by decide +kernel
theorem dX2_draw_31 : decode cX2_draw 31 = .ok (.getfield 9, 3) := by decide +kernel
theorem dX2_draw_34 : decode cX2_draw 34 = .ok (.getfield 93, 3) := by decide +kernel
theorem dX2_draw_37 : decode cX2_draw 37 = .ok (.ldc 102, 2) := by decide +kernel
theorem dX2_draw_39 : decode cX2_draw 39 = .ok (.idiv, 1) := by decide +kernel
theorem dX2_draw_40 : decode cX2_draw 40 = .ok (.sipush 1000, 3) := by decide +kernel
theorem dX2_draw_43 : decode cX2_draw 43 = .ok (.irem, 1) := by decide +kernel
theorem dX2_draw_44 : decode cX2_draw 44 = .ok (.ireturn, 1) := by decide +kernel
set_option maxRecDepth 20000 in
theorem ggX2_announce_X2_pays : GoodIn wsX2_announce wsX2_pays := goodIn_r _ [14, 15, 16, 1, 17, 18, 19, 32, 33, 34, 35, 36, 37, 38, 39, 40, 41, 42, 20, 21, 22, 23, 24, 25, 26, 27, 28, 29, 30, 31] (by decide +kernel) (by decide +kernel)
set_option maxRecDepth 20000 in
theorem gX2_announce_X2_pays : GoodIn wsX2_announce (wsV RX2 103 RX2 yX2_pays wsX2_pays) := goodIn_app (goodIn_of _ (by decide +kernel)) ggX2_announce_X2_pays
theorem dX2_announce_0 : decode cX2_announce 0 = .ok (.iconst 0, 1) := by decide +kernel
theorem dX2_announce_1 : decode cX2_announce 1 = .ok (.istore_n 1, 1) := by decide +kernel
theorem dX2_announce_2 : decode cX2_announce 2 = .ok (.iload_n 1, 1) := by decide +kernel
theorem dX2_announce_3 : decode cX2_announce 3 = .ok (.aload_n 0, 1) := by decide +kernel
theorem dX2_announce_4 : decode cX2_announce 4 = .ok (.getfield 9, 3) := by decide +kernel
theorem dX2_announce_7 : decode cX2_announce 7 = .ok (.getfield 64, 3) := by decide +kernel
theorem dX2_announce_10 : decode cX2_announce 10 = .ok (.if_icmp .ge 76, 3) := by decide +kernel
theorem dX2_announce_13 : decode cX2_announce 13 = .ok (.aload_n 0, 1) := by decide +kernel
theorem dX2_announce_14 : decode cX2_announce 14 = .ok (.getfield 9, 3) := by decide +kernel
theorem dX2_announce_17 : decode cX2_announce 17 = .ok (.getfield 67, 3) := by decide +kernel
theorem dX2_announce_20 : decode cX2_announce 20 = .ok (.iload_n 1, 1) := by decide +kernel
theorem dX2_announce_21 : decode cX2_announce 21 = .ok (.aaload, 1) := by decide +kernel
theorem dX2_announce_22 : decode cX2_announce 22 = .ok (.astore_n 2, 1) := by decide +kernel
theorem dX2_announce_23 : decode cX2_announce 23 = .ok (.aload_n 2, 1) := by decide +kernel
theorem dX2_announce_24 : decode cX2_announce 24 = .ok (.getfield 90, 3) := by decide +kernel
theorem dX2_announce_27 : decode cX2_announce 27 = .ok (.ifCond .eq 53, 3) := by decide +kernel
theorem dX2_announce_30 : decode cX2_announce 30 = .ok (.aload_n 0, 1) := by decide +kernel
theorem dX2_announce_31 : decode cX2_announce 31 = .ok (.aload_n 2, 1) := by decide +kernel
theorem dX2_announce_32 : decode cX2_announce 32 = .ok (.aload_n 0, 1) := by decide +kernel
theorem dX2_announce_33 : decode cX2_announce 33 = .ok (.getfield 9, 3) := by decide +kernel
theorem dX2_announce_36 : decode cX2_announce 36 = .ok (.getfield 80, 3) := by decide +kernel
theorem dX2_announce_39 : decode cX2_announce 39 = .ok (.iconst 4, 1) := by decide +kernel
theorem dX2_announce_40 : decode cX2_announce 40 = .ok (.iaload, 1) := by decide +kernel
theorem dX2_announce_41 : decode cX2_announce 41 = .ok (.invokevirtual 103, 3) := by decide +kernel
theorem dX2_announce_44 : decode cX2_announce 44 = .ok (.ifCond .eq 36, 3) := by decide +kernel
theorem dX2_announce_47 : decode cX2_announce 47 = .ok (.aload_n 2, 1) := by decide +kernel
theorem dX2_announce_48 : decode cX2_announce 48 = .ok (.iload_n 1, 1) := by decide +kernel
theorem dX2_announce_49 : decode cX2_announce 49 = .ok (.putfield 107, 3) := by decide +kernel
theorem dX2_announce_52 : decode cX2_announce 52 = .ok (.aload_n 2, 1) := by decide +kernel
theorem dX2_announce_53 : decode cX2_announce 53 = .ok (.iconst 0, 1) := by decide +kernel
theorem dX2_announce_54 : decode cX2_announce 54 = .ok (.putfield 76, 3) := by decide +kernel
theorem dX2_announce_57 : decode cX2_announce 57 = .ok (.aload_n 2, 1) := by decide +kernel
theorem dX2_announce_58 : decode cX2_announce 58 = .ok (.dup, 1) := by decide +kernel
theorem dX2_announce_59 : decode cX2_announce 59 = .ok (.getfield 110, 3) := by decide +kernel
theorem dX2_announce_62 : decode cX2_announce 62 = .ok (.iconst 1, 1) := by decide +kernel
theorem dX2_announce_63 : decode cX2_announce 63 = .ok (.iadd, 1) := by decide +kernel
theorem dX2_announce_64 : decode cX2_announce 64 = .ok (.putfield 110, 3) := by decide +kernel
theorem dX2_announce_67 : decode cX2_announce 67 = .ok (.aload_n 0, 1) := by decide +kernel
theorem dX2_announce_68 : decode cX2_announce 68 = .ok (.getfield 9, 3) := by decide +kernel
theorem dX2_announce_71 : decode cX2_announce 71 = .ok (.dup, 1) := by decide +kernel
theorem dX2_announce_72 : decode cX2_announce 72 = .ok (.getfield 33, 3) := by decide +kernel
theorem dX2_announce_75 : decode cX2_announce 75 = .ok (.iconst 1, 1) := by decide +kernel
theorem dX2_announce_76 : decode cX2_announce 76 = .ok (.iadd, 1) := by decide +kernel
theorem dX2_announce_77 : decode cX2_announce 77 = .ok (.putfield 33, 3) := by decide +kernel
theorem dX2_announce_80 : decode cX2_announce 80 = .ok (.iinc 1 1, 3) := by decide +kernel
theorem dX2_announce_83 : decode cX2_announce 83 = .ok (.goto (-81), 3) := by decide +kernel
theorem dX2_announce_86 : decode cX2_announce 86 = .ok (.return_, 1) := by decide +kernel
set_option maxRecDepth 20000 in
theorem ggX2_join_X2_nearestHead : GoodIn wsX2_join wsX2_nearestHead := goodIn_r _ [12, 1, 2, 3, 13, 14, 15, 11, 16, 4, 5, 17, 18, 19, 20, 21, 22, 23, 37, 38, 39, 40, 41, 42, 43, 44, 45, 46, 47, 48, 49, 50, 51, 52, 53, 54, 55, 56, 57, 58, 59] (by decide +kernel) (by decide +kernel)
set_option maxRecDepth 20000 in
theorem gX2_join_X2_nearestHead : GoodIn wsX2_join (wsV RX2 119 RX2 yX2_nearestHead wsX2_nearestHead) := goodIn_app (goodIn_of _ (by decide +kernel)) ggX2_join_X2_nearestHead
set_option maxRecDepth 20000 in
theorem ggX2_join_X2_isHead : GoodIn wsX2_join wsX2_isHead := goodIn_r _ [27, 1, 3, 5, 37, 38, 39, 40, 41, 42, 43, 44, 45, 46, 47, 48, 49, 50, 51, 52, 53, 54, 55, 56, 57, 58, 59] (by decide +kernel) (by decide +kernel)
set_option maxRecDepth 20000 in
theorem gX2_join_X2_isHead : GoodIn wsX2_join (wsV RX2 123 RX2 yX2_isHead wsX2_isHead) := goodIn_app (goodIn_of _ (by decide +kernel)) ggX2_join_X2_isHead
set_option maxRecDepth 20000 in
theorem ggX2_join_X2_giveSlots : GoodIn wsX2_join wsX2_giveSlots := goodIn_r _ [31, 1, 2, 3, 32, 33, 34, 35, 11, 36, 5, 37, 38, 39, 40, 41, 42, 43, 44, 45, 46, 47, 48, 49, 50, 51, 52, 53, 54, 55, 56, 57, 58, 59] (by decide +kernel) (by decide +kernel)
set_option maxRecDepth 20000 in
theorem gX2_join_X2_giveSlots : GoodIn wsX2_join (wsV RX2 127 RX2 yX2_giveSlots wsX2_giveSlots) := goodIn_app (goodIn_of _ (by decide +kernel)) ggX2_join_X2_giveSlots
theorem dX2_join_0 : decode cX2_join 0 = .ok (.iconst 0, 1) := by decide +kernel
theorem dX2_join_1 : decode cX2_join 1 = .ok (.istore_n 1, 1) := by decide +kernel
theorem dX2_join_2 : decode cX2_join 2 = .ok (.iload_n 1, 1) := by decide +kernel
theorem dX2_join_3 : decode cX2_join 3 = .ok (.aload_n 0, 1) := by decide +kernel
theorem dX2_join_4 : decode cX2_join 4 = .ok (.getfield 9, 3) := by decide +kernel
theorem dX2_join_7 : decode cX2_join 7 = .ok (.getfield 64, 3) := by decide +kernel
theorem dX2_join_10 : decode cX2_join 10 = .ok (.if_icmp .ge 50, 3) := by decide +kernel
theorem dX2_join_13 : decode cX2_join 13 = .ok (.aload_n 0, 1) := by decide +kernel
theorem dX2_join_14 : decode cX2_join 14 = .ok (.getfield 9, 3) := by decide +kernel
theorem dX2_join_17 : decode cX2_join 17 = .ok (.getfield 67, 3) := by decide +kernel
theorem dX2_join_20 : decode cX2_join 20 = .ok (.iload_n 1, 1) := by decide +kernel
theorem dX2_join_21 : decode cX2_join 21 = .ok (.aaload, 1) := by decide +kernel
theorem dX2_join_22 : decode cX2_join 22 = .ok (.astore_n 2, 1) := by decide +kernel
theorem dX2_join_23 : decode cX2_join 23 = .ok (.aload_n 2, 1) := by decide +kernel
theorem dX2_join_24 : decode cX2_join 24 = .ok (.getfield 84, 3) := by decide +kernel
theorem dX2_join_27 : decode cX2_join 27 = .ok (.ifCond .eq 27, 3) := by decide +kernel
theorem dX2_join_30 : decode cX2_join 30 = .ok (.aload_n 2, 1) := by decide +kernel
theorem dX2_join_31 : decode cX2_join 31 = .ok (.getfield 107, 3) := by decide +kernel
theorem dX2_join_34 : decode cX2_join 34 = .ok (.iload_n 1, 1) := by decide +kernel
theorem dX2_join_35 : decode cX2_join 35 = .ok (.if_icmp .eq 19, 3) := by decide +kernel
theorem dX2_join_38 : decode cX2_join 38 = .ok (.aload_n 2, 1) := by decide +kernel
theorem dX2_join_39 : decode cX2_join 39 = .ok (.aload_n 0, 1) := by decide +kernel
theorem dX2_join_40 : decode cX2_join 40 = .ok (.aload_n 2, 1) := by decide +kernel
theorem dX2_join_41 : decode cX2_join 41 = .ok (.getfield 113, 3) := by decide +kernel
theorem dX2_join_44 : decode cX2_join 44 = .ok (.aload_n 2, 1) := by decide +kernel
theorem dX2_join_45 : decode cX2_join 45 = .ok (.getfield 116, 3) := by decide +kernel
theorem dX2_join_48 : decode cX2_join 48 = .ok (.invokevirtual 119, 3) := by decide +kernel
theorem dX2_join_51 : decode cX2_join 51 = .ok (.putfield 107, 3) := by decide +kernel
theorem dX2_join_54 : decode cX2_join 54 = .ok (.iinc 1 1, 3) := by decide +kernel
theorem dX2_join_57 : decode cX2_join 57 = .ok (.goto (-55), 3) := by decide +kernel
theorem dX2_join_60 : decode cX2_join 60 = .ok (.iconst 0, 1) := by decide +kernel
theorem dX2_join_61 : decode cX2_join 61 = .ok (.istore_n 1, 1) := by decide +kernel
theorem dX2_join_62 : decode cX2_join 62 = .ok (.iload_n 1, 1) := by decide +kernel
theorem dX2_join_63 : decode cX2_join 63 = .ok (.aload_n 0, 1) := by decide +kernel
theorem dX2_join_64 : decode cX2_join 64 = .ok (.getfield 9, 3) := by decide +kernel
theorem dX2_join_67 : decode cX2_join 67 = .ok (.getfield 64, 3) := by decide +kernel
theorem dX2_join_70 : decode cX2_join 70 = .ok (.if_icmp .ge 22, 3) := by decide +kernel
theorem dX2_join_73 : decode cX2_join 73 = .ok (.aload_n 0, 1) := by decide +kernel
theorem dX2_join_74 : decode cX2_join 74 = .ok (.iload_n 1, 1) := by decide +kernel
theorem dX2_join_75 : decode cX2_join 75 = .ok (.invokevirtual 123, 3) := by decide +kernel
theorem dX2_join_78 : decode cX2_join 78 = .ok (.ifCond .eq 8, 3) := by decide +kernel
theorem dX2_join_81 : decode cX2_join 81 = .ok (.aload_n 0, 1) := by decide +kernel
theorem dX2_join_82 : decode cX2_join 82 = .ok (.iload_n 1, 1) := by decide +kernel
theorem dX2_join_83 : decode cX2_join 83 = .ok (.invokevirtual 127, 3) := by decide +kernel
theorem dX2_join_86 : decode cX2_join 86 = .ok (.iinc 1 1, 3) := by decide +kernel
theorem dX2_join_89 : decode cX2_join 89 = .ok (.goto (-27), 3) := by decide +kernel
theorem dX2_join_92 : decode cX2_join 92 = .ok (.return_, 1) := by decide +kernel
set_option maxRecDepth 20000 in
theorem ggX2_nearestHead_X2_isLivingHead : GoodIn wsX2_nearestHead wsX2_isLivingHead := goodIn_r _ [8, 1, 3, 9, 10, 18, 19, 20, 21, 22, 23, 24, 25, 26, 27, 28, 29, 30, 31, 32, 33, 34, 35, 36, 37, 38, 39, 40] (by decide +kernel) (by decide +kernel)
set_option maxRecDepth 20000 in
theorem gX2_nearestHead_X2_isLivingHead : GoodIn wsX2_nearestHead (wsV RX2 131 RX2 yX2_isLivingHead wsX2_isLivingHead) := goodIn_app (goodIn_of _ (by decide +kernel)) ggX2_nearestHead_X2_isLivingHead
set_option maxRecDepth 20000 in
theorem ggX2_nearestHead_X3_distanceTo : GoodIn wsX2_nearestHead wsX3_distanceTo := goodIn_r _ [15, 16, 17, 30, 31, 32, 33, 34, 35, 36, 37, 38, 39, 40] (by decide +kernel) (by decide +kernel)
set_option maxRecDepth 20000 in
theorem gX2_nearestHead_X3_distanceTo : GoodIn wsX2_nearestHead (wsV RX2 134 RX3 yX3_distanceTo wsX3_distanceTo) := goodIn_app (goodIn_of _ (by decide +kernel)) ggX2_nearestHead_X3_distanceTo
theorem dX2_nearestHead_0 : decode cX2_nearestHead 0 = .ok (.bipush (-9), 2) := by decide +kernel
theorem dX2_nearestHead_2 : decode cX2_nearestHead 2 = .ok (.istore_n 3, 1) := by decide +kernel
theorem dX2_nearestHead_3 : decode cX2_nearestHead 3 = .ok (.iconst 0, 1) := by decide +kernel
theorem dX2_nearestHead_4 : decode cX2_nearestHead 4 = .ok (.istore 4, 2) := by decide +kernel
theorem dX2_nearestHead_6 : decode cX2_nearestHead 6 = .ok (.iconst 0, 1) := by decide +kernel
theorem dX2_nearestHead_7 : decode cX2_nearestHead 7 = .ok (.istore 5, 2) := by decide +kernel
theorem dX2_nearestHead_9 : decode cX2_nearestHead 9 = .ok (.iload 5, 2) := by decide +kernel
theorem dX2_nearestHead_11 : decode cX2_nearestHead 11 = .ok (.aload_n 0, 1) := by decide +kernel
theorem dX2_nearestHead_12 : decode cX2_nearestHead 12 = .ok (.getfield 9, 3) := by decide +kernel
theorem dX2_nearestHead_15 : decode cX2_nearestHead 15 = .ok (.getfield 64, 3) := by decide +kernel
theorem dX2_nearestHead_18 : decode cX2_nearestHead 18 = .ok (.if_icmp .ge 55, 3) := by decide +kernel
theorem dX2_nearestHead_21 : decode cX2_nearestHead 21 = .ok (.aload_n 0, 1) := by decide +kernel
theorem dX2_nearestHead_22 : decode cX2_nearestHead 22 = .ok (.iload 5, 2) := by decide +kernel
theorem dX2_nearestHead_24 : decode cX2_nearestHead 24 = .ok (.invokevirtual 131, 3) := by decide +kernel
theorem dX2_nearestHead_27 : decode cX2_nearestHead 27 = .ok (.ifCond .eq 40, 3) := by decide +kernel
theorem dX2_nearestHead_30 : decode cX2_nearestHead 30 = .ok (.aload_n 0, 1) := by decide +kernel
theorem dX2_nearestHead_31 : decode cX2_nearestHead 31 = .ok (.getfield 9, 3) := by decide +kernel
theorem dX2_nearestHead_34 : decode cX2_nearestHead 34 = .ok (.getfield 67, 3) := by decide +kernel
theorem dX2_nearestHead_37 : decode cX2_nearestHead 37 = .ok (.iload 5, 2) := by decide +kernel
theorem dX2_nearestHead_39 : decode cX2_nearestHead 39 = .ok (.aaload, 1) := by decide +kernel
theorem dX2_nearestHead_40 : decode cX2_nearestHead 40 = .ok (.iload_n 1, 1) := by decide +kernel
theorem dX2_nearestHead_41 : decode cX2_nearestHead 41 = .ok (.iload_n 2, 1) := by decide +kernel
theorem dX2_nearestHead_42 : decode cX2_nearestHead 42 = .ok (.invokevirtual 134, 3) := by decide +kernel
theorem dX2_nearestHead_45 : decode cX2_nearestHead 45 = .ok (.istore 6, 2) := by decide +kernel
theorem dX2_nearestHead_47 : decode cX2_nearestHead 47 = .ok (.iload_n 3, 1) := by decide +kernel
theorem dX2_nearestHead_48 : decode cX2_nearestHead 48 = .ok (.bipush (-9), 2) := by decide +kernel
theorem dX2_nearestHead_50 : decode cX2_nearestHead 50 = .ok (.if_icmp .eq 10, 3) := by decide +kernel
theorem dX2_nearestHead_53 : decode cX2_nearestHead 53 = .ok (.iload 6, 2) := by decide +kernel
theorem dX2_nearestHead_55 : decode cX2_nearestHead 55 = .ok (.iload 4, 2) := by decide +kernel
theorem dX2_nearestHead_57 : decode cX2_nearestHead 57 = .ok (.if_icmp .ge 10, 3) := by decide +kernel
theorem dX2_nearestHead_60 : decode cX2_nearestHead 60 = .ok (.iload 5, 2) := by decide +kernel
theorem dX2_nearestHead_62 : decode cX2_nearestHead 62 = .ok (.istore_n 3, 1) := by decide +kernel
theorem dX2_nearestHead_63 : decode cX2_nearestHead 63 = .ok (.iload 6, 2) := by decide +kernel
theorem dX2_nearestHead_65 : decode cX2_nearestHead 65 = .ok (.istore 4, 2) := by decide +kernel
theorem dX2_nearestHead_67 : decode cX2_nearestHead 67 = .ok (.iinc 5 1, 3) := by decide +kernel
theorem dX2_nearestHead_70 : decode cX2_nearestHead 70 = .ok (.goto (-61), 3) := by decide +kernel
theorem dX2_nearestHead_73 : decode cX2_nearestHead 73 = .ok (.iload_n 3, 1) := by decide +kernel
theorem dX2_nearestHead_74 : decode cX2_nearestHead 74 = .ok (.ireturn, 1) := by decide +kernel
set_option maxRecDepth 20000 in
theorem ggX2_giveSlots_X2_hasJoined : GoodIn wsX2_giveSlots wsX2_hasJoined := goodIn_r _ [9, 1, 3, 10, 11, 12, 13, 14, 15, 16, 17, 18, 19, 20, 21, 22, 23, 24, 25, 26, 27, 28, 29, 30, 31, 32, 33] (by decide +kernel) (by decide +kernel)
set_option maxRecDepth 20000 in
theorem gX2_giveSlots_X2_hasJoined : GoodIn wsX2_giveSlots (wsV RX2 137 RX2 yX2_hasJoined wsX2_hasJoined) := goodIn_app (goodIn_of _ (by decide +kernel)) ggX2_giveSlots_X2_hasJoined
theorem dX2_giveSlots_0 : decode cX2_giveSlots 0 = .ok (.iconst 0, 1) := by decide +kernel
theorem dX2_giveSlots_1 : decode cX2_giveSlots 1 = .ok (.istore_n 2, 1) := by decide +kernel
theorem dX2_giveSlots_2 : decode cX2_giveSlots 2 = .ok (.iconst 0, 1) := by decide +kernel
theorem dX2_giveSlots_3 : decode cX2_giveSlots 3 = .ok (.istore_n 3, 1) := by decide +kernel
theorem dX2_giveSlots_4 : decode cX2_giveSlots 4 = .ok (.iload_n 3, 1) := by decide +kernel
theorem dX2_giveSlots_5 : decode cX2_giveSlots 5 = .ok (.aload_n 0, 1) := by decide +kernel
theorem dX2_giveSlots_6 : decode cX2_giveSlots 6 = .ok (.getfield 9, 3) := by decide +kernel
theorem dX2_giveSlots_9 : decode cX2_giveSlots 9 = .ok (.getfield 64, 3) := by decide +kernel
theorem dX2_giveSlots_12 : decode cX2_giveSlots 12 = .ok (.if_icmp .ge 34, 3) := by decide +kernel
theorem dX2_giveSlots_15 : decode cX2_giveSlots 15 = .ok (.aload_n 0, 1) := by decide +kernel
theorem dX2_giveSlots_16 : decode cX2_giveSlots 16 = .ok (.iload_n 3, 1) := by decide +kernel
theorem dX2_giveSlots_17 : decode cX2_giveSlots 17 = .ok (.iload_n 1, 1) := by decide +kernel
theorem dX2_giveSlots_18 : decode cX2_giveSlots 18 = .ok (.invokevirtual 137, 3) := by decide +kernel
theorem dX2_giveSlots_21 : decode cX2_giveSlots 21 = .ok (.ifCond .eq 19, 3) := by decide +kernel
theorem dX2_giveSlots_24 : decode cX2_giveSlots 24 = .ok (.aload_n 0, 1) := by decide +kernel
theorem dX2_giveSlots_25 : decode cX2_giveSlots 25 = .ok (.getfield 9, 3) := by decide +kernel
theorem dX2_giveSlots_28 : decode cX2_giveSlots 28 = .ok (.getfield 67, 3) := by decide +kernel
theorem dX2_giveSlots_31 : decode cX2_giveSlots 31 = .ok (.iload_n 3, 1) := by decide +kernel
theorem dX2_giveSlots_32 : decode cX2_giveSlots 32 = .ok (.aaload, 1) := by decide +kernel
theorem dX2_giveSlots_33 : decode cX2_giveSlots 33 = .ok (.iload_n 2, 1) := by decide +kernel
theorem dX2_giveSlots_34 : decode cX2_giveSlots 34 = .ok (.putfield 141, 3) := by decide +kernel
theorem dX2_giveSlots_37 : decode cX2_giveSlots 37 = .ok (.iinc 2 1, 3) := by decide +kernel
theorem dX2_giveSlots_40 : decode cX2_giveSlots 40 = .ok (.iinc 3 1, 3) := by decide +kernel
theorem dX2_giveSlots_43 : decode cX2_giveSlots 43 = .ok (.goto (-39), 3) := by decide +kernel
theorem dX2_giveSlots_46 : decode cX2_giveSlots 46 = .ok (.return_, 1) := by decide +kernel
theorem dX2_isHead_0 : decode cX2_isHead 0 = .ok (.aload_n 0, 1) := by decide +kernel
theorem dX2_isHead_1 : decode cX2_isHead 1 = .ok (.getfield 9, 3) := by decide +kernel
theorem dX2_isHead_4 : decode cX2_isHead 4 = .ok (.getfield 67, 3) := by decide +kernel
theorem dX2_isHead_7 : decode cX2_isHead 7 = .ok (.iload_n 1, 1) := by decide +kernel
theorem dX2_isHead_8 : decode cX2_isHead 8 = .ok (.aaload, 1) := by decide +kernel
theorem dX2_isHead_9 : decode cX2_isHead 9 = .ok (.getfield 107, 3) := by decide +kernel
theorem dX2_isHead_12 : decode cX2_isHead 12 = .ok (.iload_n 1, 1) := by decide +kernel
theorem dX2_isHead_13 : decode cX2_isHead 13 = .ok (.if_icmp .ne 7, 3) := by decide +kernel
theorem dX2_isHead_16 : decode cX2_isHead 16 = .ok (.iconst 1, 1) := by decide +kernel
theorem dX2_isHead_17 : decode cX2_isHead 17 = .ok (.goto 4, 3) := by decide +kernel
theorem dX2_isHead_20 : decode cX2_isHead 20 = .ok (.iconst 0, 1) := by decide +kernel
theorem dX2_isHead_21 : decode cX2_isHead 21 = .ok (.ireturn, 1) := by decide +kernel
theorem dX2_isLivingHead_0 : decode cX2_isLivingHead 0 = .ok (.aload_n 0, 1) := by decide +kernel
theorem dX2_isLivingHead_1 : decode cX2_isLivingHead 1 = .ok (.getfield 9, 3) := by decide +kernel
theorem dX2_isLivingHead_4 : decode cX2_isLivingHead 4 = .ok (.getfield 67, 3) := by decide +kernel
theorem dX2_isLivingHead_7 : decode cX2_isLivingHead 7 = .ok (.iload_n 1, 1) := by decide +kernel
theorem dX2_isLivingHead_8 : decode cX2_isLivingHead 8 = .ok (.aaload, 1) := by decide +kernel
theorem dX2_isLivingHead_9 : decode cX2_isLivingHead 9 = .ok (.astore_n 2, 1) := by decide +kernel
theorem dX2_isLivingHead_10 : decode cX2_isLivingHead 10 = .ok (.aload_n 2, 1) := by decide +kernel
theorem dX2_isLivingHead_11 : decode cX2_isLivingHead 11 = .ok (.getfield 84, 3) := by decide +kernel
theorem dX2_isLivingHead_14 : decode cX2_isLivingHead 14 = .ok (.ifCond .eq 15, 3) := by decide +kernel
theorem dX2_isLivingHead_17 : decode cX2_isLivingHead 17 = .ok (.aload_n 2, 1) := by decide +kernel
theorem dX2_isLivingHead_18 : decode cX2_isLivingHead 18 = .ok (.getfield 107, 3) := by decide +kernel
theorem dX2_isLivingHead_21 : decode cX2_isLivingHead 21 = .ok (.iload_n 1, 1) := by decide +kernel
theorem dX2_isLivingHead_22 : decode cX2_isLivingHead 22 = .ok (.if_icmp .ne 7, 3) := by decide +kernel
theorem dX2_isLivingHead_25 : decode cX2_isLivingHead 25 = .ok (.iconst 1, 1) := by decide +kernel
theorem dX2_isLivingHead_26 : decode cX2_isLivingHead 26 = .ok (.goto 4, 3) := by decide +kernel
theorem dX2_isLivingHead_29 : decode cX2_isLivingHead 29 = .ok (.iconst 0, 1) := by decide +kernel
theorem dX2_isLivingHead_30 : decode cX2_isLivingHead 30 = .ok (.ireturn, 1) := by decide +kernel
theorem dX2_hasJoined_0 : decode cX2_hasJoined 0 = .ok (.iload_n 1, 1) := by decide +kernel
theorem dX2_hasJoined_1 : decode cX2_hasJoined 1 = .ok (.iload_n 2, 1) := by decide +kernel
theorem dX2_hasJoined_2 : decode cX2_hasJoined 2 = .ok (.if_icmp .eq 23, 3) := by decide +kernel
theorem dX2_hasJoined_5 : decode cX2_hasJoined 5 = .ok (.aload_n 0, 1) := by decide +kernel
theorem dX2_hasJoined_6 : decode cX2_hasJoined 6 = .ok (.getfield 9, 3) := by decide +kernel
theorem dX2_hasJoined_9 : decode cX2_hasJoined 9 = .ok (.getfield 67, 3) := by decide +kernel
theorem dX2_hasJoined_12 : decode cX2_hasJoined 12 = .ok (.iload_n 1, 1) := by decide +kernel
theorem dX2_hasJoined_13 : decode cX2_hasJoined 13 = .ok (.aaload, 1) := by decide +kernel
theorem dX2_hasJoined_14 : decode cX2_hasJoined 14 = .ok (.getfield 107, 3) := by decide +kernel
theorem dX2_hasJoined_17 : decode cX2_hasJoined 17 = .ok (.iload_n 2, 1) := by decide +kernel
theorem dX2_hasJoined_18 : decode cX2_hasJoined 18 = .ok (.if_icmp .ne 7, 3) := by decide +kernel
theorem dX2_hasJoined_21 : decode cX2_hasJoined 21 = .ok (.iconst 1, 1) := by decide +kernel
theorem dX2_hasJoined_22 : decode cX2_hasJoined 22 = .ok (.goto 4, 3) := by decide +kernel
theorem dX2_hasJoined_25 : decode cX2_hasJoined 25 = .ok (.iconst 0, 1) := by decide +kernel
theorem dX2_hasJoined_26 : decode cX2_hasJoined 26 = .ok (.ireturn, 1) := by decide +kernel
set_option maxRecDepth 20000 in
theorem ggX2_reportToHeads_X2_isHead : GoodIn wsX2_reportToHeads wsX2_isHead := goodIn_r _ [7, 1, 8, 9, 48, 49, 50, 51, 52, 53, 54, 55, 56, 57, 58, 59, 60, 61, 62, 63, 64, 65, 66, 67, 68, 69, 70] (by decide +kernel) (by decide +kernel)
set_option maxRecDepth 20000 in
theorem gX2_reportToHeads_X2_isHead : GoodIn wsX2_reportToHeads (wsV RX2 123 RX2 yX2_isHead wsX2_isHead) := goodIn_app (goodIn_of _ (by decide +kernel)) ggX2_reportToHeads_X2_isHead
set_option maxRecDepth 20000 in
theorem ggX2_reportToHeads_X2_reportTo : GoodIn wsX2_reportToHeads wsX2_reportTo := goodIn_r _ [13, 1, 8, 2, 14, 15, 16, 17, 18, 6, 19, 9, 20, 21, 22, 23, 24, 25, 26, 27, 28, 29, 30, 31, 32, 33, 34, 35, 36, 37, 38, 39, 40, 41, 42, 43, 44, 45, 46, 47, 48, 49, 50, 51, 52, 53, 54, 55, 56, 57, 58, 59, 60, 61, 62, 63, 64, 65, 66, 67, 68, 69, 70] (by decide +kernel) (by decide +kernel)
set_option maxRecDepth 20000 in
theorem gX2_reportToHeads_X2_reportTo : GoodIn wsX2_reportToHeads (wsV RX2 144 RX2 yX2_reportTo wsX2_reportTo) := goodIn_app (goodIn_of _ (by decide +kernel)) ggX2_reportToHeads_X2_reportTo
theorem dX2_reportToHeads_0 : decode cX2_reportToHeads 0 = .ok (.iconst 0, 1) := by decide +kernel
theorem dX2_reportToHeads_1 : decode cX2_reportToHeads 1 = .ok (.istore_n 1, 1) := by decide +kernel
theorem dX2_reportToHeads_2 : decode cX2_reportToHeads 2 = .ok (.iload_n 1, 1) := by decide +kernel
theorem dX2_reportToHeads_3 : decode cX2_reportToHeads 3 = .ok (.aload_n 0, 1) := by decide +kernel
theorem dX2_reportToHeads_4 : decode cX2_reportToHeads 4 = .ok (.getfield 9, 3) := by decide +kernel
theorem dX2_reportToHeads_7 : decode cX2_reportToHeads 7 = .ok (.getfield 64, 3) := by decide +kernel
theorem dX2_reportToHeads_10 : decode cX2_reportToHeads 10 = .ok (.if_icmp .ge 22, 3) := by decide +kernel
theorem dX2_reportToHeads_13 : decode cX2_reportToHeads 13 = .ok (.aload_n 0, 1) := by decide +kernel
theorem dX2_reportToHeads_14 : decode cX2_reportToHeads 14 = .ok (.iload_n 1, 1) := by decide +kernel
theorem dX2_reportToHeads_15 : decode cX2_reportToHeads 15 = .ok (.invokevirtual 123, 3) := by decide +kernel
theorem dX2_reportToHeads_18 : decode cX2_reportToHeads 18 = .ok (.ifCond .eq 8, 3) := by decide +kernel
theorem dX2_reportToHeads_21 : decode cX2_reportToHeads 21 = .ok (.aload_n 0, 1) := by decide +kernel
theorem dX2_reportToHeads_22 : decode cX2_reportToHeads 22 = .ok (.iload_n 1, 1) := by decide +kernel
theorem dX2_reportToHeads_23 : decode cX2_reportToHeads 23 = .ok (.invokevirtual 144, 3) := by decide +kernel
theorem dX2_reportToHeads_26 : decode cX2_reportToHeads 26 = .ok (.iinc 1 1, 3) := by decide +kernel
theorem dX2_reportToHeads_29 : decode cX2_reportToHeads 29 = .ok (.goto (-27), 3) := by decide +kernel
theorem dX2_reportToHeads_32 : decode cX2_reportToHeads 32 = .ok (.return_, 1) := by decide +kernel
set_option maxRecDepth 20000 in
theorem ggX2_reportTo_X2_hasJoined : GoodIn wsX2_reportTo wsX2_hasJoined := goodIn_r _ [10, 1, 2, 11, 40, 41, 42, 43, 44, 45, 46, 47, 48, 49, 50, 51, 52, 53, 54, 55, 56, 57, 58, 59, 60, 61, 62] (by decide +kernel) (by decide +kernel)
set_option maxRecDepth 20000 in
theorem gX2_reportTo_X2_hasJoined : GoodIn wsX2_reportTo (wsV RX2 137 RX2 yX2_hasJoined wsX2_hasJoined) := goodIn_app (goodIn_of _ (by decide +kernel)) ggX2_reportTo_X2_hasJoined
set_option maxRecDepth 20000 in
theorem ggX2_reportTo_X2_sends : GoodIn wsX2_reportTo wsX2_sends := goodIn_r _ [15, 1, 16, 17, 4, 18, 19, 20, 21, 22, 23, 24, 25, 26, 27, 28, 29, 30, 31, 32, 33, 34, 9, 35, 36, 37, 38, 39, 40, 52, 53, 54, 55, 56, 57, 58, 59, 60, 61, 62, 41, 42, 43, 44, 45, 46, 47, 48, 49, 50, 51] (by decide +kernel) (by decide +kernel)
set_option maxRecDepth 20000 in
theorem gX2_reportTo_X2_sends : GoodIn wsX2_reportTo (wsV RX2 147 RX2 yX2_sends wsX2_sends) := goodIn_app (goodIn_of _ (by decide +kernel)) ggX2_reportTo_X2_sends
theorem dX2_reportTo_0 : decode cX2_reportTo 0 = .ok (.aload_n 0, 1) := by decide +kernel
theorem dX2_reportTo_1 : decode cX2_reportTo 1 = .ok (.getfield 9, 3) := by decide +kernel
theorem dX2_reportTo_4 : decode cX2_reportTo 4 = .ok (.getfield 67, 3) := by decide +kernel
theorem dX2_reportTo_7 : decode cX2_reportTo 7 = .ok (.iload_n 1, 1) := by decide +kernel
theorem dX2_reportTo_8 : decode cX2_reportTo 8 = .ok (.aaload, 1) := by decide +kernel
theorem dX2_reportTo_9 : decode cX2_reportTo 9 = .ok (.astore_n 2, 1) := by decide +kernel
theorem dX2_reportTo_10 : decode cX2_reportTo 10 = .ok (.iconst 0, 1) := by decide +kernel
theorem dX2_reportTo_11 : decode cX2_reportTo 11 = .ok (.istore_n 3, 1) := by decide +kernel
theorem dX2_reportTo_12 : decode cX2_reportTo 12 = .ok (.iload_n 3, 1) := by decide +kernel
theorem dX2_reportTo_13 : decode cX2_reportTo 13 = .ok (.aload_n 0, 1) := by decide +kernel
theorem dX2_reportTo_14 : decode cX2_reportTo 14 = .ok (.getfield 9, 3) := by decide +kernel
theorem dX2_reportTo_17 : decode cX2_reportTo 17 = .ok (.getfield 64, 3) := by decide +kernel
theorem dX2_reportTo_20 : decode cX2_reportTo 20 = .ok (.if_icmp .ge 57, 3) := by decide +kernel
theorem dX2_reportTo_23 : decode cX2_reportTo 23 = .ok (.aload_n 0, 1) := by decide +kernel
theorem dX2_reportTo_24 : decode cX2_reportTo 24 = .ok (.getfield 9, 3) := by decide +kernel
theorem dX2_reportTo_27 : decode cX2_reportTo 27 = .ok (.getfield 67, 3) := by decide +kernel
theorem dX2_reportTo_30 : decode cX2_reportTo 30 = .ok (.iload_n 3, 1) := by decide +kernel
theorem dX2_reportTo_31 : decode cX2_reportTo 31 = .ok (.aaload, 1) := by decide +kernel
theorem dX2_reportTo_32 : decode cX2_reportTo 32 = .ok (.astore 4, 2) := by decide +kernel
theorem dX2_reportTo_34 : decode cX2_reportTo 34 = .ok (.aload_n 0, 1) := by decide +kernel
theorem dX2_reportTo_35 : decode cX2_reportTo 35 = .ok (.iload_n 3, 1) := by decide +kernel
theorem dX2_reportTo_36 : decode cX2_reportTo 36 = .ok (.iload_n 1, 1) := by decide +kernel
theorem dX2_reportTo_37 : decode cX2_reportTo 37 = .ok (.invokevirtual 137, 3) := by decide +kernel
theorem dX2_reportTo_40 : decode cX2_reportTo 40 = .ok (.ifCond .eq 31, 3) := by decide +kernel
theorem dX2_reportTo_43 : decode cX2_reportTo 43 = .ok (.aload 4, 2) := by decide +kernel
theorem dX2_reportTo_45 : decode cX2_reportTo 45 = .ok (.getfield 84, 3) := by decide +kernel
theorem dX2_reportTo_48 : decode cX2_reportTo 48 = .ok (.ifCond .eq 23, 3) := by decide +kernel
theorem dX2_reportTo_51 : decode cX2_reportTo 51 = .ok (.aload_n 0, 1) := by decide +kernel
theorem dX2_reportTo_52 : decode cX2_reportTo 52 = .ok (.aload 4, 2) := by decide +kernel
theorem dX2_reportTo_54 : decode cX2_reportTo 54 = .ok (.aload_n 2, 1) := by decide +kernel
theorem dX2_reportTo_55 : decode cX2_reportTo 55 = .ok (.invokevirtual 147, 3) := by decide +kernel
theorem dX2_reportTo_58 : decode cX2_reportTo 58 = .ok (.ifCond .eq 13, 3) := by decide +kernel
theorem dX2_reportTo_61 : decode cX2_reportTo 61 = .ok (.aload_n 2, 1) := by decide +kernel
theorem dX2_reportTo_62 : decode cX2_reportTo 62 = .ok (.dup, 1) := by decide +kernel
theorem dX2_reportTo_63 : decode cX2_reportTo 63 = .ok (.getfield 151, 3) := by decide +kernel
theorem dX2_reportTo_66 : decode cX2_reportTo 66 = .ok (.iconst 1, 1) := by decide +kernel
theorem dX2_reportTo_67 : decode cX2_reportTo 67 = .ok (.iadd, 1) := by decide +kernel
theorem dX2_reportTo_68 : decode cX2_reportTo 68 = .ok (.putfield 151, 3) := by decide +kernel
theorem dX2_reportTo_71 : decode cX2_reportTo 71 = .ok (.iinc 3 1, 3) := by decide +kernel
theorem dX2_reportTo_74 : decode cX2_reportTo 74 = .ok (.goto (-62), 3) := by decide +kernel
theorem dX2_reportTo_77 : decode cX2_reportTo 77 = .ok (.return_, 1) := by decide +kernel
set_option maxRecDepth 20000 in
theorem ggX2_addOwnReadings_X2_isLivingHead : GoodIn wsX2_addOwnReadings wsX2_isLivingHead := goodIn_r _ [10, 1, 3, 11, 12, 21, 22, 23, 24, 25, 26, 27, 28, 29, 30, 31, 32, 33, 34, 35, 36, 37, 38, 39, 40, 41, 42, 43] (by decide +kernel) (by decide +kernel)
set_option maxRecDepth 20000 in
theorem gX2_addOwnReadings_X2_isLivingHead : GoodIn wsX2_addOwnReadings (wsV RX2 131 RX2 yX2_isLivingHead wsX2_isLivingHead) := goodIn_app (goodIn_of _ (by decide +kernel)) ggX2_addOwnReadings_X2_isLivingHead
set_option maxRecDepth 20000 in
theorem ggX2_addOwnReadings_X2_pays : GoodIn wsX2_addOwnReadings wsX2_pays := goodIn_r _ [16, 17, 11, 1, 18, 19, 20, 33, 34, 35, 36, 37, 38, 39, 40, 41, 42, 43, 21, 22, 23, 24, 25, 26, 27, 28, 29, 30, 31, 32] (by decide +kernel) (by decide +kernel)
set_option maxRecDepth 20000 in
theorem gX2_addOwnReadings_X2_pays : GoodIn wsX2_addOwnReadings (wsV RX2 103 RX2 yX2_pays wsX2_pays) := goodIn_app (goodIn_of _ (by decide +kernel)) ggX2_addOwnReadings_X2_pays
theorem dX2_addOwnReadings_0 : decode cX2_addOwnReadings 0 = .ok (.iconst 0, 1) := by decide +kernel
theorem dX2_addOwnReadings_1 : decode cX2_addOwnReadings 1 = .ok (.istore_n 1, 1) := by decide +kernel
theorem dX2_addOwnReadings_2 : decode cX2_addOwnReadings 2 = .ok (.iload_n 1, 1) := by decide +kernel
theorem dX2_addOwnReadings_3 : decode cX2_addOwnReadings 3 = .ok (.aload_n 0, 1) := by decide +kernel
theorem dX2_addOwnReadings_4 : decode cX2_addOwnReadings 4 = .ok (.getfield 9, 3) := by decide +kernel
theorem dX2_addOwnReadings_7 : decode cX2_addOwnReadings 7 = .ok (.getfield 64, 3) := by decide +kernel
theorem dX2_addOwnReadings_10 : decode cX2_addOwnReadings 10 = .ok (.if_icmp .ge 54, 3) := by decide +kernel
theorem dX2_addOwnReadings_13 : decode cX2_addOwnReadings 13 = .ok (.aload_n 0, 1) := by decide +kernel
theorem dX2_addOwnReadings_14 : decode cX2_addOwnReadings 14 = .ok (.getfield 9, 3) := by decide +kernel
theorem dX2_addOwnReadings_17 : decode cX2_addOwnReadings 17 = .ok (.getfield 67, 3) := by decide +kernel
theorem dX2_addOwnReadings_20 : decode cX2_addOwnReadings 20 = .ok (.iload_n 1, 1) := by decide +kernel
theorem dX2_addOwnReadings_21 : decode cX2_addOwnReadings 21 = .ok (.aaload, 1) := by decide +kernel
theorem dX2_addOwnReadings_22 : decode cX2_addOwnReadings 22 = .ok (.astore_n 2, 1) := by decide +kernel
theorem dX2_addOwnReadings_23 : decode cX2_addOwnReadings 23 = .ok (.aload_n 0, 1) := by decide +kernel
theorem dX2_addOwnReadings_24 : decode cX2_addOwnReadings 24 = .ok (.iload_n 1, 1) := by decide +kernel
theorem dX2_addOwnReadings_25 : decode cX2_addOwnReadings 25 = .ok (.invokevirtual 131, 3) := by decide +kernel
theorem dX2_addOwnReadings_28 : decode cX2_addOwnReadings 28 = .ok (.ifCond .eq 30, 3) := by decide +kernel
theorem dX2_addOwnReadings_31 : decode cX2_addOwnReadings 31 = .ok (.aload_n 0, 1) := by decide +kernel
theorem dX2_addOwnReadings_32 : decode cX2_addOwnReadings 32 = .ok (.aload_n 2, 1) := by decide +kernel
theorem dX2_addOwnReadings_33 : decode cX2_addOwnReadings 33 = .ok (.aload_n 0, 1) := by decide +kernel
theorem dX2_addOwnReadings_34 : decode cX2_addOwnReadings 34 = .ok (.getfield 9, 3) := by decide +kernel
theorem dX2_addOwnReadings_37 : decode cX2_addOwnReadings 37 = .ok (.getfield 80, 3) := by decide +kernel
theorem dX2_addOwnReadings_40 : decode cX2_addOwnReadings 40 = .ok (.iconst 3, 1) := by decide +kernel
theorem dX2_addOwnReadings_41 : decode cX2_addOwnReadings 41 = .ok (.iaload, 1) := by decide +kernel
theorem dX2_addOwnReadings_42 : decode cX2_addOwnReadings 42 = .ok (.invokevirtual 103, 3) := by decide +kernel
theorem dX2_addOwnReadings_45 : decode cX2_addOwnReadings 45 = .ok (.ifCond .eq 13, 3) := by decide +kernel
theorem dX2_addOwnReadings_48 : decode cX2_addOwnReadings 48 = .ok (.aload_n 2, 1) := by decide +kernel
theorem dX2_addOwnReadings_49 : decode cX2_addOwnReadings 49 = .ok (.dup, 1) := by decide +kernel
theorem dX2_addOwnReadings_50 : decode cX2_addOwnReadings 50 = .ok (.getfield 151, 3) := by decide +kernel
theorem dX2_addOwnReadings_53 : decode cX2_addOwnReadings 53 = .ok (.iconst 1, 1) := by decide +kernel
theorem dX2_addOwnReadings_54 : decode cX2_addOwnReadings 54 = .ok (.iadd, 1) := by decide +kernel
theorem dX2_addOwnReadings_55 : decode cX2_addOwnReadings 55 = .ok (.putfield 151, 3) := by decide +kernel
theorem dX2_addOwnReadings_58 : decode cX2_addOwnReadings 58 = .ok (.iinc 1 1, 3) := by decide +kernel
theorem dX2_addOwnReadings_61 : decode cX2_addOwnReadings 61 = .ok (.goto (-59), 3) := by decide +kernel
theorem dX2_addOwnReadings_64 : decode cX2_addOwnReadings 64 = .ok (.return_, 1) := by decide +kernel
set_option maxRecDepth 20000 in
theorem ggX2_deliver_X2_deliverThroughRelay : GoodIn wsX2_deliver wsX2_deliverThroughRelay := goodIn_r _ [7, 1, 8, 9, 10, 11, 12, 13, 14, 15, 16, 6, 17, 18, 19, 20, 21, 22, 23, 24, 25, 26, 27, 28, 29, 30, 31, 32, 33, 34, 35, 36, 37, 38, 39, 40, 41, 2, 42, 43, 44, 45, 46, 47, 48, 49, 50, 51, 52, 53, 54, 55, 56, 57, 58, 59, 64, 65, 66, 67, 68, 69, 70, 71, 72, 73, 74, 75, 76, 77, 78, 79, 80, 81, 82, 83, 84, 85, 86] (by decide +kernel) (by decide +kernel)
set_option maxRecDepth 20000 in
theorem gX2_deliver_X2_deliverThroughRelay : GoodIn wsX2_deliver (wsV RX2 154 RX2 yX2_deliverThroughRelay wsX2_deliverThroughRelay) := goodIn_app (goodIn_of _ (by decide +kernel)) ggX2_deliver_X2_deliverThroughRelay
set_option maxRecDepth 20000 in
theorem ggX2_deliver_X2_deliverDirectly : GoodIn wsX2_deliver wsX2_deliverDirectly := goodIn_r _ [63, 1, 11, 10, 12, 18, 19, 20, 6, 21, 13, 22, 55, 56, 57, 58, 8, 9, 59, 23, 24, 25, 26, 27, 28, 29, 42, 43, 44, 33, 45, 46, 47, 48, 49, 50, 51, 52, 53, 54, 64, 65, 66, 67, 68, 69, 70, 71, 72, 73, 74, 75, 76, 77, 78, 79, 80, 81, 82, 83, 84, 85, 86] (by decide +kernel) (by decide +kernel)
set_option maxRecDepth 20000 in
theorem gX2_deliver_X2_deliverDirectly : GoodIn wsX2_deliver (wsV RX2 157 RX2 yX2_deliverDirectly wsX2_deliverDirectly) := goodIn_app (goodIn_of _ (by decide +kernel)) ggX2_deliver_X2_deliverDirectly
theorem dX2_deliver_0 : decode cX2_deliver 0 = .ok (.aload_n 0, 1) := by decide +kernel
theorem dX2_deliver_1 : decode cX2_deliver 1 = .ok (.getfield 9, 3) := by decide +kernel
theorem dX2_deliver_4 : decode cX2_deliver 4 = .ok (.getfield 80, 3) := by decide +kernel
theorem dX2_deliver_7 : decode cX2_deliver 7 = .ok (.iconst 5, 1) := by decide +kernel
theorem dX2_deliver_8 : decode cX2_deliver 8 = .ok (.iaload, 1) := by decide +kernel
theorem dX2_deliver_9 : decode cX2_deliver 9 = .ok (.iconst 1, 1) := by decide +kernel
theorem dX2_deliver_10 : decode cX2_deliver 10 = .ok (.if_icmp .ne 10, 3) := by decide +kernel
theorem dX2_deliver_13 : decode cX2_deliver 13 = .ok (.aload_n 0, 1) := by decide +kernel
theorem dX2_deliver_14 : decode cX2_deliver 14 = .ok (.invokevirtual 154, 3) := by decide +kernel
theorem dX2_deliver_17 : decode cX2_deliver 17 = .ok (.goto 7, 3) := by decide +kernel
theorem dX2_deliver_20 : decode cX2_deliver 20 = .ok (.aload_n 0, 1) := by decide +kernel
theorem dX2_deliver_21 : decode cX2_deliver 21 = .ok (.invokevirtual 157, 3) := by decide +kernel
theorem dX2_deliver_24 : decode cX2_deliver 24 = .ok (.return_, 1) := by decide +kernel
set_option maxRecDepth 20000 in
theorem ggX2_deliverDirectly_X2_isLivingHead : GoodIn wsX2_deliverDirectly wsX2_isLivingHead := goodIn_r _ [9, 1, 3, 10, 11, 40, 41, 42, 43, 44, 45, 46, 47, 48, 49, 50, 51, 52, 53, 54, 55, 56, 57, 58, 59, 60, 61, 62] (by decide +kernel) (by decide +kernel)
set_option maxRecDepth 20000 in
theorem gX2_deliverDirectly_X2_isLivingHead : GoodIn wsX2_deliverDirectly (wsV RX2 131 RX2 yX2_isLivingHead wsX2_isLivingHead) := goodIn_app (goodIn_of _ (by decide +kernel)) ggX2_deliverDirectly_X2_isLivingHead
set_option maxRecDepth 20000 in
theorem ggX2_deliverDirectly_X2_sendToBase : GoodIn wsX2_deliverDirectly wsX2_sendToBase := goodIn_r _ [15, 1, 16, 17, 18, 19, 20, 21, 22, 23, 24, 25, 26, 27, 28, 29, 30, 31, 32, 33, 34, 8, 35, 36, 10, 37, 38, 39, 40, 41, 42, 43, 44, 45, 46, 47, 48, 49, 50, 51, 52, 53, 54, 55, 56, 57, 58, 59, 60, 61, 62] (by decide +kernel) (by decide +kernel)
set_option maxRecDepth 20000 in
theorem gX2_deliverDirectly_X2_sendToBase : GoodIn wsX2_deliverDirectly (wsV RX2 160 RX2 yX2_sendToBase wsX2_sendToBase) := goodIn_app (goodIn_of _ (by decide +kernel)) ggX2_deliverDirectly_X2_sendToBase
theorem dX2_deliverDirectly_0 : decode cX2_deliverDirectly 0 = .ok (.iconst 0, 1) := by decide +kernel
theorem dX2_deliverDirectly_1 : decode cX2_deliverDirectly 1 = .ok (.istore_n 1, 1) := by decide +kernel
theorem dX2_deliverDirectly_2 : decode cX2_deliverDirectly 2 = .ok (.iload_n 1, 1) := by decide +kernel
theorem dX2_deliverDirectly_3 : decode cX2_deliverDirectly 3 = .ok (.aload_n 0, 1) := by decide +kernel
theorem dX2_deliverDirectly_4 : decode cX2_deliverDirectly 4 = .ok (.getfield 9, 3) := by decide +kernel
theorem dX2_deliverDirectly_7 : decode cX2_deliverDirectly 7 = .ok (.getfield 64, 3) := by decide +kernel
theorem dX2_deliverDirectly_10 : decode cX2_deliverDirectly 10 = .ok (.if_icmp .ge 36, 3) := by decide +kernel
theorem dX2_deliverDirectly_13 : decode cX2_deliverDirectly 13 = .ok (.aload_n 0, 1) := by decide +kernel
theorem dX2_deliverDirectly_14 : decode cX2_deliverDirectly 14 = .ok (.getfield 9, 3) := by decide +kernel
theorem dX2_deliverDirectly_17 : decode cX2_deliverDirectly 17 = .ok (.getfield 67, 3) := by decide +kernel
theorem dX2_deliverDirectly_20 : decode cX2_deliverDirectly 20 = .ok (.iload_n 1, 1) := by decide +kernel
theorem dX2_deliverDirectly_21 : decode cX2_deliverDirectly 21 = .ok (.aaload, 1) := by decide +kernel
theorem dX2_deliverDirectly_22 : decode cX2_deliverDirectly 22 = .ok (.astore_n 2, 1) := by decide +kernel
theorem dX2_deliverDirectly_23 : decode cX2_deliverDirectly 23 = .ok (.aload_n 0, 1) := by decide +kernel
theorem dX2_deliverDirectly_24 : decode cX2_deliverDirectly 24 = .ok (.iload_n 1, 1) := by decide +kernel
theorem dX2_deliverDirectly_25 : decode cX2_deliverDirectly 25 = .ok (.invokevirtual 131, 3) := by decide +kernel
theorem dX2_deliverDirectly_28 : decode cX2_deliverDirectly 28 = .ok (.ifCond .eq 12, 3) := by decide +kernel
theorem dX2_deliverDirectly_31 : decode cX2_deliverDirectly 31 = .ok (.aload_n 0, 1) := by decide +kernel
theorem dX2_deliverDirectly_32 : decode cX2_deliverDirectly 32 = .ok (.aload_n 2, 1) := by decide +kernel
theorem dX2_deliverDirectly_33 : decode cX2_deliverDirectly 33 = .ok (.aload_n 2, 1) := by decide +kernel
theorem dX2_deliverDirectly_34 : decode cX2_deliverDirectly 34 = .ok (.getfield 151, 3) := by decide +kernel
theorem dX2_deliverDirectly_37 : decode cX2_deliverDirectly 37 = .ok (.invokevirtual 160, 3) := by decide +kernel
theorem dX2_deliverDirectly_40 : decode cX2_deliverDirectly 40 = .ok (.iinc 1 1, 3) := by decide +kernel
theorem dX2_deliverDirectly_43 : decode cX2_deliverDirectly 43 = .ok (.goto (-41), 3) := by decide +kernel
theorem dX2_deliverDirectly_46 : decode cX2_deliverDirectly 46 = .ok (.return_, 1) := by decide +kernel
set_option maxRecDepth 20000 in
theorem ggX2_deliverThroughRelay_X2_nearestHead : GoodIn wsX2_deliverThroughRelay wsX2_nearestHead := goodIn_r _ [12, 1, 5, 4, 13, 14, 15, 11, 16, 7, 17, 18, 19, 20, 21, 22, 23, 24, 56, 57, 58, 59, 60, 61, 62, 63, 64, 65, 66, 67, 68, 69, 70, 71, 72, 73, 74, 75, 76, 77, 78] (by decide +kernel) (by decide +kernel)
set_option maxRecDepth 20000 in
theorem gX2_deliverThroughRelay_X2_nearestHead : GoodIn wsX2_deliverThroughRelay (wsV RX2 119 RX2 yX2_nearestHead wsX2_nearestHead) := goodIn_app (goodIn_of _ (by decide +kernel)) ggX2_deliverThroughRelay_X2_nearestHead
set_option maxRecDepth 20000 in
theorem ggX2_deliverThroughRelay_X1_has : GoodIn wsX2_deliverThroughRelay wsX1_has := goodIn_r _ [29, 30, 57, 58, 59, 60, 61, 62, 63, 64, 65, 66, 67] (by decide +kernel) (by decide +kernel)
set_option maxRecDepth 20000 in
theorem gX2_deliverThroughRelay_X1_has : GoodIn wsX2_deliverThroughRelay (wsV RX2 170 RX1 yX1_has wsX1_has) := goodIn_app (goodIn_of _ (by decide +kernel)) ggX2_deliverThroughRelay_X1_has
set_option maxRecDepth 20000 in
theorem ggX2_deliverThroughRelay_X2_isLivingHead : GoodIn wsX2_deliverThroughRelay wsX2_isLivingHead := goodIn_r _ [16, 1, 4, 7, 17, 56, 57, 58, 59, 60, 61, 62, 63, 64, 65, 66, 67, 68, 69, 70, 71, 72, 73, 74, 75, 76, 77, 78] (by decide +kernel) (by decide +kernel)
set_option maxRecDepth 20000 in
theorem gX2_deliverThroughRelay_X2_isLivingHead : GoodIn wsX2_deliverThroughRelay (wsV RX2 131 RX2 yX2_isLivingHead wsX2_isLivingHead) := goodIn_app (goodIn_of _ (by decide +kernel)) ggX2_deliverThroughRelay_X2_isLivingHead
set_option maxRecDepth 20000 in
theorem ggX2_deliverThroughRelay_X2_sends : GoodIn wsX2_deliverThroughRelay wsX2_sends := goodIn_r _ [34, 1, 35, 36, 7, 37, 18, 19, 20, 21, 22, 23, 24, 38, 39, 40, 28, 41, 42, 43, 44, 45, 11, 46, 47, 48, 49, 50, 56, 68, 69, 70, 71, 72, 73, 74, 75, 76, 77, 78, 57, 58, 59, 60, 61, 62, 63, 64, 65, 66, 67] (by decide +kernel) (by decide +kernel)
set_option maxRecDepth 20000 in
theorem gX2_deliverThroughRelay_X2_sends : GoodIn wsX2_deliverThroughRelay (wsV RX2 147 RX2 yX2_sends wsX2_sends) := goodIn_app (goodIn_of _ (by decide +kernel)) ggX2_deliverThroughRelay_X2_sends
set_option maxRecDepth 20000 in
theorem ggX2_deliverThroughRelay_X2_sendToBase : GoodIn wsX2_deliverThroughRelay wsX2_sendToBase := goodIn_r _ [54, 1, 2, 3, 55, 18, 19, 20, 21, 22, 23, 24, 38, 39, 40, 28, 41, 42, 43, 44, 45, 11, 46, 47, 7, 48, 49, 50, 56, 57, 58, 59, 60, 61, 62, 63, 64, 65, 66, 67, 68, 69, 70, 71, 72, 73, 74, 75, 76, 77, 78] (by decide +kernel) (by decide +kernel)
set_option maxRecDepth 20000 in
theorem gX2_deliverThroughRelay_X2_sendToBase : GoodIn wsX2_deliverThroughRelay (wsV RX2 160 RX2 yX2_sendToBase wsX2_sendToBase) := goodIn_app (goodIn_of _ (by decide +kernel)) ggX2_deliverThroughRelay_X2_sendToBase
theorem dX2_deliverThroughRelay_0 : decode cX2_deliverThroughRelay 0 = .ok (.aload_n 0, 1) := by decide +kernel
theorem dX2_deliverThroughRelay_1 : decode cX2_deliverThroughRelay 1 = .ok (.aload_n 0, 1) := by decide +kernel
theorem dX2_deliverThroughRelay_2 : decode cX2_deliverThroughRelay 2 = .ok (.getfield 9, 3) := by decide +kernel
theorem dX2_deliverThroughRelay_5 : decode cX2_deliverThroughRelay 5 = .ok (.getfield 164, 3) := by decide +kernel
theorem dX2_deliverThroughRelay_8 : decode cX2_deliverThroughRelay 8 = .ok (.aload_n 0, 1) := by decide +kernel
theorem dX2_deliverThroughRelay_9 : decode cX2_deliverThroughRelay 9 = .ok (.getfield 9, 3) := by decide +kernel
theorem dX2_deliverThroughRelay_12 : decode cX2_deliverThroughRelay 12 = .ok (.getfield 167, 3) := by decide +kernel
theorem dX2_deliverThroughRelay_15 : decode cX2_deliverThroughRelay 15 = .ok (.invokevirtual 119, 3) := by decide +kernel
theorem dX2_deliverThroughRelay_18 : decode cX2_deliverThroughRelay 18 = .ok (.istore_n 1, 1) := by decide +kernel
theorem dX2_deliverThroughRelay_19 : decode cX2_deliverThroughRelay 19 = .ok (.aload_n 0, 1) := by decide +kernel
theorem dX2_deliverThroughRelay_20 : decode cX2_deliverThroughRelay 20 = .ok (.getfield 9, 3) := by decide +kernel
theorem dX2_deliverThroughRelay_23 : decode cX2_deliverThroughRelay 23 = .ok (.iload_n 1, 1) := by decide +kernel
theorem dX2_deliverThroughRelay_24 : decode cX2_deliverThroughRelay 24 = .ok (.invokevirtual 170, 3) := by decide +kernel
theorem dX2_deliverThroughRelay_27 : decode cX2_deliverThroughRelay 27 = .ok (.ifCond .ne 4, 3) := by decide +kernel
theorem dX2_deliverThroughRelay_30 : decode cX2_deliverThroughRelay 30 = .ok (.return_, 1) := by decide +kernel
theorem dX2_deliverThroughRelay_31 : decode cX2_deliverThroughRelay 31 = .ok (.aload_n 0, 1) := by decide +kernel
theorem dX2_deliverThroughRelay_32 : decode cX2_deliverThroughRelay 32 = .ok (.getfield 9, 3) := by decide +kernel
theorem dX2_deliverThroughRelay_35 : decode cX2_deliverThroughRelay 35 = .ok (.getfield 67, 3) := by decide +kernel
theorem dX2_deliverThroughRelay_38 : decode cX2_deliverThroughRelay 38 = .ok (.iload_n 1, 1) := by decide +kernel
theorem dX2_deliverThroughRelay_39 : decode cX2_deliverThroughRelay 39 = .ok (.aaload, 1) := by decide +kernel
theorem dX2_deliverThroughRelay_40 : decode cX2_deliverThroughRelay 40 = .ok (.astore_n 2, 1) := by decide +kernel
theorem dX2_deliverThroughRelay_41 : decode cX2_deliverThroughRelay 41 = .ok (.iconst 0, 1) := by decide +kernel
theorem dX2_deliverThroughRelay_42 : decode cX2_deliverThroughRelay 42 = .ok (.istore_n 3, 1) := by decide +kernel
theorem dX2_deliverThroughRelay_43 : decode cX2_deliverThroughRelay 43 = .ok (.iload_n 3, 1) := by decide +kernel
theorem dX2_deliverThroughRelay_44 : decode cX2_deliverThroughRelay 44 = .ok (.aload_n 0, 1) := by decide +kernel
theorem dX2_deliverThroughRelay_45 : decode cX2_deliverThroughRelay 45 = .ok (.getfield 9, 3) := by decide +kernel
theorem dX2_deliverThroughRelay_48 : decode cX2_deliverThroughRelay 48 = .ok (.getfield 64, 3) := by decide +kernel
theorem dX2_deliverThroughRelay_51 : decode cX2_deliverThroughRelay 51 = .ok (.if_icmp .ge 57, 3) := by decide +kernel
theorem dX2_deliverThroughRelay_54 : decode cX2_deliverThroughRelay 54 = .ok (.aload_n 0, 1) := by decide +kernel
theorem dX2_deliverThroughRelay_55 : decode cX2_deliverThroughRelay 55 = .ok (.getfield 9, 3) := by decide +kernel
theorem dX2_deliverThroughRelay_58 : decode cX2_deliverThroughRelay 58 = .ok (.getfield 67, 3) := by decide +kernel
theorem dX2_deliverThroughRelay_61 : decode cX2_deliverThroughRelay 61 = .ok (.iload_n 3, 1) := by decide +kernel
theorem dX2_deliverThroughRelay_62 : decode cX2_deliverThroughRelay 62 = .ok (.aaload, 1) := by decide +kernel
theorem dX2_deliverThroughRelay_63 : decode cX2_deliverThroughRelay 63 = .ok (.astore 4, 2) := by decide +kernel
theorem dX2_deliverThroughRelay_65 : decode cX2_deliverThroughRelay 65 = .ok (.iload_n 3, 1) := by decide +kernel
theorem dX2_deliverThroughRelay_66 : decode cX2_deliverThroughRelay 66 = .ok (.iload_n 1, 1) := by decide +kernel
theorem dX2_deliverThroughRelay_67 : decode cX2_deliverThroughRelay 67 = .ok (.if_icmp .eq 35, 3) := by decide +kernel
theorem dX2_deliverThroughRelay_70 : decode cX2_deliverThroughRelay 70 = .ok (.aload_n 0, 1) := by decide +kernel
theorem dX2_deliverThroughRelay_71 : decode cX2_deliverThroughRelay 71 = .ok (.iload_n 3, 1) := by decide +kernel
theorem dX2_deliverThroughRelay_72 : decode cX2_deliverThroughRelay 72 = .ok (.invokevirtual 131, 3) := by decide +kernel
theorem dX2_deliverThroughRelay_75 : decode cX2_deliverThroughRelay 75 = .ok (.ifCond .eq 27, 3) := by decide +kernel
theorem dX2_deliverThroughRelay_78 : decode cX2_deliverThroughRelay 78 = .ok (.aload_n 0, 1) := by decide +kernel
theorem dX2_deliverThroughRelay_79 : decode cX2_deliverThroughRelay 79 = .ok (.aload 4, 2) := by decide +kernel
theorem dX2_deliverThroughRelay_81 : decode cX2_deliverThroughRelay 81 = .ok (.aload_n 2, 1) := by decide +kernel
theorem dX2_deliverThroughRelay_82 : decode cX2_deliverThroughRelay 82 = .ok (.invokevirtual 147, 3) := by decide +kernel
theorem dX2_deliverThroughRelay_85 : decode cX2_deliverThroughRelay 85 = .ok (.ifCond .eq 17, 3) := by decide +kernel
theorem dX2_deliverThroughRelay_88 : decode cX2_deliverThroughRelay 88 = .ok (.aload_n 2, 1) := by decide +kernel
theorem dX2_deliverThroughRelay_89 : decode cX2_deliverThroughRelay 89 = .ok (.dup, 1) := by decide +kernel
theorem dX2_deliverThroughRelay_90 : decode cX2_deliverThroughRelay 90 = .ok (.getfield 151, 3) := by decide +kernel
theorem dX2_deliverThroughRelay_93 : decode cX2_deliverThroughRelay 93 = .ok (.aload 4, 2) := by decide +kernel
theorem dX2_deliverThroughRelay_95 : decode cX2_deliverThroughRelay 95 = .ok (.getfield 151, 3) := by decide +kernel
theorem dX2_deliverThroughRelay_98 : decode cX2_deliverThroughRelay 98 = .ok (.iadd, 1) := by decide +kernel
theorem dX2_deliverThroughRelay_99 : decode cX2_deliverThroughRelay 99 = .ok (.putfield 151, 3) := by decide +kernel
theorem dX2_deliverThroughRelay_102 : decode cX2_deliverThroughRelay 102 = .ok (.iinc 3 1, 3) := by decide +kernel
theorem dX2_deliverThroughRelay_105 : decode cX2_deliverThroughRelay 105 = .ok (.goto (-62), 3) := by decide +kernel
theorem dX2_deliverThroughRelay_108 : decode cX2_deliverThroughRelay 108 = .ok (.aload_n 2, 1) := by decide +kernel
theorem dX2_deliverThroughRelay_109 : decode cX2_deliverThroughRelay 109 = .ok (.getfield 84, 3) := by decide +kernel
theorem dX2_deliverThroughRelay_112 : decode cX2_deliverThroughRelay 112 = .ok (.ifCond .eq 12, 3) := by decide +kernel
theorem dX2_deliverThroughRelay_115 : decode cX2_deliverThroughRelay 115 = .ok (.aload_n 0, 1) := by decide +kernel
theorem dX2_deliverThroughRelay_116 : decode cX2_deliverThroughRelay 116 = .ok (.aload_n 2, 1) := by decide +kernel
theorem dX2_deliverThroughRelay_117 : decode cX2_deliverThroughRelay 117 = .ok (.aload_n 2, 1) := by decide +kernel
theorem dX2_deliverThroughRelay_118 : decode cX2_deliverThroughRelay 118 = .ok (.getfield 151, 3) := by decide +kernel
theorem dX2_deliverThroughRelay_121 : decode cX2_deliverThroughRelay 121 = .ok (.invokevirtual 160, 3) := by decide +kernel
theorem dX2_deliverThroughRelay_124 : decode cX2_deliverThroughRelay 124 = .ok (.return_, 1) := by decide +kernel
set_option maxRecDepth 20000 in
theorem ggX2_reportToBase_X2_sendToBase : GoodIn wsX2_reportToBase wsX2_sendToBase := goodIn_r _ [9, 1, 10, 11, 12, 13, 14, 15, 16, 17, 18, 19, 20, 21, 22, 23, 24, 25, 26, 27, 28, 8, 29, 30, 4, 31, 32, 33, 34, 35, 36, 37, 38, 39, 40, 41, 42, 43, 44, 45, 46, 47, 48, 49, 50, 51, 52, 53, 54, 55, 56] (by decide +kernel) (by decide +kernel)
set_option maxRecDepth 20000 in
theorem gX2_reportToBase_X2_sendToBase : GoodIn wsX2_reportToBase (wsV RX2 160 RX2 yX2_sendToBase wsX2_sendToBase) := goodIn_app (goodIn_of _ (by decide +kernel)) ggX2_reportToBase_X2_sendToBase
theorem dX2_reportToBase_0 : decode cX2_reportToBase 0 = .ok (.iconst 0, 1) := by decide +kernel
theorem dX2_reportToBase_1 : decode cX2_reportToBase 1 = .ok (.istore_n 1, 1) := by decide +kernel
theorem dX2_reportToBase_2 : decode cX2_reportToBase 2 = .ok (.iload_n 1, 1) := by decide +kernel
theorem dX2_reportToBase_3 : decode cX2_reportToBase 3 = .ok (.aload_n 0, 1) := by decide +kernel
theorem dX2_reportToBase_4 : decode cX2_reportToBase 4 = .ok (.getfield 9, 3) := by decide +kernel
theorem dX2_reportToBase_7 : decode cX2_reportToBase 7 = .ok (.getfield 64, 3) := by decide +kernel
theorem dX2_reportToBase_10 : decode cX2_reportToBase 10 = .ok (.if_icmp .ge 32, 3) := by decide +kernel
theorem dX2_reportToBase_13 : decode cX2_reportToBase 13 = .ok (.aload_n 0, 1) := by decide +kernel
theorem dX2_reportToBase_14 : decode cX2_reportToBase 14 = .ok (.getfield 9, 3) := by decide +kernel
theorem dX2_reportToBase_17 : decode cX2_reportToBase 17 = .ok (.getfield 67, 3) := by decide +kernel
theorem dX2_reportToBase_20 : decode cX2_reportToBase 20 = .ok (.iload_n 1, 1) := by decide +kernel
theorem dX2_reportToBase_21 : decode cX2_reportToBase 21 = .ok (.aaload, 1) := by decide +kernel
theorem dX2_reportToBase_22 : decode cX2_reportToBase 22 = .ok (.astore_n 2, 1) := by decide +kernel
theorem dX2_reportToBase_23 : decode cX2_reportToBase 23 = .ok (.aload_n 2, 1) := by decide +kernel
theorem dX2_reportToBase_24 : decode cX2_reportToBase 24 = .ok (.getfield 84, 3) := by decide +kernel
theorem dX2_reportToBase_27 : decode cX2_reportToBase 27 = .ok (.ifCond .eq 9, 3) := by decide +kernel
theorem dX2_reportToBase_30 : decode cX2_reportToBase 30 = .ok (.aload_n 0, 1) := by decide +kernel
theorem dX2_reportToBase_31 : decode cX2_reportToBase 31 = .ok (.aload_n 2, 1) := by decide +kernel
theorem dX2_reportToBase_32 : decode cX2_reportToBase 32 = .ok (.iconst 1, 1) := by decide +kernel
theorem dX2_reportToBase_33 : decode cX2_reportToBase 33 = .ok (.invokevirtual 160, 3) := by decide +kernel
theorem dX2_reportToBase_36 : decode cX2_reportToBase 36 = .ok (.iinc 1 1, 3) := by decide +kernel
theorem dX2_reportToBase_39 : decode cX2_reportToBase 39 = .ok (.goto (-37), 3) := by decide +kernel
theorem dX2_reportToBase_42 : decode cX2_reportToBase 42 = .ok (.return_, 1) := by decide +kernel
set_option maxRecDepth 20000 in
theorem ggX2_sendToBase_X3_distanceTo : GoodIn wsX2_sendToBase wsX3_distanceTo := goodIn_r _ [9, 10, 11, 40, 41, 42, 43, 44, 45, 46, 47, 48, 49, 50] (by decide +kernel) (by decide +kernel)
set_option maxRecDepth 20000 in
theorem gX2_sendToBase_X3_distanceTo : GoodIn wsX2_sendToBase (wsV RX2 134 RX3 yX3_distanceTo wsX3_distanceTo) := goodIn_app (goodIn_of _ (by decide +kernel)) ggX2_sendToBase_X3_distanceTo
set_option maxRecDepth 20000 in
theorem ggX2_sendToBase_X1_costOver : GoodIn wsX2_sendToBase wsX1_costOver := goodIn_r _ [16, 17, 29, 30, 31, 32, 33, 34, 35, 36, 37, 38, 39] (by decide +kernel) (by decide +kernel)
set_option maxRecDepth 20000 in
theorem gX2_sendToBase_X1_costOver : GoodIn wsX2_sendToBase (wsV RX2 173 RX1 yX1_costOver wsX1_costOver) := goodIn_app (goodIn_of _ (by decide +kernel)) ggX2_sendToBase_X1_costOver
set_option maxRecDepth 20000 in
theorem ggX2_sendToBase_X2_pays : GoodIn wsX2_sendToBase wsX2_pays := goodIn_r _ [22, 23, 24, 1, 25, 26, 27, 40, 41, 42, 43, 44, 45, 46, 47, 48, 49, 50, 28, 29, 30, 31, 32, 33, 34, 35, 36, 37, 38, 39] (by decide +kernel) (by decide +kernel)
set_option maxRecDepth 20000 in
theorem gX2_sendToBase_X2_pays : GoodIn wsX2_sendToBase (wsV RX2 103 RX2 yX2_pays wsX2_pays) := goodIn_app (goodIn_of _ (by decide +kernel)) ggX2_sendToBase_X2_pays
theorem dX2_sendToBase_0 : decode cX2_sendToBase 0 = .ok (.aload_n 0, 1) := by decide +kernel
theorem dX2_sendToBase_1 : decode cX2_sendToBase 1 = .ok (.aload_n 1, 1) := by decide +kernel
theorem dX2_sendToBase_2 : decode cX2_sendToBase 2 = .ok (.aload_n 0, 1) := by decide +kernel
theorem dX2_sendToBase_3 : decode cX2_sendToBase 3 = .ok (.getfield 9, 3) := by decide +kernel
theorem dX2_sendToBase_6 : decode cX2_sendToBase 6 = .ok (.aload_n 1, 1) := by decide +kernel
theorem dX2_sendToBase_7 : decode cX2_sendToBase 7 = .ok (.aload_n 0, 1) := by decide +kernel
theorem dX2_sendToBase_8 : decode cX2_sendToBase 8 = .ok (.getfield 9, 3) := by decide +kernel
theorem dX2_sendToBase_11 : decode cX2_sendToBase 11 = .ok (.getfield 164, 3) := by decide +kernel
theorem dX2_sendToBase_14 : decode cX2_sendToBase 14 = .ok (.aload_n 0, 1) := by decide +kernel
theorem dX2_sendToBase_15 : decode cX2_sendToBase 15 = .ok (.getfield 9, 3) := by decide +kernel
theorem dX2_sendToBase_18 : decode cX2_sendToBase 18 = .ok (.getfield 167, 3) := by decide +kernel
theorem dX2_sendToBase_21 : decode cX2_sendToBase 21 = .ok (.invokevirtual 134, 3) := by decide +kernel
theorem dX2_sendToBase_24 : decode cX2_sendToBase 24 = .ok (.invokevirtual 173, 3) := by decide +kernel
theorem dX2_sendToBase_27 : decode cX2_sendToBase 27 = .ok (.invokevirtual 103, 3) := by decide +kernel
theorem dX2_sendToBase_30 : decode cX2_sendToBase 30 = .ok (.ifCond .eq 16, 3) := by decide +kernel
theorem dX2_sendToBase_33 : decode cX2_sendToBase 33 = .ok (.aload_n 0, 1) := by decide +kernel
theorem dX2_sendToBase_34 : decode cX2_sendToBase 34 = .ok (.getfield 9, 3) := by decide +kernel
theorem dX2_sendToBase_37 : decode cX2_sendToBase 37 = .ok (.dup, 1) := by decide +kernel
theorem dX2_sendToBase_38 : decode cX2_sendToBase 38 = .ok (.getfield 55, 3) := by decide +kernel
theorem dX2_sendToBase_41 : decode cX2_sendToBase 41 = .ok (.iload_n 2, 1) := by decide +kernel
theorem dX2_sendToBase_42 : decode cX2_sendToBase 42 = .ok (.iadd, 1) := by decide +kernel
theorem dX2_sendToBase_43 : decode cX2_sendToBase 43 = .ok (.putfield 55, 3) := by decide +kernel
theorem dX2_sendToBase_46 : decode cX2_sendToBase 46 = .ok (.return_, 1) := by decide +kernel
set_option maxRecDepth 20000 in
theorem ggX2_sends_X3_distanceTo : GoodIn wsX2_sends wsX3_distanceTo := goodIn_r _ [10, 11, 12, 29, 30, 31, 32, 33, 34, 35, 36, 37, 38, 39] (by decide +kernel) (by decide +kernel)
set_option maxRecDepth 20000 in
theorem gX2_sends_X3_distanceTo : GoodIn wsX2_sends (wsV RX2 134 RX3 yX3_distanceTo wsX3_distanceTo) := goodIn_app (goodIn_of _ (by decide +kernel)) ggX2_sends_X3_distanceTo
set_option maxRecDepth 20000 in
theorem ggX2_sends_X1_costOver : GoodIn wsX2_sends wsX1_costOver := goodIn_r _ [17, 18, 40, 41, 42, 43, 44, 45, 46, 47, 48, 49, 50] (by decide +kernel) (by decide +kernel)
set_option maxRecDepth 20000 in
theorem gX2_sends_X1_costOver : GoodIn wsX2_sends (wsV RX2 173 RX1 yX1_costOver wsX1_costOver) := goodIn_app (goodIn_of _ (by decide +kernel)) ggX2_sends_X1_costOver
set_option maxRecDepth 20000 in
theorem ggX2_sends_X2_pays : GoodIn wsX2_sends wsX2_pays := goodIn_r _ [23, 24, 4, 1, 25, 26, 27, 29, 30, 31, 32, 33, 34, 35, 36, 37, 38, 39, 28, 40, 41, 42, 43, 44, 45, 46, 47, 48, 49, 50] (by decide +kernel) (by decide +kernel)
set_option maxRecDepth 20000 in
theorem gX2_sends_X2_pays : GoodIn wsX2_sends (wsV RX2 103 RX2 yX2_pays wsX2_pays) := goodIn_app (goodIn_of _ (by decide +kernel)) ggX2_sends_X2_pays
theorem dX2_sends_0 : decode cX2_sends 0 = .ok (.aload_n 0, 1) := by decide +kernel
theorem dX2_sends_1 : decode cX2_sends 1 = .ok (.aload_n 1, 1) := by decide +kernel
theorem dX2_sends_2 : decode cX2_sends 2 = .ok (.aload_n 0, 1) := by decide +kernel
theorem dX2_sends_3 : decode cX2_sends 3 = .ok (.getfield 9, 3) := by decide +kernel
theorem dX2_sends_6 : decode cX2_sends 6 = .ok (.aload_n 1, 1) := by decide +kernel
theorem dX2_sends_7 : decode cX2_sends 7 = .ok (.aload_n 2, 1) := by decide +kernel
theorem dX2_sends_8 : decode cX2_sends 8 = .ok (.getfield 113, 3) := by decide +kernel
theorem dX2_sends_11 : decode cX2_sends 11 = .ok (.aload_n 2, 1) := by decide +kernel
theorem dX2_sends_12 : decode cX2_sends 12 = .ok (.getfield 116, 3) := by decide +kernel
theorem dX2_sends_15 : decode cX2_sends 15 = .ok (.invokevirtual 134, 3) := by decide +kernel
theorem dX2_sends_18 : decode cX2_sends 18 = .ok (.invokevirtual 173, 3) := by decide +kernel
theorem dX2_sends_21 : decode cX2_sends 21 = .ok (.invokevirtual 103, 3) := by decide +kernel
theorem dX2_sends_24 : decode cX2_sends 24 = .ok (.ifCond .eq 48, 3) := by decide +kernel
theorem dX2_sends_27 : decode cX2_sends 27 = .ok (.aload_n 2, 1) := by decide +kernel
theorem dX2_sends_28 : decode cX2_sends 28 = .ok (.getfield 84, 3) := by decide +kernel
theorem dX2_sends_31 : decode cX2_sends 31 = .ok (.ifCond .eq 41, 3) := by decide +kernel
theorem dX2_sends_34 : decode cX2_sends 34 = .ok (.aload_n 0, 1) := by decide +kernel
theorem dX2_sends_35 : decode cX2_sends 35 = .ok (.aload_n 2, 1) := by decide +kernel
theorem dX2_sends_36 : decode cX2_sends 36 = .ok (.aload_n 0, 1) := by decide +kernel
theorem dX2_sends_37 : decode cX2_sends 37 = .ok (.getfield 9, 3) := by decide +kernel
theorem dX2_sends_40 : decode cX2_sends 40 = .ok (.getfield 80, 3) := by decide +kernel
theorem dX2_sends_43 : decode cX2_sends 43 = .ok (.iconst 1, 1) := by decide +kernel
theorem dX2_sends_44 : decode cX2_sends 44 = .ok (.iaload, 1) := by decide +kernel
theorem dX2_sends_45 : decode cX2_sends 45 = .ok (.invokevirtual 103, 3) := by decide +kernel
theorem dX2_sends_48 : decode cX2_sends 48 = .ok (.ifCond .eq 24, 3) := by decide +kernel
theorem dX2_sends_51 : decode cX2_sends 51 = .ok (.aload_n 0, 1) := by decide +kernel
theorem dX2_sends_52 : decode cX2_sends 52 = .ok (.aload_n 2, 1) := by decide +kernel
theorem dX2_sends_53 : decode cX2_sends 53 = .ok (.aload_n 0, 1) := by decide +kernel
theorem dX2_sends_54 : decode cX2_sends 54 = .ok (.getfield 9, 3) := by decide +kernel
theorem dX2_sends_57 : decode cX2_sends 57 = .ok (.getfield 80, 3) := by decide +kernel
theorem dX2_sends_60 : decode cX2_sends 60 = .ok (.iconst 3, 1) := by decide +kernel
theorem dX2_sends_61 : decode cX2_sends 61 = .ok (.iaload, 1) := by decide +kernel
theorem dX2_sends_62 : decode cX2_sends 62 = .ok (.invokevirtual 103, 3) := by decide +kernel
theorem dX2_sends_65 : decode cX2_sends 65 = .ok (.ifCond .eq 7, 3) := by decide +kernel
theorem dX2_sends_68 : decode cX2_sends 68 = .ok (.iconst 1, 1) := by decide +kernel
theorem dX2_sends_69 : decode cX2_sends 69 = .ok (.goto 4, 3) := by decide +kernel
theorem dX2_sends_72 : decode cX2_sends 72 = .ok (.iconst 0, 1) := by decide +kernel
theorem dX2_sends_73 : decode cX2_sends 73 = .ok (.ireturn, 1) := by decide +kernel
theorem dX2_pays_0 : decode cX2_pays 0 = .ok (.aload_n 1, 1) := by decide +kernel
theorem dX2_pays_1 : decode cX2_pays 1 = .ok (.getfield 177, 3) := by decide +kernel
theorem dX2_pays_4 : decode cX2_pays 4 = .ok (.iload_n 2, 1) := by decide +kernel
theorem dX2_pays_5 : decode cX2_pays 5 = .ok (.if_icmp .ge 21, 3) := by decide +kernel
theorem dX2_pays_8 : decode cX2_pays 8 = .ok (.aload_n 1, 1) := by decide +kernel
theorem dX2_pays_9 : decode cX2_pays 9 = .ok (.iconst 0, 1) := by decide +kernel
theorem dX2_pays_10 : decode cX2_pays 10 = .ok (.putfield 84, 3) := by decide +kernel
theorem dX2_pays_13 : decode cX2_pays 13 = .ok (.aload_n 1, 1) := by decide +kernel
theorem dX2_pays_14 : decode cX2_pays 14 = .ok (.aload_n 0, 1) := by decide +kernel
theorem dX2_pays_15 : decode cX2_pays 15 = .ok (.getfield 9, 3) := by decide +kernel
theorem dX2_pays_18 : decode cX2_pays 18 = .ok (.getfield 58, 3) := by decide +kernel
theorem dX2_pays_21 : decode cX2_pays 21 = .ok (.putfield 180, 3) := by decide +kernel
theorem dX2_pays_24 : decode cX2_pays 24 = .ok (.iconst 0, 1) := by decide +kernel
theorem dX2_pays_25 : decode cX2_pays 25 = .ok (.ireturn, 1) := by decide +kernel
theorem dX2_pays_26 : decode cX2_pays 26 = .ok (.aload_n 1, 1) := by decide +kernel
theorem dX2_pays_27 : decode cX2_pays 27 = .ok (.dup, 1) := by decide +kernel
theorem dX2_pays_28 : decode cX2_pays 28 = .ok (.getfield 177, 3) := by decide +kernel
theorem dX2_pays_31 : decode cX2_pays 31 = .ok (.iload_n 2, 1) := by decide +kernel
theorem dX2_pays_32 : decode cX2_pays 32 = .ok (.isub, 1) := by decide +kernel
theorem dX2_pays_33 : decode cX2_pays 33 = .ok (.putfield 177, 3) := by decide +kernel
theorem dX2_pays_36 : decode cX2_pays 36 = .ok (.aload_n 0, 1) := by decide +kernel
theorem dX2_pays_37 : decode cX2_pays 37 = .ok (.getfield 9, 3) := by decide +kernel
theorem dX2_pays_40 : decode cX2_pays 40 = .ok (.dup, 1) := by decide +kernel
theorem dX2_pays_41 : decode cX2_pays 41 = .ok (.getfield 183, 3) := by decide +kernel
theorem dX2_pays_44 : decode cX2_pays 44 = .ok (.iload_n 2, 1) := by decide +kernel
theorem dX2_pays_45 : decode cX2_pays 45 = .ok (.iadd, 1) := by decide +kernel
theorem dX2_pays_46 : decode cX2_pays 46 = .ok (.putfield 183, 3) := by decide +kernel
theorem dX2_pays_49 : decode cX2_pays 49 = .ok (.iconst 1, 1) := by decide +kernel
theorem dX2_pays_50 : decode cX2_pays 50 = .ok (.ireturn, 1) := by decide +kernel
theorem dX3_init_0 : decode cX3_init 0 = .ok (.aload_n 0, 1) := by decide +kernel
theorem dX3_init_1 : decode cX3_init 1 = .ok (.invokespecial 3, 3) := by decide +kernel
theorem dX3_init_4 : decode cX3_init 4 = .ok (.return_, 1) := by decide +kernel
set_option maxRecDepth 20000 in
theorem ggX3_place_X3_beginRound : GoodIn wsX3_place wsX3_beginRound := goodIn_r _ [12, 13, 14, 15, 16, 17, 18, 19, 20, 21, 22, 23, 24, 25, 26, 27] (by decide +kernel) (by decide +kernel)
set_option maxRecDepth 20000 in
theorem gX3_place_X3_beginRound : GoodIn wsX3_place (wsV RX3 34 RX3 yX3_beginRound wsX3_beginRound) := goodIn_app (goodIn_of _ (by decide +kernel)) ggX3_place_X3_beginRound
theorem dX3_place_0 : decode cX3_place 0 = .ok (.aload_n 0, 1) := by decide +kernel
theorem dX3_place_1 : decode cX3_place 1 = .ok (.iload_n 1, 1) := by decide +kernel
theorem dX3_place_2 : decode cX3_place 2 = .ok (.putfield 9, 3) := by decide +kernel
theorem dX3_place_5 : decode cX3_place 5 = .ok (.aload_n 0, 1) := by decide +kernel
theorem dX3_place_6 : decode cX3_place 6 = .ok (.iload_n 2, 1) := by decide +kernel
theorem dX3_place_7 : decode cX3_place 7 = .ok (.putfield 15, 3) := by decide +kernel
theorem dX3_place_10 : decode cX3_place 10 = .ok (.aload_n 0, 1) := by decide +kernel
theorem dX3_place_11 : decode cX3_place 11 = .ok (.iload_n 3, 1) := by decide +kernel
theorem dX3_place_12 : decode cX3_place 12 = .ok (.putfield 18, 3) := by decide +kernel
theorem dX3_place_15 : decode cX3_place 15 = .ok (.aload_n 0, 1) := by decide +kernel
theorem dX3_place_16 : decode cX3_place 16 = .ok (.iconst 1, 1) := by decide +kernel
theorem dX3_place_17 : decode cX3_place 17 = .ok (.putfield 21, 3) := by decide +kernel
theorem dX3_place_20 : decode cX3_place 20 = .ok (.aload_n 0, 1) := by decide +kernel
theorem dX3_place_21 : decode cX3_place 21 = .ok (.iconst 1, 1) := by decide +kernel
theorem dX3_place_22 : decode cX3_place 22 = .ok (.putfield 25, 3) := by decide +kernel
theorem dX3_place_25 : decode cX3_place 25 = .ok (.aload_n 0, 1) := by decide +kernel
theorem dX3_place_26 : decode cX3_place 26 = .ok (.iconst 0, 1) := by decide +kernel
theorem dX3_place_27 : decode cX3_place 27 = .ok (.putfield 28, 3) := by decide +kernel
theorem dX3_place_30 : decode cX3_place 30 = .ok (.aload_n 0, 1) := by decide +kernel
theorem dX3_place_31 : decode cX3_place 31 = .ok (.bipush (-9), 2) := by decide +kernel
theorem dX3_place_33 : decode cX3_place 33 = .ok (.putfield 31, 3) := by decide +kernel
theorem dX3_place_36 : decode cX3_place 36 = .ok (.aload_n 0, 1) := by decide +kernel
theorem dX3_place_37 : decode cX3_place 37 = .ok (.invokevirtual 34, 3) := by decide +kernel
theorem dX3_place_40 : decode cX3_place 40 = .ok (.return_, 1) := by decide +kernel
theorem dX3_beginRound_0 : decode cX3_beginRound 0 = .ok (.aload_n 0, 1) := by decide +kernel
theorem dX3_beginRound_1 : decode cX3_beginRound 1 = .ok (.bipush (-9), 2) := by decide +kernel
theorem dX3_beginRound_3 : decode cX3_beginRound 3 = .ok (.putfield 37, 3) := by decide +kernel
theorem dX3_beginRound_6 : decode cX3_beginRound 6 = .ok (.aload_n 0, 1) := by decide +kernel
theorem dX3_beginRound_7 : decode cX3_beginRound 7 = .ok (.bipush (-9), 2) := by decide +kernel
theorem dX3_beginRound_9 : decode cX3_beginRound 9 = .ok (.putfield 40, 3) := by decide +kernel
theorem dX3_beginRound_12 : decode cX3_beginRound 12 = .ok (.aload_n 0, 1) := by decide +kernel
theorem dX3_beginRound_13 : decode cX3_beginRound 13 = .ok (.iconst 0, 1) := by decide +kernel
theorem dX3_beginRound_14 : decode cX3_beginRound 14 = .ok (.putfield 43, 3) := by decide +kernel
theorem dX3_beginRound_17 : decode cX3_beginRound 17 = .ok (.aload_n 0, 1) := by decide +kernel
theorem dX3_beginRound_18 : decode cX3_beginRound 18 = .ok (.iconst 0, 1) := by decide +kernel
theorem dX3_beginRound_19 : decode cX3_beginRound 19 = .ok (.putfield 46, 3) := by decide +kernel
theorem dX3_beginRound_22 : decode cX3_beginRound 22 = .ok (.return_, 1) := by decide +kernel
theorem dX3_copyFrom_0 : decode cX3_copyFrom 0 = .ok (.aload_n 0, 1) := by decide +kernel
theorem dX3_copyFrom_1 : decode cX3_copyFrom 1 = .ok (.aload_n 1, 1) := by decide +kernel
theorem dX3_copyFrom_2 : decode cX3_copyFrom 2 = .ok (.getfield 9, 3) := by decide +kernel
theorem dX3_copyFrom_5 : decode cX3_copyFrom 5 = .ok (.putfield 9, 3) := by decide +kernel
theorem dX3_copyFrom_8 : decode cX3_copyFrom 8 = .ok (.aload_n 0, 1) := by decide +kernel
theorem dX3_copyFrom_9 : decode cX3_copyFrom 9 = .ok (.aload_n 1, 1) := by decide +kernel
theorem dX3_copyFrom_10 : decode cX3_copyFrom 10 = .ok (.getfield 15, 3) := by decide +kernel
theorem dX3_copyFrom_13 : decode cX3_copyFrom 13 = .ok (.putfield 15, 3) := by decide +kernel
theorem dX3_copyFrom_16 : decode cX3_copyFrom 16 = .ok (.aload_n 0, 1) := by decide +kernel
theorem dX3_copyFrom_17 : decode cX3_copyFrom 17 = .ok (.aload_n 1, 1) := by decide +kernel
theorem dX3_copyFrom_18 : decode cX3_copyFrom 18 = .ok (.getfield 18, 3) := by decide +kernel
theorem dX3_copyFrom_21 : decode cX3_copyFrom 21 = .ok (.putfield 18, 3) := by decide +kernel
theorem dX3_copyFrom_24 : decode cX3_copyFrom 24 = .ok (.aload_n 0, 1) := by decide +kernel
theorem dX3_copyFrom_25 : decode cX3_copyFrom 25 = .ok (.aload_n 1, 1) := by decide +kernel
theorem dX3_copyFrom_26 : decode cX3_copyFrom 26 = .ok (.getfield 21, 3) := by decide +kernel
theorem dX3_copyFrom_29 : decode cX3_copyFrom 29 = .ok (.putfield 21, 3) := by decide +kernel
theorem dX3_copyFrom_32 : decode cX3_copyFrom 32 = .ok (.aload_n 0, 1) := by decide +kernel
theorem dX3_copyFrom_33 : decode cX3_copyFrom 33 = .ok (.aload_n 1, 1) := by decide +kernel
theorem dX3_copyFrom_34 : decode cX3_copyFrom 34 = .ok (.getfield 25, 3) := by decide +kernel
theorem dX3_copyFrom_37 : decode cX3_copyFrom 37 = .ok (.putfield 25, 3) := by decide +kernel
theorem dX3_copyFrom_40 : decode cX3_copyFrom 40 = .ok (.aload_n 0, 1) := by decide +kernel
theorem dX3_copyFrom_41 : decode cX3_copyFrom 41 = .ok (.aload_n 1, 1) := by decide +kernel
theorem dX3_copyFrom_42 : decode cX3_copyFrom 42 = .ok (.getfield 28, 3) := by decide +kernel
theorem dX3_copyFrom_45 : decode cX3_copyFrom 45 = .ok (.putfield 28, 3) := by decide +kernel
theorem dX3_copyFrom_48 : decode cX3_copyFrom 48 = .ok (.aload_n 0, 1) := by decide +kernel
theorem dX3_copyFrom_49 : decode cX3_copyFrom 49 = .ok (.aload_n 1, 1) := by decide +kernel
theorem dX3_copyFrom_50 : decode cX3_copyFrom 50 = .ok (.getfield 31, 3) := by decide +kernel
theorem dX3_copyFrom_53 : decode cX3_copyFrom 53 = .ok (.putfield 31, 3) := by decide +kernel
theorem dX3_copyFrom_56 : decode cX3_copyFrom 56 = .ok (.aload_n 0, 1) := by decide +kernel
theorem dX3_copyFrom_57 : decode cX3_copyFrom 57 = .ok (.aload_n 1, 1) := by decide +kernel
theorem dX3_copyFrom_58 : decode cX3_copyFrom 58 = .ok (.getfield 37, 3) := by decide +kernel
theorem dX3_copyFrom_61 : decode cX3_copyFrom 61 = .ok (.putfield 37, 3) := by decide +kernel
theorem dX3_copyFrom_64 : decode cX3_copyFrom 64 = .ok (.aload_n 0, 1) := by decide +kernel
theorem dX3_copyFrom_65 : decode cX3_copyFrom 65 = .ok (.aload_n 1, 1) := by decide +kernel
theorem dX3_copyFrom_66 : decode cX3_copyFrom 66 = .ok (.getfield 40, 3) := by decide +kernel
theorem dX3_copyFrom_69 : decode cX3_copyFrom 69 = .ok (.putfield 40, 3) := by decide +kernel
theorem dX3_copyFrom_72 : decode cX3_copyFrom 72 = .ok (.return_, 1) := by decide +kernel
theorem dX3_distanceTo_0 : decode cX3_distanceTo 0 = .ok (.aload_n 0, 1) := by decide +kernel
theorem dX3_distanceTo_1 : decode cX3_distanceTo 1 = .ok (.getfield 9, 3) := by decide +kernel
theorem dX3_distanceTo_4 : decode cX3_distanceTo 4 = .ok (.iload_n 1, 1) := by decide +kernel
theorem dX3_distanceTo_5 : decode cX3_distanceTo 5 = .ok (.isub, 1) := by decide +kernel
theorem dX3_distanceTo_6 : decode cX3_distanceTo 6 = .ok (.istore_n 3, 1) := by decide +kernel
theorem dX3_distanceTo_7 : decode cX3_distanceTo 7 = .ok (.aload_n 0, 1) := by decide +kernel
theorem dX3_distanceTo_8 : decode cX3_distanceTo 8 = .ok (.getfield 15, 3) := by decide +kernel
theorem dX3_distanceTo_11 : decode cX3_distanceTo 11 = .ok (.iload_n 2, 1) := by decide +kernel
theorem dX3_distanceTo_12 : decode cX3_distanceTo 12 = .ok (.isub, 1) := by decide +kernel
theorem dX3_distanceTo_13 : decode cX3_distanceTo 13 = .ok (.istore 4, 2) := by decide +kernel
theorem dX3_distanceTo_15 : decode cX3_distanceTo 15 = .ok (.iload_n 3, 1) := by decide +kernel
theorem dX3_distanceTo_16 : decode cX3_distanceTo 16 = .ok (.iload_n 3, 1) := by decide +kernel
theorem dX3_distanceTo_17 : decode cX3_distanceTo 17 = .ok (.imul, 1) := by decide +kernel
theorem dX3_distanceTo_18 : decode cX3_distanceTo 18 = .ok (.iload 4, 2) := by decide +kernel
theorem dX3_distanceTo_20 : decode cX3_distanceTo 20 = .ok (.iload 4, 2) := by decide +kernel
theorem dX3_distanceTo_22 : decode cX3_distanceTo 22 = .ok (.imul, 1) := by decide +kernel
theorem dX3_distanceTo_23 : decode cX3_distanceTo 23 = .ok (.iadd, 1) := by decide +kernel
theorem dX3_distanceTo_24 : decode cX3_distanceTo 24 = .ok (.ireturn, 1) := by decide +kernel
end
section
/-! ===== contracts over heap predicates; one wrapper for a method's entry, for calls and for returns ===== -/
def zBi (P : Prop) [Decidable P] : Int32 := if P then 1 else 0
theorem zBi_t {P : Prop} [Decidable P] (h : P) : zBi P = 1 := if_pos h
theorem zBi_f {P : Prop} [Decidable P] (h : ¬ P) : zBi P = 0 := if_neg h
theorem zBi_0 {P : Prop} [Decidable P] : zBi P = 0 ↔ ¬ P := by
  unfold zBi
  split
  · rename_i h
    exact ⟨fun q => absurd q (by decide), fun q => absurd h q⟩
  · rename_i h
    exact ⟨fun _ => h, fun _ => rfl⟩
theorem zBi_n0 {P : Prop} [Decidable P] : ¬ zBi P = 0 ↔ P := by
  rw [zBi_0]
  exact Decidable.not_not
theorem zBi_1 {P : Prop} [Decidable P] : zBi P = 1 ↔ P := by
  unfold zBi
  split
  · rename_i h
    exact ⟨fun _ => h, fun _ => rfl⟩
  · rename_i h
    exact ⟨fun q => absurd q (by decide), fun q => absurd q h⟩
theorem zBi_n1 {P : Prop} [Decidable P] : ¬ zBi P = 1 ↔ ¬ P := not_congr zBi_1
theorem zBi_bi {P : Prop} [Decidable P] : zBi (zBi P = 1) = zBi P := by
  unfold zBi
  split <;> simp
theorem zBi_fit {P : Prop} [Decidable P] : fits .boolean (.int (zBi P)) = true := by
  unfold zBi
  split <;> decide
theorem zBi_nar {P : Prop} [Decidable P] : narrow .boolean (.int (zBi P)) = .int (zBi P) := by
  unfold zBi
  split <;> decide
theorem zBi_vnar {P : Prop} [Decidable P] : vp_nar .boolean (zBi P) = zBi P := by
  unfold zBi
  split <;> decide
theorem zBi_iff {P R : Prop} [Decidable P] [Decidable R] (h : P ↔ R) : zBi P = zBi R := by
  unfold zBi
  simp only [h]
/-- the ids of the tables: objects' classes and slots; Sensor[], int[], Network[], boolean[] -/
abbrev zG : Type := va_G × ClassId × ClassId × ClassId × ClassId
def zTys (G : zG) : List (ClassId × FieldType) := [(G.2.1, .object RX3), (G.2.2.1, .int), (G.2.2.2.1, .object RX1), (G.2.2.2.2, .boolean)]
abbrev zK (G : zG) (s : State) : Prop := va_K G.1 vwCl (zTys G) s
def zB (G : zG) (P : Heap → Prop) (U : State) : Prop := P U.heap ∧ zK G U
abbrev zPre (G : zG) (av : List Value) (P : Heap → Prop) : Array Value → State → Prop := va_Pc av (zB G P)
abbrev zQi (G : zG) (r : Int32) (P : Heap → Prop) (A : Nat → Prop) : Array Value → State → Outcome → State → Prop := va_Qi (fun (v : Int32) (_ : Unit) => v = r) (fun _ => zB G P) A
abbrev zQv (G : zG) (P : Heap → Prop) (A : Nat → Prop) : Array Value → State → Outcome → State → Prop := va_Qv (fun (_ : Unit) => True) (fun _ => zB G P) A
/-- a method that answers r and takes the heap's P to P2, writing cells of A alone, making none -/
abbrev zMi (l : Launch) (G : zG) (A : Nat → Prop) (y : MethodName) (ws : List Cond) (fr lo : Nat) (av : List Value) (P : Heap → Prop) (r : Int32) (P2 : Heap → Prop) : Prop := Met l y ws ({ frames := fr, cells := 0, slots := 0, locals := lo } : Room) (zPre G av P) (zQi G r P2 A) 0 0 A
abbrev zMv (l : Launch) (G : zG) (A : Nat → Prop) (y : MethodName) (ws : List Cond) (fr lo : Nat) (av : List Value) (P P2 : Heap → Prop) : Prop := Met l y ws ({ frames := fr, cells := 0, slots := 0, locals := lo } : Room) (zPre G av P) (zQv G P2 A) 0 0 A
theorem z_blind {G : zG} {av : List Value} {P : Heap → Prop} : FrameBlind (zPre G av P) := fun a U g mk q => ⟨q.1, q.2.1, va_K.moved (u := U) (U := U.calling g mk a) (Vm.Alike.refl U.vm) q.2.2⟩
set_option maxHeartbeats 4000000 in
theorem z_met {l : Launch} {y : MethodName} {ws ws' : List Cond} {rm : Room} {G : zG} {A : Nat → Prop} {av : List Value} {P : Heap → Prop} {Qc : Array Value → State → Outcome → State → Prop} {cc : ByteArray} {maxL mc ms : Nat} {ret : Option FieldType} (hy : plainName y.cls = true) (hw : ws = Cond.code y cc maxL ret :: ws') (hsl : (lg_sl av).length ≤ maxL)
    (body : ∀ (p : Program) (e : Env) (s : State) (m : MethodId) (below : List Frame) (meth : Method) (c : Code) (ls : Array Slot), CallFix p m c cc maxL s av.toArray ws y.cls → meth.sig.returnType = ret → meth.locks = false → meth.name = y.name → P s.heap → zK G s → lv_has ls maxL (lv_args 0 av) →
      W p l e rm s m av.toArray below meth c s.heap [] 0 0 (MQ below Qc av.toArray s mc ms A) (F0 m 0 ls [])) : Met l y ws rm (zPre G av P) Qc mc ms A := by
  refine Met.ofW (cc := cc) (maxL := maxL) (ret := ret) hy hw ?_
  intro p e s m args below meth c s₁ B hml hv
  obtain ⟨rfl, hP, hK⟩ := hv
  have hts := atoms_spec (ws := ws) B.pre
  have hl := lv_entry av (n := maxL) hsl
  rw [lg_entry_eq]
  generalize (lg_sl av ++ List.replicate (maxL - (lg_sl av).length) Slot.unset).toArray = ls at hl ⊢
  exact body p e s m below meth c ls ⟨B.exec, B.bytes, hml, findClass_of_methodNamed B.named, hts⟩ B.returns B.notSynchronized (name_of_methodNamed B.named B.method).1 hP hK hl
section ZBASE
variable {p : Program} {l : Launch} {e : Env} {R : Room} {s : State} {m : MethodId} {args : Array Value} {below : List Frame} {meth : Method} {c : Code} {H : Heap} {locs : List Loc} {cells slots : Nat} {Q : State → Prop}
variable {cc : ByteArray} {pc : Nat} {ls : Array Slot} {st0 rest : List Value} {G : zG} {A A0 : Nat → Prop} {H0 : Heap} {P P2 : Heap → Prop} {nL : Nat} {Ts ws : List Cond} {own C : String} {y : MethodName} {bytes : ByteArray} {maxL index n : Nat} {ret : Option FieldType} {fr lo : Nat} {b : Nat} {As : List Value} {r : Int32}
/-- returns -/
theorem z_iret (hx : p.tables.exec = Jvm.exec) (hb : c.code = cc) (hr : meth.sig.returnType = some .int) (hlk : meth.locks = false) (hK : zK G s) (hS : va_S A s.heap H locs) (hP : P2 H) (hdg : decode cc pc = .ok (.ireturn, 1)) :
    W p l e R s m args below meth c H locs cells slots (MQ below (zQi G r P2 A) args s cells slots A) (F0 m pc ls [.int r]) :=
  W.iret hx hb hr (fun t ht hW => ⟨⟨r, (), rfl, rfl, by rw [ht]; exact hP, va_K.moved hW.alike hK⟩, hS.F ht⟩) hS.2.2 hdg hlk
theorem z_zret (hx : p.tables.exec = Jvm.exec) (hb : c.code = cc) (hr : meth.sig.returnType = some .boolean) (hlk : meth.locks = false) (hn : narrow .boolean (.int r) = .int r) (hK : zK G s) (hS : va_S A s.heap H locs) (hP : P2 H) (hdg : decode cc pc = .ok (.ireturn, 1)) :
    W p l e R s m args below meth c H locs cells slots (MQ below (zQi G r P2 A) args s cells slots A) (F0 m pc ls [.int r]) :=
  W.zret hx hb hr hn (fun t ht hW => ⟨⟨r, (), rfl, rfl, by rw [ht]; exact hP, va_K.moved hW.alike hK⟩, hS.F ht⟩) hS.2.2 hdg hlk
theorem z_vret (hx : p.tables.exec = Jvm.exec) (hb : c.code = cc) (hr : meth.sig.returnType = none) (hlk : meth.locks = false) (hK : zK G s) (hS : va_S A s.heap H locs) (hP : P2 H) (hdg : decode cc pc = .ok (.return_, 1)) :
    W p l e R s m args below meth c H locs cells slots (MQ below (zQv G P2 A) args s cells slots A) (F0 m pc ls []) :=
  W.vret hx hb hr (fun t ht hW => ⟨⟨(), rfl, trivial, by rw [ht]; exact hP, va_K.moved hW.alike hK⟩, hS.F ht⟩) hS.2.2 hdg hlk
/-- the top of the stack is another name of the same int -/
theorem z_top {x x2 : Int32} (h : x = x2) (k : W p l e R s m args below meth c H locs cells slots Q (F0 m pc ls (.int x2 :: rest))) : W p l e R s m args below meth c H locs cells slots Q (F0 m pc ls (.int x :: rest)) := by
  subst h
  exact k
/-- a call of an instance method that answers an int (or a boolean) -/
theorem z_vi (S : CallFix p m c cc nL s args Ts own) (hM : zMi l G A y ws fr lo (.ref b :: As) P r P2) (cw : CallW R s args own C index y bytes maxL ret ws ({ frames := fr, cells := 0, slots := 0, locals := lo } : Room) 0 0 n)
    (hrec : ∃ cell : Cell, H[b]? = some cell ∧ cell.vm.isStatics = false ∧ s.vm.findClass C = some cell.cls) (hP : P H) (hK : zK G s) (hS : va_S A0 H0 H locs) (hA : ∀ q, q < H.size → A q → A0 q) (hA2 : ∀ q, A q → A0 q) (hsz : ls.size = nL) (hn : As.length = n) (hst : st0 = As.reverse ++ .ref b :: rest) (hrm : (rest.map fun v => v.category).sum ≤ 8) (hdg : decode cc pc = .ok (.invokevirtual index, 3)) (hf : cells ≤ R.cells ∧ slots ≤ R.slots)
    (kk : ∀ (H1 : Heap) (locs1 : List Loc), P2 H1 → va_S A0 H0 H1 locs1 → (H.size ≤ H1.size ∧ ∀ q : Nat, q < H.size → ¬ A q → H1[q]? = H[q]?) → W p l e R s m args below meth c H1 locs1 cells slots Q (F0 m (pc + 3) ls (.int r :: rest))) : W p l e R s m args below meth c H locs cells slots Q (F0 m pc ls st0) := by
  refine va_calli (va_runV S hM cw ⟨z_blind, hrec, fun U hU hW => ⟨rfl, by rw [hU]; exact hP, va_K.moved hW.alike hK⟩⟩ rfl hn hsz hst (lv_room hrm) hdg hf) hS hA hA2 (fun r1 u t H1 locs1 ht hvm hw hB hz hk hS1 => ?_)
  cases hw
  exact kk H1 locs1 (ht ▸ hB.1) hS1 ⟨hz, hk⟩
theorem z_vv (S : CallFix p m c cc nL s args Ts own) (hM : zMv l G A y ws fr lo (.ref b :: As) P P2) (cw : CallW R s args own C index y bytes maxL ret ws ({ frames := fr, cells := 0, slots := 0, locals := lo } : Room) 0 0 n)
    (hrec : ∃ cell : Cell, H[b]? = some cell ∧ cell.vm.isStatics = false ∧ s.vm.findClass C = some cell.cls) (hP : P H) (hK : zK G s) (hS : va_S A0 H0 H locs) (hA : ∀ q, q < H.size → A q → A0 q) (hA2 : ∀ q, A q → A0 q) (hsz : ls.size = nL) (hn : As.length = n) (hst : st0 = As.reverse ++ .ref b :: rest) (hrm : (rest.map fun v => v.category).sum ≤ 8) (hdg : decode cc pc = .ok (.invokevirtual index, 3)) (hf : cells ≤ R.cells ∧ slots ≤ R.slots)
    (kk : ∀ (H1 : Heap) (locs1 : List Loc), P2 H1 → va_S A0 H0 H1 locs1 → (H.size ≤ H1.size ∧ ∀ q : Nat, q < H.size → ¬ A q → H1[q]? = H[q]?) → W p l e R s m args below meth c H1 locs1 cells slots Q (F0 m (pc + 3) ls rest)) : W p l e R s m args below meth c H locs cells slots Q (F0 m pc ls st0) := by
  refine va_callv (va_runV S hM cw ⟨z_blind, hrec, fun U hU hW => ⟨rfl, by rw [hU]; exact hP, va_K.moved hW.alike hK⟩⟩ rfl hn hsz hst (lv_room hrm) hdg hf) hS hA hA2 (fun u t H1 locs1 ht hvm hw hB hz hk hS1 => ?_)
  exact kk H1 locs1 (ht ▸ hB.1) hS1 ⟨hz, hk⟩
/-- a call of a static method of the own class that answers an int (or a boolean) -/
theorem z_si (S : CallFix p m c cc nL s args Ts own) (hM : zMi l G A y ws fr lo As P r P2) (cw : CallB R s args own index y bytes maxL ret ws ({ frames := fr, cells := 0, slots := 0, locals := lo } : Room) 0 0 n ∧ (Cond.static y).before args s = true)
    (hP : P H) (hK : zK G s) (hS : va_S A0 H0 H locs) (hA : ∀ q, q < H.size → A q → A0 q) (hA2 : ∀ q, A q → A0 q) (hsz : ls.size = nL) (hn : As.length = n) (hst : st0 = As.reverse ++ rest) (hrm : (rest.map fun v => v.category).sum ≤ 8) (hdg : decode cc pc = .ok (.invokestatic index, 3)) (hf : cells ≤ R.cells ∧ slots ≤ R.slots)
    (kk : ∀ (H1 : Heap) (locs1 : List Loc), P2 H1 → va_S A0 H0 H1 locs1 → (H.size ≤ H1.size ∧ ∀ q : Nat, q < H.size → ¬ A q → H1[q]? = H[q]?) → W p l e R s m args below meth c H1 locs1 cells slots Q (F0 m (pc + 3) ls (.int r :: rest))) : W p l e R s m args below meth c H locs cells slots Q (F0 m pc ls st0) := by
  refine va_calli (va_runS S hM cw ⟨z_blind, fun U hU hW => ⟨rfl, by rw [hU]; exact hP, va_K.moved hW.alike hK⟩⟩ rfl hn hsz hst (lv_room hrm) hdg hf) hS hA hA2 (fun r1 u t H1 locs1 ht hvm hw hB hz hk hS1 => ?_)
  cases hw
  exact kk H1 locs1 (ht ▸ hB.1) hS1 ⟨hz, hk⟩
end ZBASE
/-- int branches by the naturals behind -/
theorem z_ltI {a b : Nat} (ha : a < 2147483648) (hb : b < 2147483648) : nI a < nI b ↔ a < b := nI_ltI ha hb
theorem z_leI {a b : Nat} (ha : a < 2147483648) (hb : b < 2147483648) : nI a ≤ nI b ↔ a ≤ b := nI_leI ha hb
theorem z_eqI {a b : Nat} (ha : a < 2147483648) (hb : b < 2147483648) : nI a = nI b ↔ a = b := nI_eq ha hb
/-- step f 0, step f 1 .. -/
def zIt {α : Type} (f : Nat → α → α) : Nat → α → α
  | 0, a => a
  | k + 1, a => f k (zIt f k a)
theorem zIt_0 {α : Type} (f : Nat → α → α) (a : α) : zIt f 0 a = a := rfl
theorem zIt_s {α : Type} (f : Nat → α → α) (k : Nat) (a : α) : zIt f (k + 1) a = f k (zIt f k a) := rfl
end
section
/-! ===== the state of a network, as the reference's cells have it: row 0 to 8 a sensor's fields, 9 readings, 10 elected, 11 the numbers (by the reference's places) ===== -/
abbrev zT : Type := Nat → Nat → Int32
def zSt (τ : zT) (f i : Nat) (v : Int32) : zT := fun f2 i2 => cond (Nat.beq f2 f && Nat.beq i2 i) v (τ f2 i2)
theorem zBeq_f {a b : Nat} (h : ¬ a = b) : Nat.beq a b = false := by
  cases h2 : Nat.beq a b
  · rfl
  · exact absurd (Nat.eq_of_beq_eq_true h2) h
theorem zBeq_t (a : Nat) : Nat.beq a a = true := Nat.beq_refl a
theorem zSt_ap (τ : zT) (f i : Nat) (v : Int32) (f2 i2 : Nat) : zSt τ f i v f2 i2 = if f2 = f ∧ i2 = i then v else τ f2 i2 := by
  unfold zSt
  by_cases h1 : f2 = f <;> by_cases h2 : i2 = i
  · rw [if_pos ⟨h1, h2⟩, h1, h2]
    simp
  · rw [if_neg (fun q => h2 q.2), h1, zBeq_f h2]
    simp
  · rw [if_neg (fun q => h1 q.1), zBeq_f h1]
    simp
  · rw [if_neg (fun q => h1 q.1), zBeq_f h1]
    simp
theorem zSt_self (τ : zT) (f i : Nat) (v : Int32) : zSt τ f i v f i = v := by rw [zSt_ap, if_pos ⟨rfl, rfl⟩]
theorem zSt_nf (τ : zT) {f f2 : Nat} (i i2 : Nat) (v : Int32) (h : f2 ≠ f) : zSt τ f i v f2 i2 = τ f2 i2 := by rw [zSt_ap, if_neg (fun q => h q.1)]
theorem zSt_ni (τ : zT) (f f2 : Nat) {i i2 : Nat} (v : Int32) (h : i2 ≠ i) : zSt τ f i v f2 i2 = τ f2 i2 := by rw [zSt_ap, if_neg (fun q => h q.2)]
theorem zSt_same {τ : zT} {f i : Nat} {v : Int32} (h : τ f i = v) : zSt τ f i v = τ := by
  funext f2 i2
  rw [zSt_ap]
  split
  · rename_i q
    rw [q.1, q.2, h]
  · rfl
theorem zSt_comm (τ : zT) {f i f2 i2 : Nat} (v w : Int32) (h : ¬ (f = f2 ∧ i = i2)) : zSt (zSt τ f i v) f2 i2 w = zSt (zSt τ f2 i2 w) f i v := by
  funext a b
  rw [zSt_ap, zSt_ap, zSt_ap, zSt_ap]
  by_cases h1 : a = f2 ∧ b = i2
  · rw [if_pos h1, if_neg (fun q => h ⟨q.1.symm.trans h1.1, q.2.symm.trans h1.2⟩), if_pos h1]
  · rw [if_neg h1, if_neg h1]
theorem zSt_twice (τ : zT) (f i : Nat) (v w : Int32) : zSt (zSt τ f i v) f i w = zSt τ f i w := by
  funext a b
  rw [zSt_ap, zSt_ap, zSt_ap]
  by_cases h1 : a = f ∧ b = i
  · rw [if_pos h1, if_pos h1]
  · rw [if_neg h1, if_neg h1, if_neg h1]
/-- two states that the class can't tell apart: the numbers, and the first n sensors -/
def zAg (n : Nat) (τ τ2 : zT) : Prop := (∀ k, 9 ≤ k → k < 15 → τ 11 k = τ2 11 k) ∧ ∀ f i, f < 11 → i < n → τ f i = τ2 f i
theorem zAg.rf {n : Nat} {τ : zT} : zAg n τ τ := ⟨fun _ _ _ => rfl, fun _ _ _ _ => rfl⟩
theorem zAg.symm {n : Nat} {τ τ2 : zT} (h : zAg n τ τ2) : zAg n τ2 τ := ⟨fun k a b => (h.1 k a b).symm, fun f i hf hi => (h.2 f i hf hi).symm⟩
theorem zAg.trans {n : Nat} {τ τ2 τ3 : zT} (h : zAg n τ τ2) (h2 : zAg n τ2 τ3) : zAg n τ τ3 := ⟨fun k a b => (h.1 k a b).trans (h2.1 k a b), fun f i hf hi => (h.2 f i hf hi).trans (h2.2 f i hf hi)⟩
theorem zAg.st {n : Nat} {τ τ2 : zT} (h : zAg n τ τ2) (f i : Nat) (v : Int32) : zAg n (zSt τ f i v) (zSt τ2 f i v) := by
  refine ⟨fun k a b => ?_, fun f2 i2 hf hi => ?_⟩
  · rw [zSt_ap, zSt_ap, h.1 k a b]
  · rw [zSt_ap, zSt_ap, h.2 f2 i2 hf hi]
/-! the cells of a network: ad 0 the object, ad 1 its row of sensors, ad 2 its settings, ad (3 + i) sensor i -/
def zSen (τ : zT) (i : Nat) : List Value := [.int (τ 0 i), .int (τ 1 i), .int (τ 2 i), .int (zBi (τ 3 i = 1)), .int (zBi (τ 4 i = 1)), .int (τ 5 i), .int (τ 6 i), .int (τ 7 i), .int (τ 8 i), .int (zBi (τ 10 i = 1)), .int (τ 9 i)]
def zObj (ad : Nat → Nat) (n : Nat) (g : Nat → Int32) (τ : zT) : List Value := [.ref (ad 1), .ref (ad 2), .int (nI n), .int (g 1), .int (g 2), .int (τ 11 9), .int (τ 11 10), .int (τ 11 11), .int (τ 11 12), .int (τ 11 13), .int (τ 11 14)]
def zSenC (ad : Nat → Nat) (τ : zT) (i : Nat) : Nat × va_E := (ad (3 + i), .inr (3, zSen τ i))
def zNet (G : zG) (ad : Nat → Nat) (n : Nat) (g : Nat → Int32) (τ : zT) : va_W := (ad 0, .inr (1, zObj ad n g τ)) :: (ad 1, .inl (G.2.1, 12, .inr (.inr (.inr (.inr (fun i => some (ad (3 + i)))))))) :: (ad 2, .inl (G.2.2.1, 6, .inl (fun j => g (3 + j)))) :: (List.range 12).map (zSenC ad τ)
theorem zNet_len (G : zG) (ad : Nat → Nat) (n : Nat) (g : Nat → Int32) (τ : zT) : (zNet G ad n g τ).length = 15 := by simp [zNet]
theorem zNet_s {G : zG} {ad : Nat → Nat} {n : Nat} {g : Nat → Int32} {τ : zT} (X : va_W) {i : Nat} (hi : i < 12) : (zNet G ad n g τ ++ X)[3 + i]? = some (zSenC ad τ i) := by
  rw [List.getElem?_append_left (by rw [zNet_len]; omega)]
  rw [show 3 + i = i + 1 + 1 + 1 by omega]
  simp [zNet, hi]
theorem zNet_3 {G : zG} {ad : Nat → Nat} {n : Nat} {g : Nat → Int32} {τ : zT} (X : va_W) {k : Nat} (hk : k < 3) : (zNet G ad n g τ ++ X)[k]? = (zNet G ad n g τ)[k]? := List.getElem?_append_left (by rw [zNet_len]; omega)
theorem zNet_X {G : zG} {ad : Nat → Nat} {n : Nat} {g : Nat → Int32} {τ : zT} (X : va_W) (k : Nat) : (zNet G ad n g τ ++ X)[15 + k]? = X[k]? := by
  rw [List.getElem?_append_right (by rw [zNet_len]; omega), zNet_len]
  congr 1
  omega
/-- a place of a network's world -/
theorem zNet_cases {G : zG} {ad : Nat → Nat} {n : Nat} {g : Nat → Int32} {τ : zT} {X : va_W} {j : Nat} : j = 0 ∨ j = 1 ∨ j = 2 ∨ (∃ i, i < 12 ∧ j = 3 + i) ∨ ∃ k, j = 15 + k := by
  by_cases h : j < 15
  · by_cases h2 : j < 3
    · omega
    · exact Or.inr (Or.inr (Or.inr (Or.inl ⟨j - 3, by omega, by omega⟩)))
  · exact Or.inr (Or.inr (Or.inr (Or.inr ⟨j - 15, by omega⟩)))
theorem zNet_setS {G : zG} {ad : Nat → Nat} {n : Nat} {g : Nat → Int32} {τ τ2 : zT} (X : va_W) {i : Nat} (hi : i < 12) (h1 : ∀ j, j ≠ i → zSen τ2 j = zSen τ j) (h2 : zObj ad n g τ2 = zObj ad n g τ) : (zNet G ad n g τ ++ X).set (3 + i) (zSenC ad τ2 i) = zNet G ad n g τ2 ++ X := by
  apply List.ext_getElem?
  intro j
  by_cases hj : j = 3 + i
  · subst hj
    rw [List.getElem?_set_self (by rw [List.length_append, zNet_len]; omega), zNet_s X hi]
  · rw [List.getElem?_set_ne (Ne.symm hj)]
    rcases zNet_cases (G := G) (ad := ad) (n := n) (g := g) (τ := τ) (X := X) (j := j) with rfl | rfl | rfl | ⟨k, hk, rfl⟩ | ⟨k, rfl⟩
    · rw [zNet_3 X (by omega), zNet_3 X (by omega)]
      simp only [zNet, List.getElem?_cons_zero, h2]
    · rw [zNet_3 X (by omega), zNet_3 X (by omega)]
      rfl
    · rw [zNet_3 X (by omega), zNet_3 X (by omega)]
      rfl
    · rw [zNet_s X hk, zNet_s X hk]
      unfold zSenC
      rw [h1 k (fun q => hj (by rw [q]))]
    · rw [zNet_X, zNet_X]
theorem zNet_setO1 {G : zG} {ad : Nat → Nat} {n : Nat} {g : Nat → Int32} {τ τ2 : zT} (X : va_W) (h1 : ∀ j, zSen τ2 j = zSen τ j) : (zNet G ad n g τ ++ X).set 0 (ad 0, .inr (1, zObj ad n g τ2)) = zNet G ad n g τ2 ++ X := by
  apply List.ext_getElem?
  intro j
  by_cases hj : j = 0
  · subst hj
    rw [List.getElem?_set_self (by rw [List.length_append, zNet_len]; omega), zNet_3 X (by omega)]
    rfl
  · rw [List.getElem?_set_ne (Ne.symm hj)]
    rcases zNet_cases (G := G) (ad := ad) (n := n) (g := g) (τ := τ) (X := X) (j := j) with rfl | rfl | rfl | ⟨k, hk, rfl⟩ | ⟨k, rfl⟩
    · exact absurd rfl hj
    · rw [zNet_3 X (by omega), zNet_3 X (by omega)]
      rfl
    · rw [zNet_3 X (by omega), zNet_3 X (by omega)]
      rfl
    · rw [zNet_s X hk, zNet_s X hk]
      unfold zSenC
      rw [h1 k]
    · rw [zNet_X, zNet_X]
/-- the heap holds a network of n sensors and the fixed numbers g in a state that can't be told from τ by its first N sensors; and the cells X -/
def zNA (G : zG) (ad : Nat → Nat) (n N : Nat) (g : Nat → Int32) (X : va_W) (τ : zT) (H : Heap) : Prop := ∃ τ2, zAg N τ τ2 ∧ va_P G.1 vwCl (zNet G ad n g τ2 ++ X) H
theorem zNA.to {G : zG} {ad : Nat → Nat} {n N : Nat} {g : Nat → Int32} {X : va_W} {τ τ3 : zT} {H : Heap} (h : zNA G ad n N g X τ H) (h2 : zAg N τ3 τ) : zNA G ad n N g X τ3 H := by
  obtain ⟨τ2, h1, hP⟩ := h
  exact ⟨τ2, h2.trans h1, hP⟩
theorem zNA.cast {G : zG} {ad : Nat → Nat} {n N : Nat} {g : Nat → Int32} {X : va_W} {τ τ3 : zT} {H : Heap} (h : zNA G ad n N g X τ H) (h2 : τ = τ3) : zNA G ad n N g X τ3 H := h2 ▸ h
/-- the addresses: apart, and in A -/
def zAp (G : zG) (ad : Nat → Nat) (X : va_W) (A : Nat → Prop) : Prop := ∀ (n : Nat) (g : Nat → Int32) (τ : zT), va_D A (zNet G ad n g τ ++ X)
/-- the cell of a Rounds object, beside its network -/
abbrev zX (r : Nat) (ad : Nat → Nat) : va_W := [(r, .inr (2, [.ref (ad 0)]))]
theorem zSet0 (τ : zT) (i : Nat) (w : Int32) : (zSen τ i).set 0 (.int w) = zSen (zSt τ 0 i w) i := by simp [zSen, zSt_ap]
theorem zSet1 (τ : zT) (i : Nat) (w : Int32) : (zSen τ i).set 1 (.int w) = zSen (zSt τ 1 i w) i := by simp [zSen, zSt_ap]
theorem zSet2 (τ : zT) (i : Nat) (w : Int32) : (zSen τ i).set 2 (.int w) = zSen (zSt τ 2 i w) i := by simp [zSen, zSt_ap]
theorem zSet3 (τ : zT) (i : Nat) {v w : Int32} (h : v = zBi (w = 1)) : (zSen τ i).set 3 (.int v) = zSen (zSt τ 3 i w) i := by simp [zSen, zSt_ap, h]
theorem zSet4 (τ : zT) (i : Nat) {v w : Int32} (h : v = zBi (w = 1)) : (zSen τ i).set 4 (.int v) = zSen (zSt τ 4 i w) i := by simp [zSen, zSt_ap, h]
theorem zSet5 (τ : zT) (i : Nat) (w : Int32) : (zSen τ i).set 5 (.int w) = zSen (zSt τ 5 i w) i := by simp [zSen, zSt_ap]
theorem zSet6 (τ : zT) (i : Nat) (w : Int32) : (zSen τ i).set 6 (.int w) = zSen (zSt τ 6 i w) i := by simp [zSen, zSt_ap]
theorem zSet7 (τ : zT) (i : Nat) (w : Int32) : (zSen τ i).set 7 (.int w) = zSen (zSt τ 7 i w) i := by simp [zSen, zSt_ap]
theorem zSet8 (τ : zT) (i : Nat) (w : Int32) : (zSen τ i).set 8 (.int w) = zSen (zSt τ 8 i w) i := by simp [zSen, zSt_ap]
theorem zSet9 (τ : zT) (i : Nat) {v w : Int32} (h : v = zBi (w = 1)) : (zSen τ i).set 9 (.int v) = zSen (zSt τ 10 i w) i := by simp [zSen, zSt_ap, h]
theorem zSet10 (τ : zT) (i : Nat) (w : Int32) : (zSen τ i).set 10 (.int w) = zSen (zSt τ 9 i w) i := by simp [zSen, zSt_ap]
theorem zSen_ne (τ : zT) {f i j : Nat} (w : Int32) (h : j ≠ i) : zSen (zSt τ f i w) j = zSen τ j := by simp [zSen, zSt_ap, h]
theorem zSen_11 (τ : zT) (k j : Nat) (w : Int32) : zSen (zSt τ 11 k w) j = zSen τ j := by simp [zSen, zSt_ap]
theorem zObj_ne (ad : Nat → Nat) (n : Nat) (g : Nat → Int32) (τ : zT) {f i : Nat} (w : Int32) (h : f ≠ 11) : zObj ad n g (zSt τ f i w) = zObj ad n g τ := by simp [zObj, zSt_ap, Ne.symm h]
theorem zObs5 (ad : Nat → Nat) (n : Nat) (g : Nat → Int32) (τ : zT) (w : Int32) : (zObj ad n g τ).set 5 (.int w) = zObj ad n g (zSt τ 11 9 w) := by simp [zObj, zSt_ap]
theorem zObs6 (ad : Nat → Nat) (n : Nat) (g : Nat → Int32) (τ : zT) (w : Int32) : (zObj ad n g τ).set 6 (.int w) = zObj ad n g (zSt τ 11 10 w) := by simp [zObj, zSt_ap]
theorem zObs7 (ad : Nat → Nat) (n : Nat) (g : Nat → Int32) (τ : zT) (w : Int32) : (zObj ad n g τ).set 7 (.int w) = zObj ad n g (zSt τ 11 11 w) := by simp [zObj, zSt_ap]
theorem zObs8 (ad : Nat → Nat) (n : Nat) (g : Nat → Int32) (τ : zT) (w : Int32) : (zObj ad n g τ).set 8 (.int w) = zObj ad n g (zSt τ 11 12 w) := by simp [zObj, zSt_ap]
theorem zObs9 (ad : Nat → Nat) (n : Nat) (g : Nat → Int32) (τ : zT) (w : Int32) : (zObj ad n g τ).set 9 (.int w) = zObj ad n g (zSt τ 11 13 w) := by simp [zObj, zSt_ap]
theorem zObs10 (ad : Nat → Nat) (n : Nat) (g : Nat → Int32) (τ : zT) (w : Int32) : (zObj ad n g τ).set 10 (.int w) = zObj ad n g (zSt τ 11 14 w) := by simp [zObj, zSt_ap]
/-! rows of instructions over a network -/
section ZNET
variable {p : Program} {l : Launch} {e : Env} {R : Room} {s : State} {m : MethodId} {args : Array Value} {below : List Frame} {meth : Method} {c : Code} {H : Heap} {locs : List Loc} {cells slots : Nat} {Q : State → Prop}
variable {cc : ByteArray} {pc : Nat} {ls : Array Slot} {rest : List Value} {G : zG} {A : Nat → Prop} {H0 : Heap} {Ts : List Cond} {own : String} {index : Nat} {ad : Nat → Nat} {n N : Nat} {g : Nat → Int32} {X : va_W} {τ : zT} {r i k : Nat} {v : Value}
theorem z_recN (hK : zK G s) (hN : zNA G ad n N g X τ H) : ∃ cell : Cell, H[ad 0]? = some cell ∧ cell.vm.isStatics = false ∧ s.vm.findClass RX1 = some cell.cls := by
  obtain ⟨τ2, -, hP⟩ := hN
  exact va_recv hK hP (ci := 1) (q0 := 0) rfl rfl
theorem z_recS (hK : zK G s) (hN : zNA G ad n N g X τ H) (hi : i < 12) : ∃ cell : Cell, H[ad (3 + i)]? = some cell ∧ cell.vm.isStatics = false ∧ s.vm.findClass RX3 = some cell.cls := by
  obtain ⟨τ2, -, hP⟩ := hN
  exact va_recv hK hP (ci := 3) (q0 := 3 + i) rfl (zNet_s X hi)
theorem z_recR (hK : zK G s) (hN : zNA G ad n N g (zX r ad) τ H) : ∃ cell : Cell, H[r]? = some cell ∧ cell.vm.isStatics = false ∧ s.vm.findClass RX2 = some cell.cls := by
  obtain ⟨τ2, -, hP⟩ := hN
  exact va_recv hK hP (ci := 2) (q0 := 15) rfl (zNet_X _ 0)
/-- getfield net of a Rounds object -/
theorem z_getR (hx : p.tables.exec = Jvm.exec) (hb : c.code = cc) (hts : ∀ w ∈ Ts, w.before args s = true) (hown : s.vm.findClass own = some m.cls) (hin : ∀ w ∈ wsX20, w ∈ Ts) (hK : zK G s) (hN : zNA G ad n N g (zX r ad) τ H) (hl : (Cond.fieldLink own index RX2 (TX2 0).2.1 (TX2 0).2.2.1).before args s = true) (hdg : decode cc pc = .ok (.getfield index, 3))
    (kk : W p l e R s m args below meth c H locs cells slots Q (F0 m (pc + 3) ls (.ref (ad 0) :: rest))) : W p l e R s m args below meth c H locs cells slots Q (F0 m pc ls (.ref r :: rest)) := by
  obtain ⟨τ2, -, hP⟩ := hN
  exact va_get (D := G.1) (ci := 2) (C := RX2) (T := TX2) (N := 1) hx hb hts hin hown hK hP 15 (zNet_X _ 0) rfl 0 (by decide) hl (fun _ h => h) rfl hdg kk
/-- getfield of a network's object -/
theorem z_getO (hx : p.tables.exec = Jvm.exec) (hb : c.code = cc) (hts : ∀ w ∈ Ts, w.before args s = true) (hown : s.vm.findClass own = some m.cls) (hin : ∀ w ∈ wsX10, w ∈ Ts) (hK : zK G s) (hN : zNA G ad n N g X τ H) (k : Nat) (hk : k < 11) (hsm : (TX1 k).1 = RX1) (hl : (Cond.fieldLink own index RX1 (TX1 k).2.1 (TX1 k).2.2.1).before args s = true) (hv : (zObj ad n g τ)[k]? = some v) (hdg : decode cc pc = .ok (.getfield index, 3))
    (kk : W p l e R s m args below meth c H locs cells slots Q (F0 m (pc + 3) ls (v :: rest))) : W p l e R s m args below meth c H locs cells slots Q (F0 m pc ls (.ref (ad 0) :: rest)) := by
  obtain ⟨τ2, hg, hP⟩ := hN
  have he : zObj ad n g τ2 = zObj ad n g τ := by
    unfold zObj
    rw [hg.1 9 (by decide) (by decide), hg.1 10 (by decide) (by decide), hg.1 11 (by decide) (by decide), hg.1 12 (by decide) (by decide), hg.1 13 (by decide) (by decide), hg.1 14 (by decide) (by decide)]
  exact va_get (D := G.1) (ci := 1) (C := RX1) (T := TX1) (N := 11) hx hb hts hin hown hK hP 0 rfl rfl k hk hl (fun _ h => hsm ▸ h) (he ▸ hv) hdg kk
/-- getfield of a sensor -/
theorem z_getS (hx : p.tables.exec = Jvm.exec) (hb : c.code = cc) (hts : ∀ w ∈ Ts, w.before args s = true) (hown : s.vm.findClass own = some m.cls) (hin : ∀ w ∈ wsX30, w ∈ Ts) (hK : zK G s) (hN12 : N ≤ 12) (hN : zNA G ad n N g X τ H) (hi : i < N) (k : Nat) (hk : k < 11) (hsm : (TX3 k).1 = RX3) (hl : (Cond.fieldLink own index RX3 (TX3 k).2.1 (TX3 k).2.2.1).before args s = true) (hv : (zSen τ i)[k]? = some v) (hdg : decode cc pc = .ok (.getfield index, 3))
    (kk : W p l e R s m args below meth c H locs cells slots Q (F0 m (pc + 3) ls (v :: rest))) : W p l e R s m args below meth c H locs cells slots Q (F0 m pc ls (.ref (ad (3 + i)) :: rest)) := by
  obtain ⟨τ2, hg, hP⟩ := hN
  have he : zSen τ2 i = zSen τ i := by
    unfold zSen
    rw [hg.2 0 i (by decide) hi, hg.2 1 i (by decide) hi, hg.2 2 i (by decide) hi, hg.2 3 i (by decide) hi, hg.2 4 i (by decide) hi, hg.2 5 i (by decide) hi, hg.2 6 i (by decide) hi, hg.2 7 i (by decide) hi, hg.2 8 i (by decide) hi, hg.2 9 i (by decide) hi, hg.2 10 i (by decide) hi]
  exact va_get (D := G.1) (ci := 3) (C := RX3) (T := TX3) (N := 11) hx hb hts hin hown hK hP (3 + i) (zNet_s X (by omega)) rfl k hk hl (fun _ h => hsm ▸ h) (he ▸ hv) hdg kk
/-- aaload of the row of sensors -/
theorem z_aald (hx : p.tables.exec = Jvm.exec) (hb : c.code = cc) (hK : zK G s) (hN : zNA G ad n N g X τ H) {x : Int32} (hxi : x = nI i) (hi : i < 12) (hdg : decode cc pc = .ok (.aaload, 1))
    (kk : W p l e R s m args below meth c H locs cells slots Q (F0 m (pc + 1) ls (.ref (ad (3 + i)) :: rest))) : W p l e R s m args below meth c H locs cells slots Q (F0 m pc ls (.int x :: .ref (ad 1) :: rest)) := by
  subst hxi
  obtain ⟨τ2, hg, hP⟩ := hN
  refine va_aldq hx hb hK hP 1 0 (cA := G.2.1) (C := RX3) (n := 12) (f := fun i => some (ad (3 + i))) rfl rfl (vp_in_nI hi (by omega)) hdg ?_
  rw [nI_clamp (by omega)]
  exact kk
/-- iaload of the settings -/
theorem z_iald (hx : p.tables.exec = Jvm.exec) (hb : c.code = cc) (hK : zK G s) (hN : zNA G ad n N g X τ H) {x w : Int32} (j : Nat) (hxi : x = nI j) (hj : j < 6) (hw : g (3 + j) = w) (hdg : decode cc pc = .ok (.iaload, 1))
    (kk : W p l e R s m args below meth c H locs cells slots Q (F0 m (pc + 1) ls (.int w :: rest))) : W p l e R s m args below meth c H locs cells slots Q (F0 m pc ls (.int x :: .ref (ad 2) :: rest)) := by
  subst hxi
  subst hw
  obtain ⟨τ2, hg, hP⟩ := hN
  refine va_iald hx hb hK hP 2 1 (cA := G.2.2.1) (n := 6) (f := fun j => g (3 + j)) rfl rfl (vp_in_nI hj (by omega)) hdg ?_
  rw [nI_clamp (by omega)]
  exact kk
/-- putfield of a sensor -/
theorem z_putS (hx : p.tables.exec = Jvm.exec) (hb : c.code = cc) (hts : ∀ w ∈ Ts, w.before args s = true) (hown : s.vm.findClass own = some m.cls) (hin : ∀ w ∈ wsX30, w ∈ Ts) (hK : zK G s) (hA : zAp G ad X A) (hS : va_S A H0 H locs) (hN : zNA G ad n N g X τ H) (hi : i < 12) (k f : Nat) (hk : k < 11) (hsm : (TX3 k).1 = RX3) (hf : f ≠ 11) (hl : (Cond.fieldLink own index RX3 (TX3 k).2.1 (TX3 k).2.2.1).before args s = true) {ty : FieldType} (hd : parseFieldDescriptor (TX3 k).2.2.1 = some ty) {w : Int32} (hnr : narrow ty v = v) (hft : fits ty v = true) (hfin : (TX3 k).2.2.2 = false) (hset : ∀ τ : zT, (zSen τ i).set k v = zSen (zSt τ f i w) i) (hdg : decode cc pc = .ok (.putfield index, 3))
    (kk : ∀ (H1 : Heap) (locs1 : List Loc), zNA G ad n N g X (zSt τ f i w) H1 → va_S A H0 H1 locs1 → W p l e R s m args below meth c H1 locs1 cells slots Q (F0 m (pc + 3) ls rest)) : W p l e R s m args below meth c H locs cells slots Q (F0 m pc ls (v :: .ref (ad (3 + i)) :: rest)) := by
  obtain ⟨τ2, hg, hP⟩ := hN
  refine va_put (D := G.1) (ci := 3) (C := RX3) (T := TX3) (N := 11) (ty := ty) (v := v) hx hb hts hin tyX3 tyX3_ok nmX3 hown hK hP (hA n g τ2) hS (3 + i) (zNet_s X hi) rfl k hk hl (fun _ h => hsm ▸ h) hfin hd hnr hft hk hdg (fun H1 locs1 hP1 hD1 hS1 => kk H1 locs1 ⟨zSt τ2 f i w, hg.st f i w, ?_⟩ hS1)
  rw [hset] at hP1
  rwa [show (ad (3 + i), (.inr (3, zSen (zSt τ2 f i w) i) : va_E)) = zSenC ad (zSt τ2 f i w) i from rfl, zNet_setS X hi (fun j hj => zSen_ne τ2 w hj) (zObj_ne ad n g τ2 w hf)] at hP1
/-- putfield of a network's object: one of the numbers that rounds change -/
theorem z_putO (hx : p.tables.exec = Jvm.exec) (hb : c.code = cc) (hts : ∀ w ∈ Ts, w.before args s = true) (hown : s.vm.findClass own = some m.cls) (hin : ∀ w ∈ wsX10, w ∈ Ts) (hK : zK G s) (hA : zAp G ad X A) (hS : va_S A H0 H locs) (hN : zNA G ad n N g X τ H) (k j : Nat) (hk : k < 11) (hsm : (TX1 k).1 = RX1) (hl : (Cond.fieldLink own index RX1 (TX1 k).2.1 (TX1 k).2.2.1).before args s = true) (hd : parseFieldDescriptor (TX1 k).2.2.1 = some .int) {w : Int32} (hfin : (TX1 k).2.2.2 = false) (hset : ∀ τ : zT, (zObj ad n g τ).set k (.int w) = zObj ad n g (zSt τ 11 j w)) (hdg : decode cc pc = .ok (.putfield index, 3))
    (kk : ∀ (H1 : Heap) (locs1 : List Loc), zNA G ad n N g X (zSt τ 11 j w) H1 → va_S A H0 H1 locs1 → W p l e R s m args below meth c H1 locs1 cells slots Q (F0 m (pc + 3) ls rest)) : W p l e R s m args below meth c H locs cells slots Q (F0 m pc ls (.int w :: .ref (ad 0) :: rest)) := by
  obtain ⟨τ2, hg, hP⟩ := hN
  refine va_put (D := G.1) (ci := 1) (C := RX1) (T := TX1) (N := 11) (ty := .int) (v := .int w) hx hb hts hin tyX1 tyX1_ok nmX1 hown hK hP (hA n g τ2) hS 0 rfl rfl k hk hl (fun _ h => hsm ▸ h) hfin hd rfl rfl hk hdg (fun H1 locs1 hP1 hD1 hS1 => kk H1 locs1 ⟨zSt τ2 11 j w, hg.st 11 j w, ?_⟩ hS1)
  rw [hset] at hP1
  rwa [zNet_setO1 X (fun i => zSen_11 τ2 j i w)] at hP1
end ZNET
end
section
/-! ===== what the class's methods do to a network's state: n sensors; g: 1, 2 base, 3 cycle, 4 electronics, 5 divisor, 6 aggregation, 7 announcement, 8 routing ===== -/
def zDi (x y u v : Int32) : Int32 := (x - u) * (x - u) + (y - v) * (y - v)
def zDs (τ : zT) (i j : Nat) : Int32 := zDi (τ 0 i) (τ 1 i) (τ 0 j) (τ 1 j)
def zDb (g : Nat → Int32) (τ : zT) (i : Nat) : Int32 := zDi (τ 0 i) (τ 1 i) (g 1) (g 2)
def zCo (g : Nat → Int32) (d : Int32) : Int32 := g 4 + d / g 5
def zPh (g : Nat → Int32) (τ : zT) : Int32 := τ 11 10 - τ 11 10 / g 3 * g 3
def zDie (τ : zT) (i : Nat) : zT := zSt (zSt τ 3 i 0) 6 i (τ 11 10)
def zPd (τ : zT) (i : Nat) (c : Int32) : zT := zSt (zSt τ 2 i (τ 2 i - c)) 11 14 (τ 11 14 + c)
def zPay (τ : zT) (i : Nat) (c : Int32) : zT := if τ 2 i < c then zDie τ i else zPd τ i c
def zBr (τ : zT) (i : Nat) : zT := zSt (zSt (zSt (zSt τ 7 i (-9)) 8 i (-9)) 10 i 0) 9 i 0
def zBgC (ph : Int32) (k : Nat) (τ : zT) : zT := if ph = 0 then zSt (zBr τ k) 4 k 1 else zBr τ k
def zBg (n : Nat) (g : Nat → Int32) (τ : zT) : zT := zSt (zSt (zIt (zBgC (zPh g τ)) n τ) 11 11 0) 11 12 0
def zNx (x : Int32) : Int32 := (x * 1103515245 + 12345) &&& 2147483647
def zDr (x : Int32) : Int32 := x / 65536 - x / 65536 / 1000 * 1000
def zDw (τ : zT) : zT := zSt τ 11 9 (zNx (τ 11 9))
def zElS (left : Int32) (k : Nat) (τ : zT) : zT := if τ 3 k = 1 ∧ τ 4 k = 1 then zSt (zDw τ) 10 k (zBi (zDr (zNx (τ 11 9)) * left < 1000)) else τ
def zEl (n : Nat) (g : Nat → Int32) (τ : zT) : zT := zIt (zElS (g 3 - zPh g τ)) n τ
def zAnY (g : Nat → Int32) (k : Nat) (τ : zT) : zT := zSt (zSt (zSt (zSt (zPd τ k (g 7)) 7 k (nI k)) 4 k 0) 5 k (τ 5 k + 1)) 11 11 (τ 11 11 + 1)
def zAnS (g : Nat → Int32) (k : Nat) (τ : zT) : zT := if τ 10 k = 1 then (if τ 2 k < g 7 then zDie τ k else zAnY g k τ) else τ
def zOi (o : Option Nat) : Int32 := match o with
  | none => -9
  | some b => nI b
/-- a distance that is none yet is 0 -/
def zOd (τ : zT) (x y : Int32) (o : Option Nat) : Int32 := match o with
  | none => 0
  | some b => zDi (τ 0 b) (τ 1 b) x y
def zNeS (τ : zT) (x y : Int32) (h : Nat) (o : Option Nat) : Option Nat := if (τ 3 h = 1 ∧ τ 7 h = nI h) ∧ (o = none ∨ zDi (τ 0 h) (τ 1 h) x y < zOd τ x y o) then some h else o
def zNe (n : Nat) (τ : zT) (x y : Int32) : Option Nat := zIt (zNeS τ x y) n none
def zJ1S (n : Nat) (k : Nat) (τ : zT) : zT := if τ 3 k = 1 ∧ ¬ τ 7 k = nI k then zSt τ 7 k (zOi (zNe n τ (τ 0 k) (τ 1 k))) else τ
def zGsS (h : Nat) (k : Nat) (u : Int32 × zT) : Int32 × zT := if k ≠ h ∧ u.2 7 k = nI h then (u.1 + 1, zSt u.2 8 k u.1) else u
def zGs (n h : Nat) (τ : zT) : zT := (zIt (zGsS h) n (0, τ)).2
def zJ2S (n : Nat) (h : Nat) (τ : zT) : zT := if τ 7 h = nI h then zGs n h τ else τ
def zJo (n : Nat) (τ : zT) : zT := zIt (zJ2S n) n (zIt (zJ1S n) n τ)
/-- taking a message in: the state, and whether it was paid for -/
def zTk (g : Nat → Int32) (τ : zT) (h : Nat) : zT × Int32 := if τ 3 h = 1 then (if τ 2 h < g 4 then (zDie τ h, 0) else (if (zPd τ h (g 4)) 2 h < g 6 then (zDie (zPd τ h (g 4)) h, 0) else (zPd (zPd τ h (g 4)) h (g 6), 1))) else (τ, 0)
/-- sending a message from i to h -/
def zSd (g : Nat → Int32) (τ : zT) (i h : Nat) : zT × Int32 := if τ 2 i < zCo g (zDs τ i h) then (zDie τ i, 0) else zTk g (zPd τ i (zCo g (zDs τ i h))) h
def zRpS (g : Nat → Int32) (h k : Nat) (τ : zT) : zT := if (k ≠ h ∧ τ 7 k = nI h) ∧ τ 3 k = 1 then (if (zSd g τ k h).2 = 0 then (zSd g τ k h).1 else zSt (zSd g τ k h).1 9 h ((zSd g τ k h).1 9 h + 1)) else τ
def zRhS (n : Nat) (g : Nat → Int32) (h : Nat) (τ : zT) : zT := if τ 7 h = nI h then zIt (zRpS g h) n τ else τ
def zOwS (g : Nat → Int32) (h : Nat) (τ : zT) : zT := if τ 3 h = 1 ∧ τ 7 h = nI h then (if τ 2 h < g 6 then zDie τ h else zSt (zPd τ h (g 6)) 9 h (τ 9 h + 1)) else τ
def zSb (g : Nat → Int32) (τ : zT) (i : Nat) (w : Int32) : zT := if τ 2 i < zCo g (zDb g τ i) then zDie τ i else zSt (zPd τ i (zCo g (zDb g τ i))) 11 12 (τ 11 12 + w)
def zDdS (g : Nat → Int32) (h : Nat) (τ : zT) : zT := if τ 3 h = 1 ∧ τ 7 h = nI h then zSb g τ h (τ 9 h) else τ
def zRlS (g : Nat → Int32) (r h : Nat) (τ : zT) : zT := if h ≠ r ∧ (τ 3 h = 1 ∧ τ 7 h = nI h) then (if (zSd g τ h r).2 = 0 then (zSd g τ h r).1 else zSt (zSd g τ h r).1 9 r ((zSd g τ h r).1 9 r + (zSd g τ h r).1 9 h)) else τ
def zRlE (g : Nat → Int32) (r : Nat) (τ : zT) : zT := if τ 3 r = 1 then zSb g τ r (τ 9 r) else τ
def zRl (n : Nat) (g : Nat → Int32) (τ : zT) : zT := match zNe n τ (g 1) (g 2) with
  | none => τ
  | some r => zRlE g r (zIt (zRlS g r) n τ)
def zDv (n : Nat) (g : Nat → Int32) (τ : zT) : zT := if g 8 = 1 then zRl n g τ else zIt (zDdS g) n τ
def zRbS (g : Nat → Int32) (k : Nat) (τ : zT) : zT := if τ 3 k = 1 then zSb g τ k 1 else τ
def zR2 (n : Nat) (g : Nat → Int32) (τ : zT) : zT := if τ 11 11 = 0 then zIt (zRbS g) n τ else zDv n g (zIt (zOwS g) n (zIt (zRhS n g) n (zJo n τ)))
def zR3 (τ : zT) : zT := zSt (zSt τ 11 13 (τ 11 13 + τ 11 12)) 11 10 (τ 11 10 + 1)
/-- a round from behind its beginning on; a round -/
def zR1 (n : Nat) (g : Nat → Int32) (τ : zT) : zT := zR3 (zR2 n g (zIt (zAnS g) n (zEl n g τ)))
def zCaS (τ : zT) (k : Nat) (v : Int32) : Int32 := if τ 3 k = 1 then v + 1 else v
def zCa (n : Nat) (τ : zT) : Int32 := zIt (zCaS τ) n 0
/-- how a state is made, told by its readings -/
theorem zOi_lt {b : Nat} (h : b < 12) : ¬ zOi (some b) = -9 := by
  show ¬ nI b = -9
  intro q
  have := congrArg Int32.toInt q
  rw [nI_toInt (by omega)] at this
  have h9 : (-9 : Int32).toInt = -9 := by decide
  omega
theorem zNe_lt (n : Nat) (τ : zT) (x y : Int32) : ∀ k b, zIt (zNeS τ x y) k none = some b → b < k := by
  intro k
  induction k with
  | zero => intro b h; cases h
  | succ k ih =>
    intro b h
    rw [zIt_s] at h
    unfold zNeS at h
    split at h
    · cases h
      omega
    · have := ih b h
      omega
theorem zIt_inv {α : Type} (f : Nat → α → α) (I : α → Prop) (a : α) (h0 : I a) (hs : ∀ k a, I a → I (f k a)) : ∀ k, I (zIt f k a) := by
  intro k
  induction k with
  | zero => exact h0
  | succ k ih => exact hs k _ ih
theorem zPay_n {τ : zT} {i : Nat} {c : Int32} (h : τ 2 i < c) : zPay τ i c = zDie τ i := if_pos h
theorem zPay_y {τ : zT} {i : Nat} {c : Int32} (h : ¬ τ 2 i < c) : zPay τ i c = zPd τ i c := if_neg h
theorem zTk_bit (g : Nat → Int32) (τ : zT) (h : Nat) : (zTk g τ h).2 = 0 ∨ (zTk g τ h).2 = 1 := by
  unfold zTk
  split
  · split
    · exact Or.inl rfl
    · split
      · exact Or.inl rfl
      · exact Or.inr rfl
  · exact Or.inl rfl
theorem zSd_bit (g : Nat → Int32) (τ : zT) (i h : Nat) : (zSd g τ i h).2 = 0 ∨ (zSd g τ i h).2 = 1 := by
  unfold zSd
  split
  · exact Or.inl rfl
  · exact zTk_bit g _ h
end
section
/-! rows laid by my own program (wip/whole/gen) -/
theorem in_X3_distanceTo_X3 : ∀ w ∈ wsX30, w ∈ wsX3_distanceTo := by decide +kernel
set_option maxHeartbeats 4000000 in
set_option maxRecDepth 100000 in
theorem c_X3_distanceTo (l : Launch) (G : zG) (A : Nat → Prop) (ad : Nat → Nat) (n N : Nat) (g : Nat → Int32) (X : va_W) (hA : zAp G ad X A) (hnN : n ≤ N) (hN12 : N ≤ 12) (τ : zT) (i : Nat) (hi : i < N) (x y : Int32) : zMi l G A yX3_distanceTo wsX3_distanceTo 0 0 [.ref (ad (3 + i)), .int x, .int y] (zNA G ad n N g X τ) (zDi (τ 0 i) (τ 1 i) x y) (zNA G ad n N g X τ) := by
  refine z_met (cc := cX3_distanceTo) (maxL := 5) (ret := (some .int)) (by decide) rfl (Nat.le_of_ble_eq_true rfl) ?_
  intro p e s m below meth c ls S hr hlk hnm hN hK hl
  have S : CallFix p m c cX3_distanceTo 5 s _ wsX3_distanceTo RX3 := S
  obtain ⟨hx, hb, hml, hown, hts⟩ := id S
  have hS : va_S A s.heap s.heap [] := va_S.rf
  have hl : lv_has ls 5 [(0, .ref (ad (3 + i))), (1, .int x), (2, .int y)] := hl
  refine lv_aload_n hx hb dX3_distanceTo_0 rfl (lv_at hl 0 rfl) ?_
  refine z_getS (v := .int (τ 0 i)) hx hb hts hown in_X3_distanceTo_X3 hK hN12 hN (by omega) 0 (by decide) rfl (hts _ (List.mem_of_getElem? (i := 1) (by decide +kernel))) rfl dX3_distanceTo_1 ?_
  refine lv_iload_n hx hb dX3_distanceTo_4 rfl (lv_at hl 1 rfl) ?_
  refine lv_isub hx hb dX3_distanceTo_5 ?_
  refine lv_istore_n (lv' := [(3, .int ((τ 0 i) - x)), (0, .ref (ad (3 + i))), (1, .int x), (2, .int y)]) hx hb dX3_distanceTo_6 rfl hl (by decide) rfl (fun ls hl => ?_)
  refine lv_aload_n hx hb dX3_distanceTo_7 rfl (lv_at hl 1 rfl) ?_
  refine z_getS (v := .int (τ 1 i)) hx hb hts hown in_X3_distanceTo_X3 hK hN12 hN (by omega) 1 (by decide) rfl (hts _ (List.mem_of_getElem? (i := 2) (by decide +kernel))) rfl dX3_distanceTo_8 ?_
  refine lv_iload_n hx hb dX3_distanceTo_11 rfl (lv_at hl 3 rfl) ?_
  refine lv_isub hx hb dX3_distanceTo_12 ?_
  refine lv_istore (lv' := [(4, .int ((τ 1 i) - y)), (3, .int ((τ 0 i) - x)), (0, .ref (ad (3 + i))), (1, .int x), (2, .int y)]) hx hb dX3_distanceTo_13 hl (by decide) rfl (fun ls hl => ?_)
  refine lv_iload_n hx hb dX3_distanceTo_15 rfl (lv_at hl 1 rfl) ?_
  refine lv_iload_n hx hb dX3_distanceTo_16 rfl (lv_at hl 1 rfl) ?_
  refine lv_imul hx hb dX3_distanceTo_17 ?_
  refine lv_iload hx hb dX3_distanceTo_18 (lv_at hl 0 rfl) ?_
  refine lv_iload hx hb dX3_distanceTo_20 (lv_at hl 0 rfl) ?_
  refine lv_imul hx hb dX3_distanceTo_22 ?_
  refine lv_iadd hx hb dX3_distanceTo_23 ?_
  refine z_top (x2 := zDi (τ 0 i) (τ 1 i) x y) (by first | with_reducible rfl | (simp only [zDi, eq_self, ne_eq, not_true_eq_false, not_false_eq_true, and_true, true_and, and_self, and_false, false_and, true_or, or_true, false_or, or_false, reduceIte]; done) | (simp [zDi]; done) | rfl | (simp_all [zDi]; done)) ?_
  exact z_iret hx hb hr hlk hK hS (hN) dX3_distanceTo_24

theorem in_X3_beginRound_X3 : ∀ w ∈ wsX30, w ∈ wsX3_beginRound := by decide +kernel
set_option maxHeartbeats 4000000 in
set_option maxRecDepth 100000 in
theorem c_X3_beginRound (l : Launch) (G : zG) (A : Nat → Prop) (ad : Nat → Nat) (n N : Nat) (g : Nat → Int32) (X : va_W) (hA : zAp G ad X A) (hnN : n ≤ N) (hN12 : N ≤ 12) (τ : zT) (i : Nat) (hi : i < 12) : zMv l G A yX3_beginRound wsX3_beginRound 0 0 [.ref (ad (3 + i))] (zNA G ad n N g X τ) (zNA G ad n N g X (zBr τ i)) := by
  refine z_met (cc := cX3_beginRound) (maxL := 1) (ret := none) (by decide) rfl (Nat.le_of_ble_eq_true rfl) ?_
  intro p e s m below meth c ls S hr hlk hnm hN hK hl
  have S : CallFix p m c cX3_beginRound 1 s _ wsX3_beginRound RX3 := S
  obtain ⟨hx, hb, hml, hown, hts⟩ := id S
  have hS : va_S A s.heap s.heap [] := va_S.rf
  have hl : lv_has ls 1 [(0, .ref (ad (3 + i)))] := hl
  refine lv_aload_n hx hb dX3_beginRound_0 rfl (lv_at hl 0 rfl) ?_
  refine lv_bipush (v := -9) hx hb dX3_beginRound_1 (by decide) ?_
  refine z_putS (v := .int (-9)) (w := -9) (ty := .int) hx hb hts hown in_X3_beginRound_X3 hK hA hS hN (by omega) 7 7 (by decide) rfl (by decide) (hts _ (List.mem_of_getElem? (i := 1) (by decide +kernel))) (by decide +kernel) rfl rfl rfl (fun τ => zSet7 τ _ _) dX3_beginRound_3 (fun H locs hN hS => ?_)
  refine lv_aload_n hx hb dX3_beginRound_6 rfl (lv_at hl 0 rfl) ?_
  refine lv_bipush (v := -9) hx hb dX3_beginRound_7 (by decide) ?_
  refine z_putS (v := .int (-9)) (w := -9) (ty := .int) hx hb hts hown in_X3_beginRound_X3 hK hA hS hN (by omega) 8 8 (by decide) rfl (by decide) (hts _ (List.mem_of_getElem? (i := 2) (by decide +kernel))) (by decide +kernel) rfl rfl rfl (fun τ => zSet8 τ _ _) dX3_beginRound_9 (fun H locs hN hS => ?_)
  refine lv_aload_n hx hb dX3_beginRound_12 rfl (lv_at hl 0 rfl) ?_
  refine lv_iconst (v := 0) hx hb dX3_beginRound_13 (by decide) ?_
  refine z_putS (v := .int 0) (w := 0) (ty := .boolean) hx hb hts hown in_X3_beginRound_X3 hK hA hS hN (by omega) 9 10 (by decide) rfl (by decide) (hts _ (List.mem_of_getElem? (i := 3) (by decide +kernel))) (by decide +kernel) (by decide) (by decide) rfl (fun τ => zSet9 τ _ (by decide)) dX3_beginRound_14 (fun H locs hN hS => ?_)
  refine lv_aload_n hx hb dX3_beginRound_17 rfl (lv_at hl 0 rfl) ?_
  refine lv_iconst (v := 0) hx hb dX3_beginRound_18 (by decide) ?_
  refine z_putS (v := .int 0) (w := 0) (ty := .int) hx hb hts hown in_X3_beginRound_X3 hK hA hS hN (by omega) 10 9 (by decide) rfl (by decide) (hts _ (List.mem_of_getElem? (i := 4) (by decide +kernel))) (by decide +kernel) rfl rfl rfl (fun τ => zSet10 τ _ _) dX3_beginRound_19 (fun H locs hN hS => ?_)
  exact z_vret hx hb hr hlk hK hS (hN.cast (by first | with_reducible rfl | (simp only [zBr, eq_self, ne_eq, not_true_eq_false, not_false_eq_true, and_true, true_and, and_self, and_false, false_and, true_or, or_true, false_or, or_false, reduceIte]; done) | (simp [zBr]; done) | rfl | (simp_all [zBr]; done))) dX3_beginRound_22

theorem in_X1_has_X1 : ∀ w ∈ wsX10, w ∈ wsX1_has := by decide +kernel
set_option maxHeartbeats 4000000 in
set_option maxRecDepth 100000 in
theorem c_X1_has (l : Launch) (G : zG) (A : Nat → Prop) (ad : Nat → Nat) (n N : Nat) (g : Nat → Int32) (X : va_W) (hA : zAp G ad X A) (hnN : n ≤ N) (hN12 : N ≤ 12) (τ : zT) (x : Int32) : zMi l G A yX1_has wsX1_has 0 0 [.ref (ad 0), .int x] (zNA G ad n N g X τ) (zBi (¬ x < 0 ∧ x < nI n)) (zNA G ad n N g X τ) := by
  refine z_met (cc := cX1_has) (maxL := 2) (ret := (some .boolean)) (by decide) rfl (Nat.le_of_ble_eq_true rfl) ?_
  intro p e s m below meth c ls S hr hlk hnm hN hK hl
  have S : CallFix p m c cX1_has 2 s _ wsX1_has RX1 := S
  obtain ⟨hx, hb, hml, hown, hts⟩ := id S
  have hS : va_S A s.heap s.heap [] := va_S.rf
  have hl : lv_has ls 2 [(0, .ref (ad 0)), (1, .int x)] := hl
  refine lv_iload_n hx hb dX1_has_0 rfl (lv_at hl 1 rfl) ?_
  refine lv_if_lt (tgt := 16) hx hb dX1_has_1 (by decide) (fun c_1 => ?_) (fun c_2 => ?_)
  · skip
    refine lv_iconst (v := 0) hx hb dX1_has_16 (by decide) ?_
    refine z_top (x2 := zBi (¬ x < 0 ∧ x < nI n)) (by first | with_reducible rfl | (simp only [zBi, c_1, eq_self, ne_eq, not_true_eq_false, not_false_eq_true, and_true, true_and, and_self, and_false, false_and, true_or, or_true, false_or, or_false, reduceIte]; done) | (simp [zBi, c_1]; done) | rfl | (simp_all [zBi]; done)) ?_
    exact z_zret hx hb hr hlk zBi_nar hK hS (hN) dX1_has_17
  · skip
    refine lv_iload_n hx hb dX1_has_4 rfl (lv_at hl 1 rfl) ?_
    refine lv_aload_n hx hb dX1_has_5 rfl (lv_at hl 0 rfl) ?_
    refine z_getO (v := .int (nI n)) hx hb hts hown in_X1_has_X1 hK hN 2 (by decide) rfl (hts _ (List.mem_of_getElem? (i := 1) (by decide +kernel))) rfl dX1_has_6 ?_
    refine lv_icmp_ge (tgt := 16) hx hb dX1_has_9 (by decide) (fun c_3 => ?_) (fun c_4 => ?_)
    · skip
      have c_3 := Int32.not_lt.mpr c_3
      refine lv_iconst (v := 0) hx hb dX1_has_16 (by decide) ?_
      refine z_top (x2 := zBi (¬ x < 0 ∧ x < nI n)) (by first | with_reducible rfl | (simp only [zBi, c_2, c_3, eq_self, ne_eq, not_true_eq_false, not_false_eq_true, and_true, true_and, and_self, and_false, false_and, true_or, or_true, false_or, or_false, reduceIte]; done) | (simp [zBi, c_2, c_3]; done) | rfl | (simp_all [zBi]; done)) ?_
      exact z_zret hx hb hr hlk zBi_nar hK hS (hN) dX1_has_17
    · skip
      have c_4 := Int32.not_le.mp c_4
      refine lv_iconst (v := 1) hx hb dX1_has_12 (by decide) ?_
      refine lv_goto (tgt := 17) hx hb dX1_has_13 (by decide) ?_
      refine z_top (x2 := zBi (¬ x < 0 ∧ x < nI n)) (by first | with_reducible rfl | (simp only [zBi, c_2, c_4, eq_self, ne_eq, not_true_eq_false, not_false_eq_true, and_true, true_and, and_self, and_false, false_and, true_or, or_true, false_or, or_false, reduceIte]; done) | (simp [zBi, c_2, c_4]; done) | rfl | (simp_all [zBi]; done)) ?_
      exact z_zret hx hb hr hlk zBi_nar hK hS (hN) dX1_has_17

theorem in_X1_phase_X1 : ∀ w ∈ wsX10, w ∈ wsX1_phase := by decide +kernel
set_option maxHeartbeats 4000000 in
set_option maxRecDepth 100000 in
theorem c_X1_phase (l : Launch) (G : zG) (A : Nat → Prop) (ad : Nat → Nat) (n N : Nat) (g : Nat → Int32) (X : va_W) (hA : zAp G ad X A) (hnN : n ≤ N) (hN12 : N ≤ 12) (hd3 : 0 < g 3) (τ : zT) : zMi l G A yX1_phase wsX1_phase 0 0 [.ref (ad 0)] (zNA G ad n N g X τ) (zPh g τ) (zNA G ad n N g X τ) := by
  refine z_met (cc := cX1_phase) (maxL := 2) (ret := (some .int)) (by decide) rfl (Nat.le_of_ble_eq_true rfl) ?_
  intro p e s m below meth c ls S hr hlk hnm hN hK hl
  have S : CallFix p m c cX1_phase 2 s _ wsX1_phase RX1 := S
  obtain ⟨hx, hb, hml, hown, hts⟩ := id S
  have hS : va_S A s.heap s.heap [] := va_S.rf
  have hl : lv_has ls 2 [(0, .ref (ad 0))] := hl
  refine lv_aload_n hx hb dX1_phase_0 rfl (lv_at hl 0 rfl) ?_
  refine z_getO (v := .ref (ad 2)) hx hb hts hown in_X1_phase_X1 hK hN 1 (by decide) rfl (hts _ (List.mem_of_getElem? (i := 1) (by decide +kernel))) rfl dX1_phase_1 ?_
  refine lv_iconst (v := 0) hx hb dX1_phase_4 (by decide) ?_
  refine z_iald (w := g 3) hx hb hK hN 0 (by decide) (by decide) rfl dX1_phase_5 ?_
  refine lv_istore_n (lv' := [(1, .int (g 3)), (0, .ref (ad 0))]) hx hb dX1_phase_6 rfl hl (by decide) rfl (fun ls hl => ?_)
  refine lv_iload_n hx hb dX1_phase_7 rfl (lv_at hl 0 rfl) ?_
  refine lv_if_le (tgt := 20) hx hb dX1_phase_8 (by decide) (fun c_1 => ?_) (fun c_2 => ?_)
  · skip
    have c_1 := Int32.not_lt.mpr c_1
    exact absurd hd3 c_1
  · skip
    have c_2 := Int32.not_le.mp c_2
    refine lv_aload_n hx hb dX1_phase_11 rfl (lv_at hl 1 rfl) ?_
    refine z_getO (v := .int (τ 11 10)) hx hb hts hown in_X1_phase_X1 hK hN 6 (by decide) rfl (hts _ (List.mem_of_getElem? (i := 2) (by decide +kernel))) rfl dX1_phase_12 ?_
    refine lv_iload_n hx hb dX1_phase_15 rfl (lv_at hl 0 rfl) ?_
    refine lv_irem hx hb dX1_phase_16 (fun q => absurd hd3 (by rw [q]; decide)) ?_
    refine lv_goto (tgt := 21) hx hb dX1_phase_17 (by decide) ?_
    refine z_top (x2 := zPh g τ) (by first | with_reducible rfl | (simp only [zPh, c_2, eq_self, ne_eq, not_true_eq_false, not_false_eq_true, and_true, true_and, and_self, and_false, false_and, true_or, or_true, false_or, or_false, reduceIte]; done) | (simp [zPh, c_2]; done) | rfl | (simp_all [zPh]; done)) ?_
    exact z_iret hx hb hr hlk hK hS (hN) dX1_phase_21

theorem in_X1_costOver_X1 : ∀ w ∈ wsX10, w ∈ wsX1_costOver := by decide +kernel
set_option maxHeartbeats 4000000 in
set_option maxRecDepth 100000 in
theorem c_X1_costOver (l : Launch) (G : zG) (A : Nat → Prop) (ad : Nat → Nat) (n N : Nat) (g : Nat → Int32) (X : va_W) (hA : zAp G ad X A) (hnN : n ≤ N) (hN12 : N ≤ 12) (hd5 : 0 < g 5) (τ : zT) (d : Int32) : zMi l G A yX1_costOver wsX1_costOver 0 0 [.ref (ad 0), .int d] (zNA G ad n N g X τ) (zCo g d) (zNA G ad n N g X τ) := by
  refine z_met (cc := cX1_costOver) (maxL := 3) (ret := (some .int)) (by decide) rfl (Nat.le_of_ble_eq_true rfl) ?_
  intro p e s m below meth c ls S hr hlk hnm hN hK hl
  have S : CallFix p m c cX1_costOver 3 s _ wsX1_costOver RX1 := S
  obtain ⟨hx, hb, hml, hown, hts⟩ := id S
  have hS : va_S A s.heap s.heap [] := va_S.rf
  have hl : lv_has ls 3 [(0, .ref (ad 0)), (1, .int d)] := hl
  refine lv_aload_n hx hb dX1_costOver_0 rfl (lv_at hl 0 rfl) ?_
  refine z_getO (v := .ref (ad 2)) hx hb hts hown in_X1_costOver_X1 hK hN 1 (by decide) rfl (hts _ (List.mem_of_getElem? (i := 1) (by decide +kernel))) rfl dX1_costOver_1 ?_
  refine lv_iconst (v := 2) hx hb dX1_costOver_4 (by decide) ?_
  refine z_iald (w := g 5) hx hb hK hN 2 (by decide) (by decide) rfl dX1_costOver_5 ?_
  refine lv_istore_n (lv' := [(2, .int (g 5)), (0, .ref (ad 0)), (1, .int d)]) hx hb dX1_costOver_6 rfl hl (by decide) rfl (fun ls hl => ?_)
  refine lv_aload_n hx hb dX1_costOver_7 rfl (lv_at hl 1 rfl) ?_
  refine z_getO (v := .ref (ad 2)) hx hb hts hown in_X1_costOver_X1 hK hN 1 (by decide) rfl (hts _ (List.mem_of_getElem? (i := 1) (by decide +kernel))) rfl dX1_costOver_8 ?_
  refine lv_iconst (v := 1) hx hb dX1_costOver_11 (by decide) ?_
  refine z_iald (w := g 4) hx hb hK hN 1 (by decide) (by decide) rfl dX1_costOver_12 ?_
  refine lv_iload_n hx hb dX1_costOver_13 rfl (lv_at hl 0 rfl) ?_
  refine lv_if_le (tgt := 23) hx hb dX1_costOver_14 (by decide) (fun c_1 => ?_) (fun c_2 => ?_)
  · skip
    have c_1 := Int32.not_lt.mpr c_1
    exact absurd hd5 c_1
  · skip
    have c_2 := Int32.not_le.mp c_2
    refine lv_iload_n hx hb dX1_costOver_17 rfl (lv_at hl 2 rfl) ?_
    refine lv_iload_n hx hb dX1_costOver_18 rfl (lv_at hl 0 rfl) ?_
    refine lv_idiv hx hb dX1_costOver_19 (fun q => absurd hd5 (by rw [q]; decide)) ?_
    refine lv_goto (tgt := 24) hx hb dX1_costOver_20 (by decide) ?_
    refine lv_iadd hx hb dX1_costOver_24 ?_
    refine z_top (x2 := zCo g d) (by first | with_reducible rfl | (simp only [zCo, c_2, eq_self, ne_eq, not_true_eq_false, not_false_eq_true, and_true, true_and, and_self, and_false, false_and, true_or, or_true, false_or, or_false, reduceIte]; done) | (simp [zCo, c_2]; done) | rfl | (simp_all [zCo]; done)) ?_
    exact z_iret hx hb hr hlk hK hS (hN) dX1_costOver_25

theorem in_X1_countAlive_X1 : ∀ w ∈ wsX10, w ∈ wsX1_countAlive := by decide +kernel
theorem in_X1_countAlive_X3 : ∀ w ∈ wsX30, w ∈ wsX1_countAlive := by decide +kernel
set_option maxHeartbeats 4000000 in
set_option maxRecDepth 100000 in
theorem c_X1_countAlive (l : Launch) (G : zG) (A : Nat → Prop) (ad : Nat → Nat) (n N : Nat) (g : Nat → Int32) (X : va_W) (hA : zAp G ad X A) (hnN : n ≤ N) (hN12 : N ≤ 12) (τ : zT) : zMi l G A yX1_countAlive wsX1_countAlive 0 0 [.ref (ad 0)] (zNA G ad n N g X τ) (zCa n τ) (zNA G ad n N g X τ) := by
  refine z_met (cc := cX1_countAlive) (maxL := 3) (ret := (some .int)) (by decide) rfl (Nat.le_of_ble_eq_true rfl) ?_
  intro p e s m below meth c ls S hr hlk hnm hN hK hl
  have S : CallFix p m c cX1_countAlive 3 s _ wsX1_countAlive RX1 := S
  obtain ⟨hx, hb, hml, hown, hts⟩ := id S
  have hS : va_S A s.heap s.heap [] := va_S.rf
  have hl : lv_has ls 3 [(0, .ref (ad 0))] := hl
  refine lv_iconst (v := 0) hx hb dX1_countAlive_0 (by decide) ?_
  refine lv_istore_n (lv' := [(1, .int 0), (0, .ref (ad 0))]) hx hb dX1_countAlive_1 rfl hl (by decide) rfl (fun ls hl => ?_)
  refine lv_iconst (v := 0) hx hb dX1_countAlive_2 (by decide) ?_
  refine lv_istore_n (lv' := [(2, .int 0), (1, .int 0), (0, .ref (ad 0))]) hx hb dX1_countAlive_3 rfl hl (by decide) rfl (fun ls hl => ?_)
  have loop1 : ∀ (f1 k : Nat) (H : Heap) (locs : List Loc) (ls : Array Slot), k ≤ n → n < k + f1 → zNA G ad n N g X τ H → va_S A s.heap H locs → lv_has ls 3 [(2, .int (nI k)), (1, .int (zIt (zCaS τ) k (0 : Int32))), (0, .ref (ad 0))] → W p l e ({ frames := 0, cells := 0, slots := 0, locals := 0 } : Room) s m ([.ref (ad 0)] : List Value).toArray below meth c H locs 0 0 (MQ below (zQi G (zCa n τ) (zNA G ad n N g X τ) A) ([.ref (ad 0)] : List Value).toArray s 0 0 A) (F0 m 4 ls []) := by
    intro f1
    induction f1 with
    | zero => intro k H locs ls h1 h2; exact absurd h2 (by omega)
    | succ f1 ih1 =>
      intro k H locs ls hk1 hf1 hN hS hl
      generalize hF_v : zIt (zCaS τ) k (0 : Int32) = v at hN hl 
      refine lv_iload_n hx hb dX1_countAlive_4 rfl (lv_at hl 0 rfl) ?_
      refine lv_aload_n hx hb dX1_countAlive_5 rfl (lv_at hl 2 rfl) ?_
      refine z_getO (v := .int (nI n)) hx hb hts hown in_X1_countAlive_X1 hK hN 2 (by decide) rfl (hts _ (List.mem_of_getElem? (i := 1) (by decide +kernel))) rfl dX1_countAlive_6 ?_
      refine lv_icmp_ge (tgt := 33) hx hb dX1_countAlive_9 (by decide) (fun c_1 => ?_) (fun c_2 => ?_)
      · skip
        have c_1 := (z_leI (a := n) (b := k) (by omega) (by omega)).mp c_1
        have hkn1 : k = n := by omega
        rw [hkn1] at hF_v
        subst hF_v
        refine lv_iload_n hx hb dX1_countAlive_33 rfl (lv_at hl 1 rfl) ?_
        refine z_top (x2 := zCa n τ) (by first | with_reducible rfl | (simp only [zCa, c_1, eq_self, ne_eq, not_true_eq_false, not_false_eq_true, and_true, true_and, and_self, and_false, false_and, true_or, or_true, false_or, or_false, reduceIte]; done) | (simp [zCa, c_1]; done) | rfl | (simp_all [zCa]; done)) ?_
        exact z_iret hx hb hr hlk hK hS (hN) dX1_countAlive_34
      · skip
        have c_2 := (not_congr (z_leI (a := n) (b := k) (by omega) (by omega))).mp c_2
        refine lv_aload_n hx hb dX1_countAlive_12 rfl (lv_at hl 2 rfl) ?_
        refine z_getO (v := .ref (ad 1)) hx hb hts hown in_X1_countAlive_X1 hK hN 0 (by decide) rfl (hts _ (List.mem_of_getElem? (i := 2) (by decide +kernel))) rfl dX1_countAlive_13 ?_
        refine lv_iload_n hx hb dX1_countAlive_16 rfl (lv_at hl 0 rfl) ?_
        refine z_aald (i := k) hx hb hK hN rfl (by omega) dX1_countAlive_17 ?_
        refine z_getS (v := .int (zBi (τ 3 k = 1))) hx hb hts hown in_X1_countAlive_X3 hK hN12 hN (by omega) 3 (by decide) rfl (hts _ (List.mem_of_getElem? (i := 3) (by decide +kernel))) rfl dX1_countAlive_18 ?_
        refine lv_if_eq (tgt := 27) hx hb dX1_countAlive_21 (by decide) (fun c_3 => ?_) (fun c_4 => ?_)
        · skip
          have c_3 := zBi_0.mp c_3
          refine lv_iinc (v := nI (k + 1)) (lv' := [(2, .int (nI (k + 1))), (1, .int v), (0, .ref (ad 0))]) hx hb dX1_countAlive_27 hl (k := 0) rfl (nI_1 _) (by decide) rfl (fun ls hl => ?_)
          refine lv_goto (tgt := 4) hx hb dX1_countAlive_30 (by decide) ?_
          have e_5 : zIt (zCaS τ) (k + 1) (0 : Int32) = v := by
            rw [zIt_s, hF_v]
            first | with_reducible rfl | (simp only [zCaS, c_2, c_3, eq_self, ne_eq, not_true_eq_false, not_false_eq_true, and_true, true_and, and_self, and_false, false_and, true_or, or_true, false_or, or_false, reduceIte]; done) | (simp [zCaS, c_2, c_3]; done) | rfl | (simp_all [zCaS]; done)
          refine ih1 (k + 1) _ _ _ (by omega) (by omega) ?_ hS ?_
          · first | exact hN | (rw [e_5]; exact hN)
          · first | exact lv_sub hl [0, 1, 2] rfl | (rw [e_5]; exact lv_sub hl [0, 1, 2] rfl)
        · skip
          have c_4 := zBi_n0.mp c_4
          refine lv_iinc (v := v + 1) (lv' := [(1, .int (v + 1)), (2, .int (nI k)), (0, .ref (ad 0))]) hx hb dX1_countAlive_24 hl (k := 1) rfl rfl (by decide) rfl (fun ls hl => ?_)
          refine lv_iinc (v := nI (k + 1)) (lv' := [(2, .int (nI (k + 1))), (1, .int (v + 1)), (0, .ref (ad 0))]) hx hb dX1_countAlive_27 hl (k := 1) rfl (nI_1 _) (by decide) rfl (fun ls hl => ?_)
          refine lv_goto (tgt := 4) hx hb dX1_countAlive_30 (by decide) ?_
          have e_6 : zIt (zCaS τ) (k + 1) (0 : Int32) = v + 1 := by
            rw [zIt_s, hF_v]
            first | with_reducible rfl | (simp only [zCaS, c_2, c_4, eq_self, ne_eq, not_true_eq_false, not_false_eq_true, and_true, true_and, and_self, and_false, false_and, true_or, or_true, false_or, or_false, reduceIte]; done) | (simp [zCaS, c_2, c_4]; done) | rfl | (simp_all [zCaS]; done)
          refine ih1 (k + 1) _ _ _ (by omega) (by omega) ?_ hS ?_
          · first | exact hN | (rw [e_6]; exact hN)
          · first | exact lv_sub hl [0, 1, 2] rfl | (rw [e_6]; exact lv_sub hl [0, 1, 2] rfl)
  exact loop1 (n + 1) 0 _ _ _ (by omega) (by omega) hN hS (lv_sub hl [0, 1, 2] rfl)

theorem in_X2_pays_X1 : ∀ w ∈ wsX10, w ∈ wsX2_pays := by decide +kernel
theorem in_X2_pays_X2 : ∀ w ∈ wsX20, w ∈ wsX2_pays := by decide +kernel
theorem in_X2_pays_X3 : ∀ w ∈ wsX30, w ∈ wsX2_pays := by decide +kernel
set_option maxHeartbeats 4000000 in
set_option maxRecDepth 100000 in
theorem c_X2_pays (l : Launch) (G : zG) (A : Nat → Prop) (ad : Nat → Nat) (n N : Nat) (g : Nat → Int32) (r : Nat) (hA : zAp G ad (zX r ad) A) (hnN : n ≤ N) (hN12 : N ≤ 12) (τ : zT) (i : Nat) (hi : i < N) (d : Int32) : zMi l G A yX2_pays wsX2_pays 0 0 [.ref r, .ref (ad (3 + i)), .int d] (zNA G ad n N g (zX r ad) τ) (zBi (¬ τ 2 i < d)) (zNA G ad n N g (zX r ad) (zPay τ i d)) := by
  refine z_met (cc := cX2_pays) (maxL := 3) (ret := (some .boolean)) (by decide) rfl (Nat.le_of_ble_eq_true rfl) ?_
  intro p e s m below meth c ls S hr hlk hnm hN hK hl
  have S : CallFix p m c cX2_pays 3 s _ wsX2_pays RX2 := S
  obtain ⟨hx, hb, hml, hown, hts⟩ := id S
  have hS : va_S A s.heap s.heap [] := va_S.rf
  have hl : lv_has ls 3 [(0, .ref r), (1, .ref (ad (3 + i))), (2, .int d)] := hl
  refine lv_aload_n hx hb dX2_pays_0 rfl (lv_at hl 1 rfl) ?_
  refine z_getS (v := .int (τ 2 i)) hx hb hts hown in_X2_pays_X3 hK hN12 hN (by omega) 2 (by decide) rfl (hts _ (List.mem_of_getElem? (i := 1) (by decide +kernel))) rfl dX2_pays_1 ?_
  refine lv_iload_n hx hb dX2_pays_4 rfl (lv_at hl 2 rfl) ?_
  refine lv_icmp_ge (tgt := 26) hx hb dX2_pays_5 (by decide) (fun c_1 => ?_) (fun c_2 => ?_)
  · skip
    have c_1 := Int32.not_lt.mpr c_1
    refine lv_aload_n hx hb dX2_pays_26 rfl (lv_at hl 1 rfl) ?_
    refine lv_dup hx hb dX2_pays_27 rfl ?_
    refine z_getS (v := .int (τ 2 i)) hx hb hts hown in_X2_pays_X3 hK hN12 hN (by omega) 2 (by decide) rfl (hts _ (List.mem_of_getElem? (i := 1) (by decide +kernel))) rfl dX2_pays_28 ?_
    refine lv_iload_n hx hb dX2_pays_31 rfl (lv_at hl 2 rfl) ?_
    refine lv_isub hx hb dX2_pays_32 ?_
    refine z_putS (v := .int ((τ 2 i) - d)) (w := (τ 2 i) - d) (ty := .int) hx hb hts hown in_X2_pays_X3 hK hA hS hN (by omega) 2 2 (by decide) rfl (by decide) (hts _ (List.mem_of_getElem? (i := 1) (by decide +kernel))) (by decide +kernel) rfl rfl rfl (fun τ => zSet2 τ _ _) dX2_pays_33 (fun H locs hN hS => ?_)
    refine lv_aload_n hx hb dX2_pays_36 rfl (lv_at hl 0 rfl) ?_
    refine z_getR hx hb hts hown in_X2_pays_X2 hK hN (hts _ (List.mem_of_getElem? (i := 3) (by decide +kernel))) dX2_pays_37 ?_
    refine lv_dup hx hb dX2_pays_40 rfl ?_
    refine z_getO (v := .int (τ 11 14)) hx hb hts hown in_X2_pays_X1 hK hN 10 (by decide) rfl (hts _ (List.mem_of_getElem? (i := 6) (by decide +kernel))) rfl dX2_pays_41 ?_
    refine lv_iload_n hx hb dX2_pays_44 rfl (lv_at hl 2 rfl) ?_
    refine lv_iadd hx hb dX2_pays_45 ?_
    refine z_putO (w := (τ 11 14) + d) hx hb hts hown in_X2_pays_X1 hK hA hS hN 10 14 (by decide) rfl (hts _ (List.mem_of_getElem? (i := 6) (by decide +kernel))) (by decide +kernel) rfl (fun τ => zObs10 ad n g τ _) dX2_pays_46 (fun H locs hN hS => ?_)
    refine lv_iconst (v := 1) hx hb dX2_pays_49 (by decide) ?_
    refine z_top (x2 := zBi (¬ τ 2 i < d)) (by first | with_reducible rfl | (simp only [zPay, zPd, zDie, zBi, c_1, eq_self, ne_eq, not_true_eq_false, not_false_eq_true, and_true, true_and, and_self, and_false, false_and, true_or, or_true, false_or, or_false, reduceIte]; done) | (simp [zPay, zPd, zDie, zBi, c_1]; done) | rfl | (simp_all [zPay, zPd, zDie, zBi]; done)) ?_
    exact z_zret hx hb hr hlk zBi_nar hK hS (hN.cast (by first | with_reducible rfl | (simp only [zPay, zPd, zDie, zBi, c_1, eq_self, ne_eq, not_true_eq_false, not_false_eq_true, and_true, true_and, and_self, and_false, false_and, true_or, or_true, false_or, or_false, reduceIte]; done) | (simp [zPay, zPd, zDie, zBi, c_1]; done) | rfl | (simp_all [zPay, zPd, zDie, zBi]; done))) dX2_pays_50
  · skip
    have c_2 := Int32.not_le.mp c_2
    refine lv_aload_n hx hb dX2_pays_8 rfl (lv_at hl 1 rfl) ?_
    refine lv_iconst (v := 0) hx hb dX2_pays_9 (by decide) ?_
    refine z_putS (v := .int 0) (w := 0) (ty := .boolean) hx hb hts hown in_X2_pays_X3 hK hA hS hN (by omega) 3 3 (by decide) rfl (by decide) (hts _ (List.mem_of_getElem? (i := 2) (by decide +kernel))) (by decide +kernel) (by decide) (by decide) rfl (fun τ => zSet3 τ _ (by decide)) dX2_pays_10 (fun H locs hN hS => ?_)
    refine lv_aload_n hx hb dX2_pays_13 rfl (lv_at hl 1 rfl) ?_
    refine lv_aload_n hx hb dX2_pays_14 rfl (lv_at hl 0 rfl) ?_
    refine z_getR hx hb hts hown in_X2_pays_X2 hK hN (hts _ (List.mem_of_getElem? (i := 3) (by decide +kernel))) dX2_pays_15 ?_
    refine z_getO (v := .int (τ 11 10)) hx hb hts hown in_X2_pays_X1 hK hN 6 (by decide) rfl (hts _ (List.mem_of_getElem? (i := 4) (by decide +kernel))) rfl dX2_pays_18 ?_
    refine z_putS (v := .int (τ 11 10)) (w := τ 11 10) (ty := .int) hx hb hts hown in_X2_pays_X3 hK hA hS hN (by omega) 6 6 (by decide) rfl (by decide) (hts _ (List.mem_of_getElem? (i := 5) (by decide +kernel))) (by decide +kernel) rfl rfl rfl (fun τ => zSet6 τ _ _) dX2_pays_21 (fun H locs hN hS => ?_)
    refine lv_iconst (v := 0) hx hb dX2_pays_24 (by decide) ?_
    refine z_top (x2 := zBi (¬ τ 2 i < d)) (by first | with_reducible rfl | (simp only [zPay, zPd, zDie, zBi, c_2, eq_self, ne_eq, not_true_eq_false, not_false_eq_true, and_true, true_and, and_self, and_false, false_and, true_or, or_true, false_or, or_false, reduceIte]; done) | (simp [zPay, zPd, zDie, zBi, c_2]; done) | rfl | (simp_all [zPay, zPd, zDie, zBi]; done)) ?_
    exact z_zret hx hb hr hlk zBi_nar hK hS (hN.cast (by first | with_reducible rfl | (simp only [zPay, zPd, zDie, zBi, c_2, eq_self, ne_eq, not_true_eq_false, not_false_eq_true, and_true, true_and, and_self, and_false, false_and, true_or, or_true, false_or, or_false, reduceIte]; done) | (simp [zPay, zPd, zDie, zBi, c_2]; done) | rfl | (simp_all [zPay, zPd, zDie, zBi]; done))) dX2_pays_25

theorem in_X2_begin_X1 : ∀ w ∈ wsX10, w ∈ wsX2_begin := by decide +kernel
theorem in_X2_begin_X2 : ∀ w ∈ wsX20, w ∈ wsX2_begin := by decide +kernel
theorem in_X2_begin_X3 : ∀ w ∈ wsX30, w ∈ wsX2_begin := by decide +kernel
set_option maxHeartbeats 4000000 in
set_option maxRecDepth 100000 in
theorem c_X2_begin (l : Launch) (G : zG) (A : Nat → Prop) (ad : Nat → Nat) (n N : Nat) (g : Nat → Int32) (r : Nat) (hA : zAp G ad (zX r ad) A) (hnN : n ≤ N) (hN12 : N ≤ 12) (hd3 : 0 < g 3) (τ : zT) : zMv l G A yX2_begin wsX2_begin 1 21 [.ref r] (zNA G ad n N g (zX r ad) τ) (zNA G ad n N g (zX r ad) (zBg n g τ)) := by
  refine z_met (cc := cX2_begin) (maxL := 4) (ret := none) (by decide) rfl (Nat.le_of_ble_eq_true rfl) ?_
  intro p e s m below meth c ls S hr hlk hnm hN hK hl
  have S : CallFix p m c cX2_begin 4 s _ wsX2_begin RX2 := S
  obtain ⟨hx, hb, hml, hown, hts⟩ := id S
  have hS : va_S A s.heap s.heap [] := va_S.rf
  have hl : lv_has ls 4 [(0, .ref r)] := hl
  refine lv_aload_n hx hb dX2_begin_0 rfl (lv_at hl 0 rfl) ?_
  refine z_getR hx hb hts hown in_X2_begin_X2 hK hN (hts _ (List.mem_of_getElem? (i := 1) (by decide +kernel))) dX2_begin_1 ?_
  refine z_vi (As := []) (rest := []) (P2 := zNA G ad n N g (zX r ad) τ) (r := zPh g τ) S (c_X1_phase l G A ad n N g (zX r ad) hA hnN hN12 hd3 τ ) (cwV 0 hts gX2_begin_X1_phase rfl rfl rfl (by decide +kernel) ⟨Nat.le_of_ble_eq_true rfl, Nat.le_of_ble_eq_true rfl⟩) (z_recN hK hN) hN hK hS (fun _ _ h => h) (fun _ h => h) hl.1 rfl rfl (Nat.le_of_ble_eq_true rfl) dX2_begin_4 ⟨Nat.le_refl _, Nat.le_refl _⟩ (fun H locs hN hS _ => ?_)
  refine lv_if_ne (tgt := 14) hx hb dX2_begin_7 (by decide) (fun c_1 => ?_) (fun c_2 => ?_)
  · skip
    refine lv_iconst (v := 0) hx hb dX2_begin_14 (by decide) ?_
    refine lv_istore_n (lv' := [(1, .int 0), (0, .ref r)]) hx hb dX2_begin_15 rfl hl (by decide) rfl (fun ls hl => ?_)
    refine lv_iconst (v := 0) hx hb dX2_begin_16 (by decide) ?_
    refine lv_istore_n (lv' := [(2, .int 0), (1, .int 0), (0, .ref r)]) hx hb dX2_begin_17 rfl hl (by decide) rfl (fun ls hl => ?_)
    have loop1 : ∀ (f1 k : Nat) (H : Heap) (locs : List Loc) (ls : Array Slot), k ≤ n → n < k + f1 → zNA G ad n N g (zX r ad) (zIt (zBgC (zPh g τ)) k τ) H → va_S A s.heap H locs → lv_has ls 4 [(2, .int (nI k)), (1, .int 0), (0, .ref r)] → W p l e ({ frames := 1, cells := 0, slots := 0, locals := 21 } : Room) s m ([.ref r] : List Value).toArray below meth c H locs 0 0 (MQ below (zQv G (zNA G ad n N g (zX r ad) (zBg n g τ)) A) ([.ref r] : List Value).toArray s 0 0 A) (F0 m 18 ls []) := by
      intro f1
      induction f1 with
      | zero => intro k H locs ls h1 h2; exact absurd h2 (by omega)
      | succ f1 ih1 =>
        intro k H locs ls hk1 hf1 hN hS hl
        generalize hF_τk : zIt (zBgC (zPh g τ)) k τ = τk at hN hl 
        refine lv_iload_n hx hb dX2_begin_18 rfl (lv_at hl 0 rfl) ?_
        refine lv_aload_n hx hb dX2_begin_19 rfl (lv_at hl 2 rfl) ?_
        refine z_getR hx hb hts hown in_X2_begin_X2 hK hN (hts _ (List.mem_of_getElem? (i := 1) (by decide +kernel))) dX2_begin_20 ?_
        refine z_getO (v := .int (nI n)) hx hb hts hown in_X2_begin_X1 hK hN 2 (by decide) rfl (hts _ (List.mem_of_getElem? (i := 2) (by decide +kernel))) rfl dX2_begin_23 ?_
        refine lv_icmp_ge (tgt := 58) hx hb dX2_begin_26 (by decide) (fun c_3 => ?_) (fun c_4 => ?_)
        · skip
          have c_3 := (z_leI (a := n) (b := k) (by omega) (by omega)).mp c_3
          have hkn1 : k = n := by omega
          rw [hkn1] at hF_τk
          subst hF_τk
          refine lv_aload_n hx hb dX2_begin_58 rfl (lv_at hl 2 rfl) ?_
          refine z_getR hx hb hts hown in_X2_begin_X2 hK hN (hts _ (List.mem_of_getElem? (i := 1) (by decide +kernel))) dX2_begin_59 ?_
          refine lv_iconst (v := 0) hx hb dX2_begin_62 (by decide) ?_
          refine z_putO (w := 0) hx hb hts hown in_X2_begin_X1 hK hA hS hN 7 11 (by decide) rfl (hts _ (List.mem_of_getElem? (i := 5) (by decide +kernel))) (by decide +kernel) rfl (fun τ => zObs7 ad n g τ _) dX2_begin_63 (fun H locs hN hS => ?_)
          refine lv_aload_n hx hb dX2_begin_66 rfl (lv_at hl 2 rfl) ?_
          refine z_getR hx hb hts hown in_X2_begin_X2 hK hN (hts _ (List.mem_of_getElem? (i := 1) (by decide +kernel))) dX2_begin_67 ?_
          refine lv_iconst (v := 0) hx hb dX2_begin_70 (by decide) ?_
          refine z_putO (w := 0) hx hb hts hown in_X2_begin_X1 hK hA hS hN 8 12 (by decide) rfl (hts _ (List.mem_of_getElem? (i := 6) (by decide +kernel))) (by decide +kernel) rfl (fun τ => zObs8 ad n g τ _) dX2_begin_71 (fun H locs hN hS => ?_)
          exact z_vret hx hb hr hlk hK hS (hN.cast (by first | with_reducible rfl | (simp only [zBg, c_1, c_3, eq_self, ne_eq, not_true_eq_false, not_false_eq_true, and_true, true_and, and_self, and_false, false_and, true_or, or_true, false_or, or_false, reduceIte]; done) | (simp [zBg, c_1, c_3]; done) | rfl | (simp_all [zBg]; done))) dX2_begin_74
        · skip
          have c_4 := (not_congr (z_leI (a := n) (b := k) (by omega) (by omega))).mp c_4
          refine lv_aload_n hx hb dX2_begin_29 rfl (lv_at hl 2 rfl) ?_
          refine z_getR hx hb hts hown in_X2_begin_X2 hK hN (hts _ (List.mem_of_getElem? (i := 1) (by decide +kernel))) dX2_begin_30 ?_
          refine z_getO (v := .ref (ad 1)) hx hb hts hown in_X2_begin_X1 hK hN 0 (by decide) rfl (hts _ (List.mem_of_getElem? (i := 3) (by decide +kernel))) rfl dX2_begin_33 ?_
          refine lv_iload_n hx hb dX2_begin_36 rfl (lv_at hl 0 rfl) ?_
          refine z_aald (i := k) hx hb hK hN rfl (by omega) dX2_begin_37 ?_
          refine lv_astore_n (lv' := [(3, .ref (ad (3 + k))), (2, .int (nI k)), (1, .int 0), (0, .ref r)]) hx hb dX2_begin_38 rfl hl (by decide) rfl (fun ls hl => ?_)
          refine lv_aload_n hx hb dX2_begin_39 rfl (lv_at hl 0 rfl) ?_
          refine z_vv (As := []) (rest := []) (P2 := zNA G ad n N g (zX r ad) (zBr τk k)) S (c_X3_beginRound l G A ad n N g (zX r ad) hA hnN hN12  τk k (by omega)) (cwV 0 hts gX2_begin_X3_beginRound rfl rfl rfl (by decide +kernel) ⟨Nat.le_of_ble_eq_true rfl, Nat.le_of_ble_eq_true rfl⟩) (z_recS hK hN (by omega)) hN hK hS (fun _ _ h => h) (fun _ h => h) hl.1 rfl rfl (Nat.le_of_ble_eq_true rfl) dX2_begin_40 ⟨Nat.le_refl _, Nat.le_refl _⟩ (fun H locs hN hS _ => ?_)
          refine lv_iload_n hx hb dX2_begin_43 rfl (lv_at hl 2 rfl) ?_
          refine lv_if_eq (tgt := 52) hx hb dX2_begin_44 (by decide) (fun _ => ?_) (fun q => absurd (by decide) q)
          refine lv_iinc (v := nI (k + 1)) (lv' := [(2, .int (nI (k + 1))), (3, .ref (ad (3 + k))), (1, .int 0), (0, .ref r)]) hx hb dX2_begin_52 hl (k := 1) rfl (nI_1 _) (by decide) rfl (fun ls hl => ?_)
          refine lv_goto (tgt := 18) hx hb dX2_begin_55 (by decide) ?_
          have e_5 : zIt (zBgC (zPh g τ)) (k + 1) τ = zBr τk k := by
            rw [zIt_s, hF_τk]
            first | with_reducible rfl | (simp only [zBgC, c_1, c_4, eq_self, ne_eq, not_true_eq_false, not_false_eq_true, and_true, true_and, and_self, and_false, false_and, true_or, or_true, false_or, or_false, reduceIte]; done) | (simp [zBgC, c_1, c_4]; done) | rfl | (simp_all [zBgC]; done)
          refine ih1 (k + 1) _ _ _ (by omega) (by omega) ?_ hS ?_
          · first | exact hN | (rw [e_5]; exact hN)
          · first | exact lv_sub hl [0, 2, 3] rfl | (rw [e_5]; exact lv_sub hl [0, 2, 3] rfl)
    exact loop1 (n + 1) 0 _ _ _ (by omega) (by omega) hN hS (lv_sub hl [0, 1, 2] rfl)
  · skip
    refine lv_iconst (v := 1) hx hb dX2_begin_10 (by decide) ?_
    refine lv_goto (tgt := 15) hx hb dX2_begin_11 (by decide) ?_
    refine lv_istore_n (lv' := [(1, .int 1), (0, .ref r)]) hx hb dX2_begin_15 rfl hl (by decide) rfl (fun ls hl => ?_)
    refine lv_iconst (v := 0) hx hb dX2_begin_16 (by decide) ?_
    refine lv_istore_n (lv' := [(2, .int 0), (1, .int 1), (0, .ref r)]) hx hb dX2_begin_17 rfl hl (by decide) rfl (fun ls hl => ?_)
    have loop2 : ∀ (f2 k : Nat) (H : Heap) (locs : List Loc) (ls : Array Slot), k ≤ n → n < k + f2 → zNA G ad n N g (zX r ad) (zIt (zBgC (zPh g τ)) k τ) H → va_S A s.heap H locs → lv_has ls 4 [(2, .int (nI k)), (1, .int 1), (0, .ref r)] → W p l e ({ frames := 1, cells := 0, slots := 0, locals := 21 } : Room) s m ([.ref r] : List Value).toArray below meth c H locs 0 0 (MQ below (zQv G (zNA G ad n N g (zX r ad) (zBg n g τ)) A) ([.ref r] : List Value).toArray s 0 0 A) (F0 m 18 ls []) := by
      intro f2
      induction f2 with
      | zero => intro k H locs ls h1 h2; exact absurd h2 (by omega)
      | succ f2 ih2 =>
        intro k H locs ls hk2 hf2 hN hS hl
        generalize hF_τk : zIt (zBgC (zPh g τ)) k τ = τk at hN hl 
        refine lv_iload_n hx hb dX2_begin_18 rfl (lv_at hl 0 rfl) ?_
        refine lv_aload_n hx hb dX2_begin_19 rfl (lv_at hl 2 rfl) ?_
        refine z_getR hx hb hts hown in_X2_begin_X2 hK hN (hts _ (List.mem_of_getElem? (i := 1) (by decide +kernel))) dX2_begin_20 ?_
        refine z_getO (v := .int (nI n)) hx hb hts hown in_X2_begin_X1 hK hN 2 (by decide) rfl (hts _ (List.mem_of_getElem? (i := 2) (by decide +kernel))) rfl dX2_begin_23 ?_
        refine lv_icmp_ge (tgt := 58) hx hb dX2_begin_26 (by decide) (fun c_6 => ?_) (fun c_7 => ?_)
        · skip
          have c_6 := (z_leI (a := n) (b := k) (by omega) (by omega)).mp c_6
          have hkn2 : k = n := by omega
          rw [hkn2] at hF_τk
          subst hF_τk
          refine lv_aload_n hx hb dX2_begin_58 rfl (lv_at hl 2 rfl) ?_
          refine z_getR hx hb hts hown in_X2_begin_X2 hK hN (hts _ (List.mem_of_getElem? (i := 1) (by decide +kernel))) dX2_begin_59 ?_
          refine lv_iconst (v := 0) hx hb dX2_begin_62 (by decide) ?_
          refine z_putO (w := 0) hx hb hts hown in_X2_begin_X1 hK hA hS hN 7 11 (by decide) rfl (hts _ (List.mem_of_getElem? (i := 5) (by decide +kernel))) (by decide +kernel) rfl (fun τ => zObs7 ad n g τ _) dX2_begin_63 (fun H locs hN hS => ?_)
          refine lv_aload_n hx hb dX2_begin_66 rfl (lv_at hl 2 rfl) ?_
          refine z_getR hx hb hts hown in_X2_begin_X2 hK hN (hts _ (List.mem_of_getElem? (i := 1) (by decide +kernel))) dX2_begin_67 ?_
          refine lv_iconst (v := 0) hx hb dX2_begin_70 (by decide) ?_
          refine z_putO (w := 0) hx hb hts hown in_X2_begin_X1 hK hA hS hN 8 12 (by decide) rfl (hts _ (List.mem_of_getElem? (i := 6) (by decide +kernel))) (by decide +kernel) rfl (fun τ => zObs8 ad n g τ _) dX2_begin_71 (fun H locs hN hS => ?_)
          exact z_vret hx hb hr hlk hK hS (hN.cast (by first | with_reducible rfl | (simp only [zBg, c_2, c_6, eq_self, ne_eq, not_true_eq_false, not_false_eq_true, and_true, true_and, and_self, and_false, false_and, true_or, or_true, false_or, or_false, reduceIte]; done) | (simp [zBg, c_2, c_6]; done) | rfl | (simp_all [zBg]; done))) dX2_begin_74
        · skip
          have c_7 := (not_congr (z_leI (a := n) (b := k) (by omega) (by omega))).mp c_7
          refine lv_aload_n hx hb dX2_begin_29 rfl (lv_at hl 2 rfl) ?_
          refine z_getR hx hb hts hown in_X2_begin_X2 hK hN (hts _ (List.mem_of_getElem? (i := 1) (by decide +kernel))) dX2_begin_30 ?_
          refine z_getO (v := .ref (ad 1)) hx hb hts hown in_X2_begin_X1 hK hN 0 (by decide) rfl (hts _ (List.mem_of_getElem? (i := 3) (by decide +kernel))) rfl dX2_begin_33 ?_
          refine lv_iload_n hx hb dX2_begin_36 rfl (lv_at hl 0 rfl) ?_
          refine z_aald (i := k) hx hb hK hN rfl (by omega) dX2_begin_37 ?_
          refine lv_astore_n (lv' := [(3, .ref (ad (3 + k))), (2, .int (nI k)), (1, .int 1), (0, .ref r)]) hx hb dX2_begin_38 rfl hl (by decide) rfl (fun ls hl => ?_)
          refine lv_aload_n hx hb dX2_begin_39 rfl (lv_at hl 0 rfl) ?_
          refine z_vv (As := []) (rest := []) (P2 := zNA G ad n N g (zX r ad) (zBr τk k)) S (c_X3_beginRound l G A ad n N g (zX r ad) hA hnN hN12  τk k (by omega)) (cwV 0 hts gX2_begin_X3_beginRound rfl rfl rfl (by decide +kernel) ⟨Nat.le_of_ble_eq_true rfl, Nat.le_of_ble_eq_true rfl⟩) (z_recS hK hN (by omega)) hN hK hS (fun _ _ h => h) (fun _ h => h) hl.1 rfl rfl (Nat.le_of_ble_eq_true rfl) dX2_begin_40 ⟨Nat.le_refl _, Nat.le_refl _⟩ (fun H locs hN hS _ => ?_)
          refine lv_iload_n hx hb dX2_begin_43 rfl (lv_at hl 2 rfl) ?_
          refine lv_if_eq (tgt := 52) hx hb dX2_begin_44 (by decide) (fun q => absurd q (by decide)) (fun _ => ?_)
          refine lv_aload_n hx hb dX2_begin_47 rfl (lv_at hl 0 rfl) ?_
          refine lv_iconst (v := 1) hx hb dX2_begin_48 (by decide) ?_
          refine z_putS (v := .int 1) (w := 1) (ty := .boolean) hx hb hts hown in_X2_begin_X3 hK hA hS hN (by omega) 4 4 (by decide) rfl (by decide) (hts _ (List.mem_of_getElem? (i := 4) (by decide +kernel))) (by decide +kernel) (by decide) (by decide) rfl (fun τ => zSet4 τ _ (by decide)) dX2_begin_49 (fun H locs hN hS => ?_)
          refine lv_iinc (v := nI (k + 1)) (lv' := [(2, .int (nI (k + 1))), (3, .ref (ad (3 + k))), (1, .int 1), (0, .ref r)]) hx hb dX2_begin_52 hl (k := 1) rfl (nI_1 _) (by decide) rfl (fun ls hl => ?_)
          refine lv_goto (tgt := 18) hx hb dX2_begin_55 (by decide) ?_
          have e_8 : zIt (zBgC (zPh g τ)) (k + 1) τ = zSt (zBr τk k) 4 k 1 := by
            rw [zIt_s, hF_τk]
            first | with_reducible rfl | (simp only [zBgC, c_2, c_7, eq_self, ne_eq, not_true_eq_false, not_false_eq_true, and_true, true_and, and_self, and_false, false_and, true_or, or_true, false_or, or_false, reduceIte]; done) | (simp [zBgC, c_2, c_7]; done) | rfl | (simp_all [zBgC]; done)
          refine ih2 (k + 1) _ _ _ (by omega) (by omega) ?_ hS ?_
          · first | exact hN | (rw [e_8]; exact hN)
          · first | exact lv_sub hl [0, 2, 3] rfl | (rw [e_8]; exact lv_sub hl [0, 2, 3] rfl)
    exact loop2 (n + 1) 0 _ _ _ (by omega) (by omega) hN hS (lv_sub hl [0, 1, 2] rfl)

theorem in_X2_isLivingHead_X1 : ∀ w ∈ wsX10, w ∈ wsX2_isLivingHead := by decide +kernel
theorem in_X2_isLivingHead_X2 : ∀ w ∈ wsX20, w ∈ wsX2_isLivingHead := by decide +kernel
theorem in_X2_isLivingHead_X3 : ∀ w ∈ wsX30, w ∈ wsX2_isLivingHead := by decide +kernel
set_option maxHeartbeats 4000000 in
set_option maxRecDepth 100000 in
theorem c_X2_isLivingHead (l : Launch) (G : zG) (A : Nat → Prop) (ad : Nat → Nat) (n N : Nat) (g : Nat → Int32) (r : Nat) (hA : zAp G ad (zX r ad) A) (hnN : n ≤ N) (hN12 : N ≤ 12) (τ : zT) (h : Nat) (hh : h < n) : zMi l G A yX2_isLivingHead wsX2_isLivingHead 0 0 [.ref r, .int (nI h)] (zNA G ad n N g (zX r ad) τ) (zBi (τ 3 h = 1 ∧ τ 7 h = nI h)) (zNA G ad n N g (zX r ad) τ) := by
  refine z_met (cc := cX2_isLivingHead) (maxL := 3) (ret := (some .boolean)) (by decide) rfl (Nat.le_of_ble_eq_true rfl) ?_
  intro p e s m below meth c ls S hr hlk hnm hN hK hl
  have S : CallFix p m c cX2_isLivingHead 3 s _ wsX2_isLivingHead RX2 := S
  obtain ⟨hx, hb, hml, hown, hts⟩ := id S
  have hS : va_S A s.heap s.heap [] := va_S.rf
  have hl : lv_has ls 3 [(0, .ref r), (1, .int (nI h))] := hl
  refine lv_aload_n hx hb dX2_isLivingHead_0 rfl (lv_at hl 0 rfl) ?_
  refine z_getR hx hb hts hown in_X2_isLivingHead_X2 hK hN (hts _ (List.mem_of_getElem? (i := 1) (by decide +kernel))) dX2_isLivingHead_1 ?_
  refine z_getO (v := .ref (ad 1)) hx hb hts hown in_X2_isLivingHead_X1 hK hN 0 (by decide) rfl (hts _ (List.mem_of_getElem? (i := 2) (by decide +kernel))) rfl dX2_isLivingHead_4 ?_
  refine lv_iload_n hx hb dX2_isLivingHead_7 rfl (lv_at hl 1 rfl) ?_
  refine z_aald (i := h) hx hb hK hN rfl (by omega) dX2_isLivingHead_8 ?_
  refine lv_astore_n (lv' := [(2, .ref (ad (3 + h))), (0, .ref r), (1, .int (nI h))]) hx hb dX2_isLivingHead_9 rfl hl (by decide) rfl (fun ls hl => ?_)
  refine lv_aload_n hx hb dX2_isLivingHead_10 rfl (lv_at hl 0 rfl) ?_
  refine z_getS (v := .int (zBi (τ 3 h = 1))) hx hb hts hown in_X2_isLivingHead_X3 hK hN12 hN (by omega) 3 (by decide) rfl (hts _ (List.mem_of_getElem? (i := 3) (by decide +kernel))) rfl dX2_isLivingHead_11 ?_
  refine lv_if_eq (tgt := 29) hx hb dX2_isLivingHead_14 (by decide) (fun c_1 => ?_) (fun c_2 => ?_)
  · skip
    have c_1 := zBi_0.mp c_1
    refine lv_iconst (v := 0) hx hb dX2_isLivingHead_29 (by decide) ?_
    refine z_top (x2 := zBi (τ 3 h = 1 ∧ τ 7 h = nI h)) (by first | with_reducible rfl | (simp only [zBi, c_1, eq_self, ne_eq, not_true_eq_false, not_false_eq_true, and_true, true_and, and_self, and_false, false_and, true_or, or_true, false_or, or_false, reduceIte]; done) | (simp [zBi, c_1]; done) | rfl | (simp_all [zBi]; done)) ?_
    exact z_zret hx hb hr hlk zBi_nar hK hS (hN) dX2_isLivingHead_30
  · skip
    have c_2 := zBi_n0.mp c_2
    refine lv_aload_n hx hb dX2_isLivingHead_17 rfl (lv_at hl 0 rfl) ?_
    refine z_getS (v := .int (τ 7 h)) hx hb hts hown in_X2_isLivingHead_X3 hK hN12 hN (by omega) 7 (by decide) rfl (hts _ (List.mem_of_getElem? (i := 4) (by decide +kernel))) rfl dX2_isLivingHead_18 ?_
    refine lv_iload_n hx hb dX2_isLivingHead_21 rfl (lv_at hl 2 rfl) ?_
    refine lv_icmp_ne (tgt := 29) hx hb dX2_isLivingHead_22 (by decide) (fun c_3 => ?_) (fun c_4 => ?_)
    · skip
      refine lv_iconst (v := 0) hx hb dX2_isLivingHead_29 (by decide) ?_
      refine z_top (x2 := zBi (τ 3 h = 1 ∧ τ 7 h = nI h)) (by first | with_reducible rfl | (simp only [zBi, c_2, c_3, eq_self, ne_eq, not_true_eq_false, not_false_eq_true, and_true, true_and, and_self, and_false, false_and, true_or, or_true, false_or, or_false, reduceIte]; done) | (simp [zBi, c_2, c_3]; done) | rfl | (simp_all [zBi]; done)) ?_
      exact z_zret hx hb hr hlk zBi_nar hK hS (hN) dX2_isLivingHead_30
    · skip
      refine lv_iconst (v := 1) hx hb dX2_isLivingHead_25 (by decide) ?_
      refine lv_goto (tgt := 30) hx hb dX2_isLivingHead_26 (by decide) ?_
      refine z_top (x2 := zBi (τ 3 h = 1 ∧ τ 7 h = nI h)) (by first | with_reducible rfl | (simp only [zBi, c_2, c_4, eq_self, ne_eq, not_true_eq_false, not_false_eq_true, and_true, true_and, and_self, and_false, false_and, true_or, or_true, false_or, or_false, reduceIte]; done) | (simp [zBi, c_2, c_4]; done) | rfl | (simp_all [zBi]; done)) ?_
      exact z_zret hx hb hr hlk zBi_nar hK hS (hN) dX2_isLivingHead_30

theorem in_X2_isHead_X1 : ∀ w ∈ wsX10, w ∈ wsX2_isHead := by decide +kernel
theorem in_X2_isHead_X2 : ∀ w ∈ wsX20, w ∈ wsX2_isHead := by decide +kernel
theorem in_X2_isHead_X3 : ∀ w ∈ wsX30, w ∈ wsX2_isHead := by decide +kernel
set_option maxHeartbeats 4000000 in
set_option maxRecDepth 100000 in
theorem c_X2_isHead (l : Launch) (G : zG) (A : Nat → Prop) (ad : Nat → Nat) (n N : Nat) (g : Nat → Int32) (r : Nat) (hA : zAp G ad (zX r ad) A) (hnN : n ≤ N) (hN12 : N ≤ 12) (τ : zT) (h : Nat) (hh : h < n) : zMi l G A yX2_isHead wsX2_isHead 0 0 [.ref r, .int (nI h)] (zNA G ad n N g (zX r ad) τ) (zBi (τ 7 h = nI h)) (zNA G ad n N g (zX r ad) τ) := by
  refine z_met (cc := cX2_isHead) (maxL := 2) (ret := (some .boolean)) (by decide) rfl (Nat.le_of_ble_eq_true rfl) ?_
  intro p e s m below meth c ls S hr hlk hnm hN hK hl
  have S : CallFix p m c cX2_isHead 2 s _ wsX2_isHead RX2 := S
  obtain ⟨hx, hb, hml, hown, hts⟩ := id S
  have hS : va_S A s.heap s.heap [] := va_S.rf
  have hl : lv_has ls 2 [(0, .ref r), (1, .int (nI h))] := hl
  refine lv_aload_n hx hb dX2_isHead_0 rfl (lv_at hl 0 rfl) ?_
  refine z_getR hx hb hts hown in_X2_isHead_X2 hK hN (hts _ (List.mem_of_getElem? (i := 1) (by decide +kernel))) dX2_isHead_1 ?_
  refine z_getO (v := .ref (ad 1)) hx hb hts hown in_X2_isHead_X1 hK hN 0 (by decide) rfl (hts _ (List.mem_of_getElem? (i := 2) (by decide +kernel))) rfl dX2_isHead_4 ?_
  refine lv_iload_n hx hb dX2_isHead_7 rfl (lv_at hl 1 rfl) ?_
  refine z_aald (i := h) hx hb hK hN rfl (by omega) dX2_isHead_8 ?_
  refine z_getS (v := .int (τ 7 h)) hx hb hts hown in_X2_isHead_X3 hK hN12 hN (by omega) 7 (by decide) rfl (hts _ (List.mem_of_getElem? (i := 3) (by decide +kernel))) rfl dX2_isHead_9 ?_
  refine lv_iload_n hx hb dX2_isHead_12 rfl (lv_at hl 1 rfl) ?_
  refine lv_icmp_ne (tgt := 20) hx hb dX2_isHead_13 (by decide) (fun c_1 => ?_) (fun c_2 => ?_)
  · skip
    refine lv_iconst (v := 0) hx hb dX2_isHead_20 (by decide) ?_
    refine z_top (x2 := zBi (τ 7 h = nI h)) (by first | with_reducible rfl | (simp only [zBi, c_1, eq_self, ne_eq, not_true_eq_false, not_false_eq_true, and_true, true_and, and_self, and_false, false_and, true_or, or_true, false_or, or_false, reduceIte]; done) | (simp [zBi, c_1]; done) | rfl | (simp_all [zBi]; done)) ?_
    exact z_zret hx hb hr hlk zBi_nar hK hS (hN) dX2_isHead_21
  · skip
    refine lv_iconst (v := 1) hx hb dX2_isHead_16 (by decide) ?_
    refine lv_goto (tgt := 21) hx hb dX2_isHead_17 (by decide) ?_
    refine z_top (x2 := zBi (τ 7 h = nI h)) (by first | with_reducible rfl | (simp only [zBi, c_2, eq_self, ne_eq, not_true_eq_false, not_false_eq_true, and_true, true_and, and_self, and_false, false_and, true_or, or_true, false_or, or_false, reduceIte]; done) | (simp [zBi, c_2]; done) | rfl | (simp_all [zBi]; done)) ?_
    exact z_zret hx hb hr hlk zBi_nar hK hS (hN) dX2_isHead_21

theorem in_X2_hasJoined_X1 : ∀ w ∈ wsX10, w ∈ wsX2_hasJoined := by decide +kernel
theorem in_X2_hasJoined_X2 : ∀ w ∈ wsX20, w ∈ wsX2_hasJoined := by decide +kernel
theorem in_X2_hasJoined_X3 : ∀ w ∈ wsX30, w ∈ wsX2_hasJoined := by decide +kernel
set_option maxHeartbeats 4000000 in
set_option maxRecDepth 100000 in
theorem c_X2_hasJoined (l : Launch) (G : zG) (A : Nat → Prop) (ad : Nat → Nat) (n N : Nat) (g : Nat → Int32) (r : Nat) (hA : zAp G ad (zX r ad) A) (hnN : n ≤ N) (hN12 : N ≤ 12) (τ : zT) (k h : Nat) (hk : k < n) (hh : h < n) : zMi l G A yX2_hasJoined wsX2_hasJoined 0 0 [.ref r, .int (nI k), .int (nI h)] (zNA G ad n N g (zX r ad) τ) (zBi (k ≠ h ∧ τ 7 k = nI h)) (zNA G ad n N g (zX r ad) τ) := by
  refine z_met (cc := cX2_hasJoined) (maxL := 3) (ret := (some .boolean)) (by decide) rfl (Nat.le_of_ble_eq_true rfl) ?_
  intro p e s m below meth c ls S hr hlk hnm hN hK hl
  have S : CallFix p m c cX2_hasJoined 3 s _ wsX2_hasJoined RX2 := S
  obtain ⟨hx, hb, hml, hown, hts⟩ := id S
  have hS : va_S A s.heap s.heap [] := va_S.rf
  have hl : lv_has ls 3 [(0, .ref r), (1, .int (nI k)), (2, .int (nI h))] := hl
  refine lv_iload_n hx hb dX2_hasJoined_0 rfl (lv_at hl 1 rfl) ?_
  refine lv_iload_n hx hb dX2_hasJoined_1 rfl (lv_at hl 2 rfl) ?_
  refine lv_icmp_eq (tgt := 25) hx hb dX2_hasJoined_2 (by decide) (fun c_1 => ?_) (fun c_2 => ?_)
  · skip
    have c_1 := (z_eqI (a := k) (b := h) (by omega) (by omega)).mp c_1
    refine lv_iconst (v := 0) hx hb dX2_hasJoined_25 (by decide) ?_
    refine z_top (x2 := zBi (k ≠ h ∧ τ 7 k = nI h)) (by first | with_reducible rfl | (simp only [zBi, c_1, eq_self, ne_eq, not_true_eq_false, not_false_eq_true, and_true, true_and, and_self, and_false, false_and, true_or, or_true, false_or, or_false, reduceIte]; done) | (simp [zBi, c_1]; done) | rfl | (simp_all [zBi]; done)) ?_
    exact z_zret hx hb hr hlk zBi_nar hK hS (hN) dX2_hasJoined_26
  · skip
    have c_2 := (not_congr (z_eqI (a := k) (b := h) (by omega) (by omega))).mp c_2
    refine lv_aload_n hx hb dX2_hasJoined_5 rfl (lv_at hl 0 rfl) ?_
    refine z_getR hx hb hts hown in_X2_hasJoined_X2 hK hN (hts _ (List.mem_of_getElem? (i := 1) (by decide +kernel))) dX2_hasJoined_6 ?_
    refine z_getO (v := .ref (ad 1)) hx hb hts hown in_X2_hasJoined_X1 hK hN 0 (by decide) rfl (hts _ (List.mem_of_getElem? (i := 2) (by decide +kernel))) rfl dX2_hasJoined_9 ?_
    refine lv_iload_n hx hb dX2_hasJoined_12 rfl (lv_at hl 1 rfl) ?_
    refine z_aald (i := k) hx hb hK hN rfl (by omega) dX2_hasJoined_13 ?_
    refine z_getS (v := .int (τ 7 k)) hx hb hts hown in_X2_hasJoined_X3 hK hN12 hN (by omega) 7 (by decide) rfl (hts _ (List.mem_of_getElem? (i := 3) (by decide +kernel))) rfl dX2_hasJoined_14 ?_
    refine lv_iload_n hx hb dX2_hasJoined_17 rfl (lv_at hl 2 rfl) ?_
    refine lv_icmp_ne (tgt := 25) hx hb dX2_hasJoined_18 (by decide) (fun c_3 => ?_) (fun c_4 => ?_)
    · skip
      refine lv_iconst (v := 0) hx hb dX2_hasJoined_25 (by decide) ?_
      refine z_top (x2 := zBi (k ≠ h ∧ τ 7 k = nI h)) (by first | with_reducible rfl | (simp only [zBi, c_2, c_3, eq_self, ne_eq, not_true_eq_false, not_false_eq_true, and_true, true_and, and_self, and_false, false_and, true_or, or_true, false_or, or_false, reduceIte]; done) | (simp [zBi, c_2, c_3]; done) | rfl | (simp_all [zBi]; done)) ?_
      exact z_zret hx hb hr hlk zBi_nar hK hS (hN) dX2_hasJoined_26
    · skip
      refine lv_iconst (v := 1) hx hb dX2_hasJoined_21 (by decide) ?_
      refine lv_goto (tgt := 26) hx hb dX2_hasJoined_22 (by decide) ?_
      refine z_top (x2 := zBi (k ≠ h ∧ τ 7 k = nI h)) (by first | with_reducible rfl | (simp only [zBi, c_2, c_4, eq_self, ne_eq, not_true_eq_false, not_false_eq_true, and_true, true_and, and_self, and_false, false_and, true_or, or_true, false_or, or_false, reduceIte]; done) | (simp [zBi, c_2, c_4]; done) | rfl | (simp_all [zBi]; done)) ?_
      exact z_zret hx hb hr hlk zBi_nar hK hS (hN) dX2_hasJoined_26
end
section
/-! ===== the drawn number: the class's longs and the reference's ints ===== -/
theorem zDraw_eq {x : Int32} (h : 0 ≤ x) : Int64.toInt32 ((Int32.toInt64 x * 1103515245 + 12345) - (Int32.toInt64 x * 1103515245 + 12345) / 2147483648 * 2147483648) = zNx x := by
  obtain ⟨j, hj, rfl⟩ := nI_of (Int32.not_lt.mpr h)
  have hj : j < 2147483648 := hj
  rw [nI_l hj]
  have e1 : (1103515245 : Int64) = lN 1103515245 := by decide
  have e2 : (12345 : Int64) = lN 12345 := by decide
  have e3 : (2147483648 : Int64) = lN 2147483648 := by decide
  rw [e1, e2, e3, lN_mul, lN_add]
  have hb : j * 1103515245 + 12345 < 2 ^ 63 := by omega
  rw [pk_lRem hb (by omega) (by omega), lN_i]
  unfold zNx
  have f1 : (1103515245 : Int32) = nI 1103515245 := by decide
  have f2 : (12345 : Int32) = nI 12345 := by decide
  rw [f1, f2, pk_mul, nI_add, pk_and _ 31 (by decide)]
  have hm : (nI (j * 1103515245 + 12345)).toBitVec.toNat = (j * 1103515245 + 12345) % 2 ^ 32 := BitVec.toNat_ofNat _ 32
  rw [hm]
  exact congrArg nI (by omega)
theorem zNx_ge (x : Int32) : 0 ≤ zNx x := by
  unfold zNx
  rw [pk_and _ 31 (by decide)]
  exact nI_pos' (Nat.mod_lt _ (by decide))
theorem zEl_gen (left : Int32) (τ : zT) (h : 0 ≤ τ 11 9) (k : Nat) : 0 ≤ (zIt (zElS left) k τ) 11 9 := by
  refine zIt_inv (zElS left) (fun t => 0 ≤ t 11 9) τ h (fun k t ht => ?_) k
  show 0 ≤ zElS left k t 11 9
  unfold zElS
  split
  · rw [zSt_nf _ _ _ _ (by decide)]
    unfold zDw
    rw [zSt_self]
    exact zNx_ge _
  · exact ht
end
section
/-! rows laid by my own program (wip/whole/gen) -/
theorem z_has_no (l : Launch) (G : zG) (A : Nat → Prop) (ad : Nat → Nat) (n N : Nat) (g : Nat → Int32) (X : va_W) (hA : zAp G ad X A) (hnN : n ≤ N) (hN12 : N ≤ 12) (τ : zT) : zMi l G A yX1_has wsX1_has 0 0 [.ref (ad 0), .int (-9)] (zNA G ad n N g X τ) 0 (zNA G ad n N g X τ) := by
  have h := c_X1_has l G A ad n N g X hA hnN hN12 τ (-9)
  rwa [zBi_f (fun q => q.1 (by decide))] at h
theorem z_has_yes (l : Launch) (G : zG) (A : Nat → Prop) (ad : Nat → Nat) (n N : Nat) (g : Nat → Int32) (X : va_W) (hA : zAp G ad X A) (hnN : n ≤ N) (hN12 : N ≤ 12) (τ : zT) (b : Nat) (hb : b < n) : zMi l G A yX1_has wsX1_has 0 0 [.ref (ad 0), .int (nI b)] (zNA G ad n N g X τ) 1 (zNA G ad n N g X τ) := by
  have h := c_X1_has l G A ad n N g X hA hnN hN12 τ (nI b)
  rwa [zBi_t ⟨nI_pos (by omega), nI_lt hb (by omega)⟩] at h
theorem in_X2_draw_X1 : ∀ w ∈ wsX10, w ∈ wsX2_draw := by decide +kernel
theorem in_X2_draw_X2 : ∀ w ∈ wsX20, w ∈ wsX2_draw := by decide +kernel
set_option maxHeartbeats 4000000 in
set_option maxRecDepth 100000 in
theorem c_X2_draw (l : Launch) (G : zG) (A : Nat → Prop) (ad : Nat → Nat) (n N : Nat) (g : Nat → Int32) (r : Nat) (hA : zAp G ad (zX r ad) A) (hnN : n ≤ N) (hN12 : N ≤ 12) (τ : zT) (hg : 0 ≤ τ 11 9) : zMi l G A yX2_draw wsX2_draw 0 0 [.ref r] (zNA G ad n N g (zX r ad) τ) (zDr (zNx (τ 11 9))) (zNA G ad n N g (zX r ad) (zDw τ)) := by
  refine z_met (cc := cX2_draw) (maxL := 3) (ret := (some .int)) (by decide) rfl (Nat.le_of_ble_eq_true rfl) ?_
  intro p e s m below meth c ls S hr hlk hnm hN hK hl
  have S : CallFix p m c cX2_draw 3 s _ wsX2_draw RX2 := S
  obtain ⟨hx, hb, hml, hown, hts⟩ := id S
  have hS : va_S A s.heap s.heap [] := va_S.rf
  have hl : lv_has ls 3 [(0, .ref r)] := hl
  refine lv_aload_n hx hb dX2_draw_0 rfl (lv_at hl 0 rfl) ?_
  refine z_getR hx hb hts hown in_X2_draw_X2 hK hN (hts _ (List.mem_of_getElem? (i := 1) (by decide +kernel))) dX2_draw_1 ?_
  refine z_getO (v := .int (τ 11 9)) hx hb hts hown in_X2_draw_X1 hK hN 5 (by decide) rfl (hts _ (List.mem_of_getElem? (i := 2) (by decide +kernel))) rfl dX2_draw_4 ?_
  refine lv_i2l (v := Int32.toInt64 (τ 11 9)) hx hb dX2_draw_7 rfl ?_
  refine lv_ldc2 (v := 1103515245) hx hb hown (hts _ (List.mem_of_getElem? (i := 3) (by decide +kernel))) dX2_draw_8 ?_
  refine lv_lmul hx hb dX2_draw_11 ?_
  refine lv_ldc2 (v := 12345) hx hb hown (hts _ (List.mem_of_getElem? (i := 4) (by decide +kernel))) dX2_draw_12 ?_
  refine lv_ladd hx hb dX2_draw_15 ?_
  refine lv_ldc2 (v := 2147483648) hx hb hown (hts _ (List.mem_of_getElem? (i := 5) (by decide +kernel))) dX2_draw_16 ?_
  refine lv_lrem hx hb dX2_draw_19 (by decide) ?_
  refine lv_lstore_n (lv' := [(1, .long ((((Int32.toInt64 (τ 11 9)) * 1103515245) + 12345) - (((Int32.toInt64 (τ 11 9)) * 1103515245) + 12345) / 2147483648 * 2147483648)), (0, .ref r)]) hx hb dX2_draw_20 rfl hl (by decide) rfl (fun ls hl => ?_)
  refine lv_aload_n hx hb dX2_draw_21 rfl (lv_at hl 1 rfl) ?_
  refine z_getR hx hb hts hown in_X2_draw_X2 hK hN (hts _ (List.mem_of_getElem? (i := 1) (by decide +kernel))) dX2_draw_22 ?_
  refine lv_lload_n hx hb dX2_draw_25 rfl (lv_at hl 0 rfl) ?_
  refine lv_l2i (v := Int64.toInt32 ((((Int32.toInt64 (τ 11 9)) * 1103515245) + 12345) - (((Int32.toInt64 (τ 11 9)) * 1103515245) + 12345) / 2147483648 * 2147483648)) hx hb dX2_draw_26 rfl ?_
  refine z_putO (w := Int64.toInt32 ((((Int32.toInt64 (τ 11 9)) * 1103515245) + 12345) - (((Int32.toInt64 (τ 11 9)) * 1103515245) + 12345) / 2147483648 * 2147483648)) hx hb hts hown in_X2_draw_X1 hK hA hS hN 5 9 (by decide) rfl (hts _ (List.mem_of_getElem? (i := 2) (by decide +kernel))) (by decide +kernel) rfl (fun τ => zObs5 ad n g τ _) dX2_draw_27 (fun H locs hN hS => ?_)
  refine lv_aload_n hx hb dX2_draw_30 rfl (lv_at hl 1 rfl) ?_
  refine z_getR hx hb hts hown in_X2_draw_X2 hK hN (hts _ (List.mem_of_getElem? (i := 1) (by decide +kernel))) dX2_draw_31 ?_
  refine z_getO (v := .int (Int64.toInt32 ((((Int32.toInt64 (τ 11 9)) * 1103515245) + 12345) - (((Int32.toInt64 (τ 11 9)) * 1103515245) + 12345) / 2147483648 * 2147483648))) hx hb hts hown in_X2_draw_X1 hK hN 5 (by decide) rfl (hts _ (List.mem_of_getElem? (i := 2) (by decide +kernel))) (congrArg (fun z => some (Value.int z)) (zSt_self τ 11 9 (Int64.toInt32 ((((Int32.toInt64 (τ 11 9)) * 1103515245) + 12345) - (((Int32.toInt64 (τ 11 9)) * 1103515245) + 12345) / 2147483648 * 2147483648)))) dX2_draw_34 ?_
  refine lv_ldc (v := 65536) hx hb hown (hts _ (List.mem_of_getElem? (i := 6) (by decide +kernel))) dX2_draw_37 ?_
  refine lv_idiv hx hb dX2_draw_39 (by decide) ?_
  refine lv_sipush (v := 1000) hx hb dX2_draw_40 (by decide) ?_
  refine lv_irem hx hb dX2_draw_43 (by decide) ?_
  refine z_top (x2 := zDr (zNx (τ 11 9))) (by first | with_reducible rfl | (simp only [zDraw_eq hg, zDr, zDw, eq_self, ne_eq, not_true_eq_false, not_false_eq_true, and_true, true_and, and_self, and_false, false_and, true_or, or_true, false_or, or_false, reduceIte]; done) | (simp [zDraw_eq hg, zDr, zDw]; done) | rfl | (simp_all [zDraw_eq hg, zDr, zDw]; done)) ?_
  exact z_iret hx hb hr hlk hK hS (hN.cast (by first | with_reducible rfl | (simp only [zDraw_eq hg, zDr, zDw, eq_self, ne_eq, not_true_eq_false, not_false_eq_true, and_true, true_and, and_self, and_false, false_and, true_or, or_true, false_or, or_false, reduceIte]; done) | (simp [zDraw_eq hg, zDr, zDw]; done) | rfl | (simp_all [zDraw_eq hg, zDr, zDw]; done))) dX2_draw_44

theorem in_X2_elect_X1 : ∀ w ∈ wsX10, w ∈ wsX2_elect := by decide +kernel
theorem in_X2_elect_X2 : ∀ w ∈ wsX20, w ∈ wsX2_elect := by decide +kernel
theorem in_X2_elect_X3 : ∀ w ∈ wsX30, w ∈ wsX2_elect := by decide +kernel
set_option maxHeartbeats 4000000 in
set_option maxRecDepth 100000 in
theorem c_X2_elect (l : Launch) (G : zG) (A : Nat → Prop) (ad : Nat → Nat) (n N : Nat) (g : Nat → Int32) (r : Nat) (hA : zAp G ad (zX r ad) A) (hnN : n ≤ N) (hN12 : N ≤ 12) (hd3 : 0 < g 3) (τ : zT) (hg : 0 ≤ τ 11 9) : zMv l G A yX2_elect wsX2_elect 1 22 [.ref r] (zNA G ad n N g (zX r ad) τ) (zNA G ad n N g (zX r ad) (zEl n g τ)) := by
  refine z_met (cc := cX2_elect) (maxL := 4) (ret := none) (by decide) rfl (Nat.le_of_ble_eq_true rfl) ?_
  intro p e s m below meth c ls S hr hlk hnm hN hK hl
  have S : CallFix p m c cX2_elect 4 s _ wsX2_elect RX2 := S
  obtain ⟨hx, hb, hml, hown, hts⟩ := id S
  have hS : va_S A s.heap s.heap [] := va_S.rf
  have hl : lv_has ls 4 [(0, .ref r)] := hl
  refine lv_aload_n hx hb dX2_elect_0 rfl (lv_at hl 0 rfl) ?_
  refine z_getR hx hb hts hown in_X2_elect_X2 hK hN (hts _ (List.mem_of_getElem? (i := 1) (by decide +kernel))) dX2_elect_1 ?_
  refine z_getO (v := .ref (ad 2)) hx hb hts hown in_X2_elect_X1 hK hN 1 (by decide) rfl (hts _ (List.mem_of_getElem? (i := 2) (by decide +kernel))) rfl dX2_elect_4 ?_
  refine lv_iconst (v := 0) hx hb dX2_elect_7 (by decide) ?_
  refine z_iald (w := g 3) hx hb hK hN 0 (by decide) (by decide) rfl dX2_elect_8 ?_
  refine lv_aload_n hx hb dX2_elect_9 rfl (lv_at hl 0 rfl) ?_
  refine z_getR hx hb hts hown in_X2_elect_X2 hK hN (hts _ (List.mem_of_getElem? (i := 1) (by decide +kernel))) dX2_elect_10 ?_
  refine z_vi (As := []) (rest := [.int (g 3)]) (P2 := zNA G ad n N g (zX r ad) τ) (r := zPh g τ) S (c_X1_phase l G A ad n N g (zX r ad) hA hnN hN12 hd3 τ ) (cwV 0 hts gX2_elect_X1_phase rfl rfl rfl (by decide +kernel) ⟨Nat.le_of_ble_eq_true rfl, Nat.le_of_ble_eq_true rfl⟩) (z_recN hK hN) hN hK hS (fun _ _ h => h) (fun _ h => h) hl.1 rfl rfl (Nat.le_of_ble_eq_true rfl) dX2_elect_13 ⟨Nat.le_refl _, Nat.le_refl _⟩ (fun H locs hN hS _ => ?_)
  refine lv_isub hx hb dX2_elect_16 ?_
  refine lv_istore_n (lv' := [(1, .int ((g 3) - (zPh g τ))), (0, .ref r)]) hx hb dX2_elect_17 rfl hl (by decide) rfl (fun ls hl => ?_)
  refine lv_iconst (v := 0) hx hb dX2_elect_18 (by decide) ?_
  refine lv_istore_n (lv' := [(2, .int 0), (1, .int ((g 3) - (zPh g τ))), (0, .ref r)]) hx hb dX2_elect_19 rfl hl (by decide) rfl (fun ls hl => ?_)
  have loop1 : ∀ (f1 k : Nat) (H : Heap) (locs : List Loc) (ls : Array Slot), k ≤ n → n < k + f1 → zNA G ad n N g (zX r ad) (zIt (zElS (g 3 - zPh g τ)) k τ) H → va_S A s.heap H locs → lv_has ls 4 [(2, .int (nI k)), (1, .int ((g 3) - (zPh g τ))), (0, .ref r)] → W p l e ({ frames := 1, cells := 0, slots := 0, locals := 22 } : Room) s m ([.ref r] : List Value).toArray below meth c H locs 0 0 (MQ below (zQv G (zNA G ad n N g (zX r ad) (zEl n g τ)) A) ([.ref r] : List Value).toArray s 0 0 A) (F0 m 20 ls []) := by
    intro f1
    induction f1 with
    | zero => intro k H locs ls h1 h2; exact absurd h2 (by omega)
    | succ f1 ih1 =>
      intro k H locs ls hk1 hf1 hN hS hl
      have hgk : 0 ≤ (zIt (zElS (g 3 - zPh g τ)) k τ) 11 9 := zEl_gen _ _ hg k
      generalize hF_τk : zIt (zElS (g 3 - zPh g τ)) k τ = τk at hN hl hgk
      refine lv_iload_n hx hb dX2_elect_20 rfl (lv_at hl 0 rfl) ?_
      refine lv_aload_n hx hb dX2_elect_21 rfl (lv_at hl 2 rfl) ?_
      refine z_getR hx hb hts hown in_X2_elect_X2 hK hN (hts _ (List.mem_of_getElem? (i := 1) (by decide +kernel))) dX2_elect_22 ?_
      refine z_getO (v := .int (nI n)) hx hb hts hown in_X2_elect_X1 hK hN 2 (by decide) rfl (hts _ (List.mem_of_getElem? (i := 3) (by decide +kernel))) rfl dX2_elect_25 ?_
      refine lv_icmp_ge (tgt := 82) hx hb dX2_elect_28 (by decide) (fun c_1 => ?_) (fun c_2 => ?_)
      · skip
        have c_1 := (z_leI (a := n) (b := k) (by omega) (by omega)).mp c_1
        have hkn1 : k = n := by omega
        rw [hkn1] at hF_τk
        subst hF_τk
        exact z_vret hx hb hr hlk hK hS (hN.cast (by first | with_reducible rfl | (simp only [zEl, c_1, eq_self, ne_eq, not_true_eq_false, not_false_eq_true, and_true, true_and, and_self, and_false, false_and, true_or, or_true, false_or, or_false, reduceIte]; done) | (simp [zEl, c_1]; done) | rfl | (simp_all [zEl]; done))) dX2_elect_82
      · skip
        have c_2 := (not_congr (z_leI (a := n) (b := k) (by omega) (by omega))).mp c_2
        refine lv_aload_n hx hb dX2_elect_31 rfl (lv_at hl 2 rfl) ?_
        refine z_getR hx hb hts hown in_X2_elect_X2 hK hN (hts _ (List.mem_of_getElem? (i := 1) (by decide +kernel))) dX2_elect_32 ?_
        refine z_getO (v := .ref (ad 1)) hx hb hts hown in_X2_elect_X1 hK hN 0 (by decide) rfl (hts _ (List.mem_of_getElem? (i := 4) (by decide +kernel))) rfl dX2_elect_35 ?_
        refine lv_iload_n hx hb dX2_elect_38 rfl (lv_at hl 0 rfl) ?_
        refine z_aald (i := k) hx hb hK hN rfl (by omega) dX2_elect_39 ?_
        refine lv_astore_n (lv' := [(3, .ref (ad (3 + k))), (2, .int (nI k)), (1, .int ((g 3) - (zPh g τ))), (0, .ref r)]) hx hb dX2_elect_40 rfl hl (by decide) rfl (fun ls hl => ?_)
        refine lv_aload_n hx hb dX2_elect_41 rfl (lv_at hl 0 rfl) ?_
        refine z_getS (v := .int (zBi (τk 3 k = 1))) hx hb hts hown in_X2_elect_X3 hK hN12 hN (by omega) 3 (by decide) rfl (hts _ (List.mem_of_getElem? (i := 5) (by decide +kernel))) rfl dX2_elect_42 ?_
        refine lv_if_eq (tgt := 76) hx hb dX2_elect_45 (by decide) (fun c_3 => ?_) (fun c_4 => ?_)
        · skip
          have c_3 := zBi_0.mp c_3
          refine lv_iinc (v := nI (k + 1)) (lv' := [(2, .int (nI (k + 1))), (3, .ref (ad (3 + k))), (1, .int ((g 3) - (zPh g τ))), (0, .ref r)]) hx hb dX2_elect_76 hl (k := 1) rfl (nI_1 _) (by decide) rfl (fun ls hl => ?_)
          refine lv_goto (tgt := 20) hx hb dX2_elect_79 (by decide) ?_
          have e_5 : zIt (zElS (g 3 - zPh g τ)) (k + 1) τ = τk := by
            rw [zIt_s, hF_τk]
            first | with_reducible rfl | (simp only [zElS, zBi, c_2, c_3, eq_self, ne_eq, not_true_eq_false, not_false_eq_true, and_true, true_and, and_self, and_false, false_and, true_or, or_true, false_or, or_false, reduceIte]; done) | (simp [zElS, zBi, c_2, c_3]; done) | rfl | (simp_all [zElS, zBi]; done)
          refine ih1 (k + 1) _ _ _ (by omega) (by omega) ?_ hS ?_
          · first | exact hN | (rw [e_5]; exact hN)
          · first | exact lv_sub hl [0, 2, 3] rfl | (rw [e_5]; exact lv_sub hl [0, 2, 3] rfl)
        · skip
          have c_4 := zBi_n0.mp c_4
          refine lv_aload_n hx hb dX2_elect_48 rfl (lv_at hl 0 rfl) ?_
          refine z_getS (v := .int (zBi (τk 4 k = 1))) hx hb hts hown in_X2_elect_X3 hK hN12 hN (by omega) 4 (by decide) rfl (hts _ (List.mem_of_getElem? (i := 6) (by decide +kernel))) rfl dX2_elect_49 ?_
          refine lv_if_eq (tgt := 76) hx hb dX2_elect_52 (by decide) (fun c_6 => ?_) (fun c_7 => ?_)
          · skip
            have c_6 := zBi_0.mp c_6
            refine lv_iinc (v := nI (k + 1)) (lv' := [(2, .int (nI (k + 1))), (3, .ref (ad (3 + k))), (1, .int ((g 3) - (zPh g τ))), (0, .ref r)]) hx hb dX2_elect_76 hl (k := 1) rfl (nI_1 _) (by decide) rfl (fun ls hl => ?_)
            refine lv_goto (tgt := 20) hx hb dX2_elect_79 (by decide) ?_
            have e_8 : zIt (zElS (g 3 - zPh g τ)) (k + 1) τ = τk := by
              rw [zIt_s, hF_τk]
              first | with_reducible rfl | (simp only [zElS, zBi, c_2, c_4, c_6, eq_self, ne_eq, not_true_eq_false, not_false_eq_true, and_true, true_and, and_self, and_false, false_and, true_or, or_true, false_or, or_false, reduceIte]; done) | (simp [zElS, zBi, c_2, c_4, c_6]; done) | rfl | (simp_all [zElS, zBi]; done)
            refine ih1 (k + 1) _ _ _ (by omega) (by omega) ?_ hS ?_
            · first | exact hN | (rw [e_8]; exact hN)
            · first | exact lv_sub hl [0, 2, 3] rfl | (rw [e_8]; exact lv_sub hl [0, 2, 3] rfl)
          · skip
            have c_7 := zBi_n0.mp c_7
            refine lv_aload_n hx hb dX2_elect_55 rfl (lv_at hl 0 rfl) ?_
            refine lv_aload_n hx hb dX2_elect_56 rfl (lv_at hl 3 rfl) ?_
            refine z_vi (As := []) (rest := [.ref (ad (3 + k))]) (P2 := zNA G ad n N g (zX r ad) (zDw τk)) (r := zDr (zNx (τk 11 9))) S (c_X2_draw l G A ad n N g r hA hnN hN12  τk (by assumption)) (cwV 0 hts gX2_elect_X2_draw rfl rfl rfl (by decide +kernel) ⟨Nat.le_of_ble_eq_true rfl, Nat.le_of_ble_eq_true rfl⟩) (z_recR hK hN) hN hK hS (fun _ _ h => h) (fun _ h => h) hl.1 rfl rfl (Nat.le_of_ble_eq_true rfl) dX2_elect_57 ⟨Nat.le_refl _, Nat.le_refl _⟩ (fun H locs hN hS _ => ?_)
            refine lv_iload_n hx hb dX2_elect_60 rfl (lv_at hl 2 rfl) ?_
            refine lv_imul hx hb dX2_elect_61 ?_
            refine lv_sipush (v := 1000) hx hb dX2_elect_62 (by decide) ?_
            refine lv_icmp_ge (tgt := 72) hx hb dX2_elect_65 (by decide) (fun c_9 => ?_) (fun c_10 => ?_)
            · skip
              have c_9 := Int32.not_lt.mpr c_9
              refine lv_iconst (v := 0) hx hb dX2_elect_72 (by decide) ?_
              refine z_putS (v := .int 0) (w := 0) (ty := .boolean) hx hb hts hown in_X2_elect_X3 hK hA hS hN (by omega) 9 10 (by decide) rfl (by decide) (hts _ (List.mem_of_getElem? (i := 7) (by decide +kernel))) (by decide +kernel) (by decide) (by decide) rfl (fun τ => zSet9 τ _ (by decide)) dX2_elect_73 (fun H locs hN hS => ?_)
              refine lv_iinc (v := nI (k + 1)) (lv' := [(2, .int (nI (k + 1))), (3, .ref (ad (3 + k))), (1, .int ((g 3) - (zPh g τ))), (0, .ref r)]) hx hb dX2_elect_76 hl (k := 1) rfl (nI_1 _) (by decide) rfl (fun ls hl => ?_)
              refine lv_goto (tgt := 20) hx hb dX2_elect_79 (by decide) ?_
              have e_11 : zIt (zElS (g 3 - zPh g τ)) (k + 1) τ = zSt (zDw τk) 10 k 0 := by
                rw [zIt_s, hF_τk]
                first | with_reducible rfl | (simp only [zElS, zBi, c_2, c_4, c_7, c_9, eq_self, ne_eq, not_true_eq_false, not_false_eq_true, and_true, true_and, and_self, and_false, false_and, true_or, or_true, false_or, or_false, reduceIte]; done) | (simp [zElS, zBi, c_2, c_4, c_7, c_9]; done) | rfl | (simp_all [zElS, zBi]; done)
              refine ih1 (k + 1) _ _ _ (by omega) (by omega) ?_ hS ?_
              · first | exact hN | (rw [e_11]; exact hN)
              · first | exact lv_sub hl [0, 2, 3] rfl | (rw [e_11]; exact lv_sub hl [0, 2, 3] rfl)
            · skip
              have c_10 := Int32.not_le.mp c_10
              refine lv_iconst (v := 1) hx hb dX2_elect_68 (by decide) ?_
              refine lv_goto (tgt := 73) hx hb dX2_elect_69 (by decide) ?_
              refine z_putS (v := .int 1) (w := 1) (ty := .boolean) hx hb hts hown in_X2_elect_X3 hK hA hS hN (by omega) 9 10 (by decide) rfl (by decide) (hts _ (List.mem_of_getElem? (i := 7) (by decide +kernel))) (by decide +kernel) (by decide) (by decide) rfl (fun τ => zSet9 τ _ (by decide)) dX2_elect_73 (fun H locs hN hS => ?_)
              refine lv_iinc (v := nI (k + 1)) (lv' := [(2, .int (nI (k + 1))), (3, .ref (ad (3 + k))), (1, .int ((g 3) - (zPh g τ))), (0, .ref r)]) hx hb dX2_elect_76 hl (k := 1) rfl (nI_1 _) (by decide) rfl (fun ls hl => ?_)
              refine lv_goto (tgt := 20) hx hb dX2_elect_79 (by decide) ?_
              have e_12 : zIt (zElS (g 3 - zPh g τ)) (k + 1) τ = zSt (zDw τk) 10 k 1 := by
                rw [zIt_s, hF_τk]
                first | with_reducible rfl | (simp only [zElS, zBi, c_2, c_4, c_7, c_10, eq_self, ne_eq, not_true_eq_false, not_false_eq_true, and_true, true_and, and_self, and_false, false_and, true_or, or_true, false_or, or_false, reduceIte]; done) | (simp [zElS, zBi, c_2, c_4, c_7, c_10]; done) | rfl | (simp_all [zElS, zBi]; done)
              refine ih1 (k + 1) _ _ _ (by omega) (by omega) ?_ hS ?_
              · first | exact hN | (rw [e_12]; exact hN)
              · first | exact lv_sub hl [0, 2, 3] rfl | (rw [e_12]; exact lv_sub hl [0, 2, 3] rfl)
  exact loop1 (n + 1) 0 _ _ _ (by omega) (by omega) hN hS (lv_sub hl [0, 1, 2] rfl)

theorem in_X2_announce_X1 : ∀ w ∈ wsX10, w ∈ wsX2_announce := by decide +kernel
theorem in_X2_announce_X2 : ∀ w ∈ wsX20, w ∈ wsX2_announce := by decide +kernel
theorem in_X2_announce_X3 : ∀ w ∈ wsX30, w ∈ wsX2_announce := by decide +kernel
set_option maxHeartbeats 4000000 in
set_option maxRecDepth 100000 in
theorem c_X2_announce (l : Launch) (G : zG) (A : Nat → Prop) (ad : Nat → Nat) (n N : Nat) (g : Nat → Int32) (r : Nat) (hA : zAp G ad (zX r ad) A) (hnN : n ≤ N) (hN12 : N ≤ 12) (τ : zT) : zMv l G A yX2_announce wsX2_announce 1 22 [.ref r] (zNA G ad n N g (zX r ad) τ) (zNA G ad n N g (zX r ad) (zIt (zAnS g) n τ)) := by
  refine z_met (cc := cX2_announce) (maxL := 3) (ret := none) (by decide) rfl (Nat.le_of_ble_eq_true rfl) ?_
  intro p e s m below meth c ls S hr hlk hnm hN hK hl
  have S : CallFix p m c cX2_announce 3 s _ wsX2_announce RX2 := S
  obtain ⟨hx, hb, hml, hown, hts⟩ := id S
  have hS : va_S A s.heap s.heap [] := va_S.rf
  have hl : lv_has ls 3 [(0, .ref r)] := hl
  refine lv_iconst (v := 0) hx hb dX2_announce_0 (by decide) ?_
  refine lv_istore_n (lv' := [(1, .int 0), (0, .ref r)]) hx hb dX2_announce_1 rfl hl (by decide) rfl (fun ls hl => ?_)
  have loop1 : ∀ (f1 k : Nat) (H : Heap) (locs : List Loc) (ls : Array Slot), k ≤ n → n < k + f1 → zNA G ad n N g (zX r ad) (zIt (zAnS g) k τ) H → va_S A s.heap H locs → lv_has ls 3 [(1, .int (nI k)), (0, .ref r)] → W p l e ({ frames := 1, cells := 0, slots := 0, locals := 22 } : Room) s m ([.ref r] : List Value).toArray below meth c H locs 0 0 (MQ below (zQv G (zNA G ad n N g (zX r ad) (zIt (zAnS g) n τ)) A) ([.ref r] : List Value).toArray s 0 0 A) (F0 m 2 ls []) := by
    intro f1
    induction f1 with
    | zero => intro k H locs ls h1 h2; exact absurd h2 (by omega)
    | succ f1 ih1 =>
      intro k H locs ls hk1 hf1 hN hS hl
      generalize hF_τk : zIt (zAnS g) k τ = τk at hN hl 
      refine lv_iload_n hx hb dX2_announce_2 rfl (lv_at hl 0 rfl) ?_
      refine lv_aload_n hx hb dX2_announce_3 rfl (lv_at hl 1 rfl) ?_
      refine z_getR hx hb hts hown in_X2_announce_X2 hK hN (hts _ (List.mem_of_getElem? (i := 1) (by decide +kernel))) dX2_announce_4 ?_
      refine z_getO (v := .int (nI n)) hx hb hts hown in_X2_announce_X1 hK hN 2 (by decide) rfl (hts _ (List.mem_of_getElem? (i := 2) (by decide +kernel))) rfl dX2_announce_7 ?_
      refine lv_icmp_ge (tgt := 86) hx hb dX2_announce_10 (by decide) (fun c_1 => ?_) (fun c_2 => ?_)
      · skip
        have c_1 := (z_leI (a := n) (b := k) (by omega) (by omega)).mp c_1
        have hkn1 : k = n := by omega
        rw [hkn1] at hF_τk
        subst hF_τk
        exact z_vret hx hb hr hlk hK hS (hN.cast (by first | with_reducible rfl | (simp only [c_1, eq_self, ne_eq, not_true_eq_false, not_false_eq_true, and_true, true_and, and_self, and_false, false_and, true_or, or_true, false_or, or_false, reduceIte]; done) | (simp [c_1]; done) | rfl | (simp_all []; done))) dX2_announce_86
      · skip
        have c_2 := (not_congr (z_leI (a := n) (b := k) (by omega) (by omega))).mp c_2
        refine lv_aload_n hx hb dX2_announce_13 rfl (lv_at hl 1 rfl) ?_
        refine z_getR hx hb hts hown in_X2_announce_X2 hK hN (hts _ (List.mem_of_getElem? (i := 1) (by decide +kernel))) dX2_announce_14 ?_
        refine z_getO (v := .ref (ad 1)) hx hb hts hown in_X2_announce_X1 hK hN 0 (by decide) rfl (hts _ (List.mem_of_getElem? (i := 3) (by decide +kernel))) rfl dX2_announce_17 ?_
        refine lv_iload_n hx hb dX2_announce_20 rfl (lv_at hl 0 rfl) ?_
        refine z_aald (i := k) hx hb hK hN rfl (by omega) dX2_announce_21 ?_
        refine lv_astore_n (lv' := [(2, .ref (ad (3 + k))), (1, .int (nI k)), (0, .ref r)]) hx hb dX2_announce_22 rfl hl (by decide) rfl (fun ls hl => ?_)
        refine lv_aload_n hx hb dX2_announce_23 rfl (lv_at hl 0 rfl) ?_
        refine z_getS (v := .int (zBi (τk 10 k = 1))) hx hb hts hown in_X2_announce_X3 hK hN12 hN (by omega) 9 (by decide) rfl (hts _ (List.mem_of_getElem? (i := 4) (by decide +kernel))) rfl dX2_announce_24 ?_
        refine lv_if_eq (tgt := 80) hx hb dX2_announce_27 (by decide) (fun c_3 => ?_) (fun c_4 => ?_)
        · skip
          have c_3 := zBi_0.mp c_3
          refine lv_iinc (v := nI (k + 1)) (lv' := [(1, .int (nI (k + 1))), (2, .ref (ad (3 + k))), (0, .ref r)]) hx hb dX2_announce_80 hl (k := 1) rfl (nI_1 _) (by decide) rfl (fun ls hl => ?_)
          refine lv_goto (tgt := 2) hx hb dX2_announce_83 (by decide) ?_
          have e_5 : zIt (zAnS g) (k + 1) τ = τk := by
            rw [zIt_s, hF_τk]
            first | with_reducible rfl | (simp only [zAnS, zAnY, zPay, zPd, zSt_ap, c_2, c_3, eq_self, ne_eq, not_true_eq_false, not_false_eq_true, and_true, true_and, and_self, and_false, false_and, true_or, or_true, false_or, or_false, reduceIte]; done) | (simp [zAnS, zAnY, zPay, zPd, zSt_ap, c_2, c_3]; done) | rfl | (simp_all [zAnS, zAnY, zPay, zPd, zSt_ap]; done)
          refine ih1 (k + 1) _ _ _ (by omega) (by omega) ?_ hS ?_
          · first | exact hN | (rw [e_5]; exact hN)
          · first | exact lv_sub hl [0, 2] rfl | (rw [e_5]; exact lv_sub hl [0, 2] rfl)
        · skip
          have c_4 := zBi_n0.mp c_4
          refine lv_aload_n hx hb dX2_announce_30 rfl (lv_at hl 2 rfl) ?_
          refine lv_aload_n hx hb dX2_announce_31 rfl (lv_at hl 0 rfl) ?_
          refine lv_aload_n hx hb dX2_announce_32 rfl (lv_at hl 2 rfl) ?_
          refine z_getR hx hb hts hown in_X2_announce_X2 hK hN (hts _ (List.mem_of_getElem? (i := 1) (by decide +kernel))) dX2_announce_33 ?_
          refine z_getO (v := .ref (ad 2)) hx hb hts hown in_X2_announce_X1 hK hN 1 (by decide) rfl (hts _ (List.mem_of_getElem? (i := 5) (by decide +kernel))) rfl dX2_announce_36 ?_
          refine lv_iconst (v := 4) hx hb dX2_announce_39 (by decide) ?_
          refine z_iald (w := g 7) hx hb hK hN 4 (by decide) (by decide) rfl dX2_announce_40 ?_
          refine z_vi (As := [.ref (ad (3 + k)), .int (g 7)]) (rest := []) (P2 := zNA G ad n N g (zX r ad) (zPay τk k (g 7))) (r := zBi (¬ τk 2 k < (g 7))) S (c_X2_pays l G A ad n N g r hA hnN hN12  τk k (by omega) (g 7)) (cwV 2 hts gX2_announce_X2_pays rfl rfl rfl (by decide +kernel) ⟨Nat.le_of_ble_eq_true rfl, Nat.le_of_ble_eq_true rfl⟩) (z_recR hK hN) hN hK hS (fun _ _ h => h) (fun _ h => h) hl.1 rfl rfl (Nat.le_of_ble_eq_true rfl) dX2_announce_41 ⟨Nat.le_refl _, Nat.le_refl _⟩ (fun H locs hN hS _ => ?_)
          refine lv_if_eq (tgt := 80) hx hb dX2_announce_44 (by decide) (fun c_6 => ?_) (fun c_7 => ?_)
          · skip
            have c_6 := zBi_0.mp c_6
            have c_6 := Decidable.of_not_not c_6
            have hN := hN.cast (zPay_n c_6)
            refine lv_iinc (v := nI (k + 1)) (lv' := [(1, .int (nI (k + 1))), (2, .ref (ad (3 + k))), (0, .ref r)]) hx hb dX2_announce_80 hl (k := 1) rfl (nI_1 _) (by decide) rfl (fun ls hl => ?_)
            refine lv_goto (tgt := 2) hx hb dX2_announce_83 (by decide) ?_
            have e_8 : zIt (zAnS g) (k + 1) τ = zDie τk k := by
              rw [zIt_s, hF_τk]
              first | with_reducible rfl | (simp only [zAnS, zAnY, zPay, zPd, zSt_ap, c_2, c_4, c_6, eq_self, ne_eq, not_true_eq_false, not_false_eq_true, and_true, true_and, and_self, and_false, false_and, true_or, or_true, false_or, or_false, reduceIte]; done) | (simp [zAnS, zAnY, zPay, zPd, zSt_ap, c_2, c_4, c_6]; done) | rfl | (simp_all [zAnS, zAnY, zPay, zPd, zSt_ap]; done)
            refine ih1 (k + 1) _ _ _ (by omega) (by omega) ?_ hS ?_
            · first | exact hN | (rw [e_8]; exact hN)
            · first | exact lv_sub hl [0, 2] rfl | (rw [e_8]; exact lv_sub hl [0, 2] rfl)
          · skip
            have c_7 := zBi_n0.mp c_7
            have hN := hN.cast (zPay_y c_7)
            refine lv_aload_n hx hb dX2_announce_47 rfl (lv_at hl 0 rfl) ?_
            refine lv_iload_n hx hb dX2_announce_48 rfl (lv_at hl 1 rfl) ?_
            refine z_putS (v := .int (nI k)) (w := nI k) (ty := .int) hx hb hts hown in_X2_announce_X3 hK hA hS hN (by omega) 7 7 (by decide) rfl (by decide) (hts _ (List.mem_of_getElem? (i := 6) (by decide +kernel))) (by decide +kernel) rfl rfl rfl (fun τ => zSet7 τ _ _) dX2_announce_49 (fun H locs hN hS => ?_)
            refine lv_aload_n hx hb dX2_announce_52 rfl (lv_at hl 0 rfl) ?_
            refine lv_iconst (v := 0) hx hb dX2_announce_53 (by decide) ?_
            refine z_putS (v := .int 0) (w := 0) (ty := .boolean) hx hb hts hown in_X2_announce_X3 hK hA hS hN (by omega) 4 4 (by decide) rfl (by decide) (hts _ (List.mem_of_getElem? (i := 7) (by decide +kernel))) (by decide +kernel) (by decide) (by decide) rfl (fun τ => zSet4 τ _ (by decide)) dX2_announce_54 (fun H locs hN hS => ?_)
            refine lv_aload_n hx hb dX2_announce_57 rfl (lv_at hl 0 rfl) ?_
            refine lv_dup hx hb dX2_announce_58 rfl ?_
            refine z_getS (v := .int ((zPd τk k (g 7)) 5 k)) hx hb hts hown in_X2_announce_X3 hK hN12 hN (by omega) 5 (by decide) rfl (hts _ (List.mem_of_getElem? (i := 8) (by decide +kernel))) rfl dX2_announce_59 ?_
            refine lv_iconst (v := 1) hx hb dX2_announce_62 (by decide) ?_
            refine lv_iadd hx hb dX2_announce_63 ?_
            refine z_putS (v := .int (((zPd τk k (g 7)) 5 k) + 1)) (w := ((zPd τk k (g 7)) 5 k) + 1) (ty := .int) hx hb hts hown in_X2_announce_X3 hK hA hS hN (by omega) 5 5 (by decide) rfl (by decide) (hts _ (List.mem_of_getElem? (i := 8) (by decide +kernel))) (by decide +kernel) rfl rfl rfl (fun τ => zSet5 τ _ _) dX2_announce_64 (fun H locs hN hS => ?_)
            refine lv_aload_n hx hb dX2_announce_67 rfl (lv_at hl 2 rfl) ?_
            refine z_getR hx hb hts hown in_X2_announce_X2 hK hN (hts _ (List.mem_of_getElem? (i := 1) (by decide +kernel))) dX2_announce_68 ?_
            refine lv_dup hx hb dX2_announce_71 rfl ?_
            refine z_getO (v := .int ((zPd τk k (g 7)) 11 11)) hx hb hts hown in_X2_announce_X1 hK hN 7 (by decide) rfl (hts _ (List.mem_of_getElem? (i := 9) (by decide +kernel))) rfl dX2_announce_72 ?_
            refine lv_iconst (v := 1) hx hb dX2_announce_75 (by decide) ?_
            refine lv_iadd hx hb dX2_announce_76 ?_
            refine z_putO (w := ((zPd τk k (g 7)) 11 11) + 1) hx hb hts hown in_X2_announce_X1 hK hA hS hN 7 11 (by decide) rfl (hts _ (List.mem_of_getElem? (i := 9) (by decide +kernel))) (by decide +kernel) rfl (fun τ => zObs7 ad n g τ _) dX2_announce_77 (fun H locs hN hS => ?_)
            refine lv_iinc (v := nI (k + 1)) (lv' := [(1, .int (nI (k + 1))), (2, .ref (ad (3 + k))), (0, .ref r)]) hx hb dX2_announce_80 hl (k := 1) rfl (nI_1 _) (by decide) rfl (fun ls hl => ?_)
            refine lv_goto (tgt := 2) hx hb dX2_announce_83 (by decide) ?_
            have e_9 : zIt (zAnS g) (k + 1) τ = zSt (zSt (zSt (zSt (zPd τk k (g 7)) 7 k (nI k)) 4 k 0) 5 k (((zPd τk k (g 7)) 5 k) + 1)) 11 11 (((zPd τk k (g 7)) 11 11) + 1) := by
              rw [zIt_s, hF_τk]
              first | with_reducible rfl | (simp only [zAnS, zAnY, zPay, zPd, zSt_ap, c_2, c_4, c_7, eq_self, ne_eq, not_true_eq_false, not_false_eq_true, and_true, true_and, and_self, and_false, false_and, true_or, or_true, false_or, or_false, reduceIte]; done) | (simp [zAnS, zAnY, zPay, zPd, zSt_ap, c_2, c_4, c_7]; done) | rfl | (simp_all [zAnS, zAnY, zPay, zPd, zSt_ap]; done)
            refine ih1 (k + 1) _ _ _ (by omega) (by omega) ?_ hS ?_
            · first | exact hN | (rw [e_9]; exact hN)
            · first | exact lv_sub hl [0, 2] rfl | (rw [e_9]; exact lv_sub hl [0, 2] rfl)
  exact loop1 (n + 1) 0 _ _ _ (by omega) (by omega) hN hS (lv_sub hl [0, 1] rfl)

theorem in_X2_nearestHead_X1 : ∀ w ∈ wsX10, w ∈ wsX2_nearestHead := by decide +kernel
theorem in_X2_nearestHead_X2 : ∀ w ∈ wsX20, w ∈ wsX2_nearestHead := by decide +kernel
set_option maxHeartbeats 4000000 in
set_option maxRecDepth 100000 in
theorem c_X2_nearestHead (l : Launch) (G : zG) (A : Nat → Prop) (ad : Nat → Nat) (n N : Nat) (g : Nat → Int32) (r : Nat) (hA : zAp G ad (zX r ad) A) (hnN : n ≤ N) (hN12 : N ≤ 12) (τ : zT) (x y : Int32) : zMi l G A yX2_nearestHead wsX2_nearestHead 1 24 [.ref r, .int x, .int y] (zNA G ad n N g (zX r ad) τ) (zOi (zNe n τ x y)) (zNA G ad n N g (zX r ad) τ) := by
  refine z_met (cc := cX2_nearestHead) (maxL := 7) (ret := (some .int)) (by decide) rfl (Nat.le_of_ble_eq_true rfl) ?_
  intro p e s m below meth c ls S hr hlk hnm hN hK hl
  have S : CallFix p m c cX2_nearestHead 7 s _ wsX2_nearestHead RX2 := S
  obtain ⟨hx, hb, hml, hown, hts⟩ := id S
  have hS : va_S A s.heap s.heap [] := va_S.rf
  have hl : lv_has ls 7 [(0, .ref r), (1, .int x), (2, .int y)] := hl
  refine lv_bipush (v := -9) hx hb dX2_nearestHead_0 (by decide) ?_
  refine lv_istore_n (lv' := [(3, .int (-9)), (0, .ref r), (1, .int x), (2, .int y)]) hx hb dX2_nearestHead_2 rfl hl (by decide) rfl (fun ls hl => ?_)
  refine lv_iconst (v := 0) hx hb dX2_nearestHead_3 (by decide) ?_
  refine lv_istore (lv' := [(4, .int 0), (3, .int (-9)), (0, .ref r), (1, .int x), (2, .int y)]) hx hb dX2_nearestHead_4 hl (by decide) rfl (fun ls hl => ?_)
  refine lv_iconst (v := 0) hx hb dX2_nearestHead_6 (by decide) ?_
  refine lv_istore (lv' := [(5, .int 0), (4, .int 0), (3, .int (-9)), (0, .ref r), (1, .int x), (2, .int y)]) hx hb dX2_nearestHead_7 hl (by decide) rfl (fun ls hl => ?_)
  have loop1 : ∀ (f1 h : Nat) (H : Heap) (locs : List Loc) (ls : Array Slot), h ≤ n → n < h + f1 → zNA G ad n N g (zX r ad) τ H → va_S A s.heap H locs → lv_has ls 7 [(5, .int (nI h)), (4, .int (zOd τ x y (zIt (zNeS τ x y) h none))), (3, .int (zOi (zIt (zNeS τ x y) h none))), (0, .ref r), (1, .int x), (2, .int y)] → W p l e ({ frames := 1, cells := 0, slots := 0, locals := 24 } : Room) s m ([.ref r, .int x, .int y] : List Value).toArray below meth c H locs 0 0 (MQ below (zQi G (zOi (zNe n τ x y)) (zNA G ad n N g (zX r ad) τ) A) ([.ref r, .int x, .int y] : List Value).toArray s 0 0 A) (F0 m 9 ls []) := by
    intro f1
    induction f1 with
    | zero => intro h H locs ls h1 h2; exact absurd h2 (by omega)
    | succ f1 ih1 =>
      intro h H locs ls hk1 hf1 hN hS hl
      generalize hF_o : zIt (zNeS τ x y) h none = o at hN hl 
      rcases o with _ | b
      · skip
        have hl : lv_has ls 7 [(5, .int (nI h)), (4, .int 0), (3, .int (-9)), (0, .ref r), (1, .int x), (2, .int y)] := hl
        refine lv_iload hx hb dX2_nearestHead_9 (lv_at hl 0 rfl) ?_
        refine lv_aload_n hx hb dX2_nearestHead_11 rfl (lv_at hl 3 rfl) ?_
        refine z_getR hx hb hts hown in_X2_nearestHead_X2 hK hN (hts _ (List.mem_of_getElem? (i := 1) (by decide +kernel))) dX2_nearestHead_12 ?_
        refine z_getO (v := .int (nI n)) hx hb hts hown in_X2_nearestHead_X1 hK hN 2 (by decide) rfl (hts _ (List.mem_of_getElem? (i := 2) (by decide +kernel))) rfl dX2_nearestHead_15 ?_
        refine lv_icmp_ge (tgt := 73) hx hb dX2_nearestHead_18 (by decide) (fun c_1 => ?_) (fun c_2 => ?_)
        · skip
          have c_1 := (z_leI (a := n) (b := h) (by omega) (by omega)).mp c_1
          have hkn1 : h = n := by omega
          rw [hkn1] at hF_o
          refine lv_iload_n hx hb dX2_nearestHead_73 rfl (lv_at hl 2 rfl) ?_
          refine z_top (x2 := zOi (zNe n τ x y)) (by first | with_reducible rfl | (simp only [zNe, zOi, c_1, hF_o, eq_self, ne_eq, not_true_eq_false, not_false_eq_true, and_true, true_and, and_self, and_false, false_and, true_or, or_true, false_or, or_false, reduceIte]; done) | (simp [zNe, zOi, c_1, hF_o]; done) | rfl | (simp_all [zNe, zOi]; done)) ?_
          exact z_iret hx hb hr hlk hK hS (hN) dX2_nearestHead_74
        · skip
          have c_2 := (not_congr (z_leI (a := n) (b := h) (by omega) (by omega))).mp c_2
          refine lv_aload_n hx hb dX2_nearestHead_21 rfl (lv_at hl 3 rfl) ?_
          refine lv_iload hx hb dX2_nearestHead_22 (lv_at hl 0 rfl) ?_
          refine z_vi (As := [.int (nI h)]) (rest := []) (P2 := zNA G ad n N g (zX r ad) τ) (r := zBi (τ 3 h = 1 ∧ τ 7 h = nI h)) S (c_X2_isLivingHead l G A ad n N g r hA hnN hN12  τ h (by omega)) (cwV 1 hts gX2_nearestHead_X2_isLivingHead rfl rfl rfl (by decide +kernel) ⟨Nat.le_of_ble_eq_true rfl, Nat.le_of_ble_eq_true rfl⟩) (z_recR hK hN) hN hK hS (fun _ _ h => h) (fun _ h => h) hl.1 rfl rfl (Nat.le_of_ble_eq_true rfl) dX2_nearestHead_24 ⟨Nat.le_refl _, Nat.le_refl _⟩ (fun H locs hN hS _ => ?_)
          refine lv_if_eq (tgt := 67) hx hb dX2_nearestHead_27 (by decide) (fun c_3 => ?_) (fun c_4 => ?_)
          · skip
            have c_3 := zBi_0.mp c_3
            refine lv_iinc (v := nI (h + 1)) (lv' := [(5, .int (nI (h + 1))), (4, .int 0), (3, .int (-9)), (0, .ref r), (1, .int x), (2, .int y)]) hx hb dX2_nearestHead_67 hl (k := 0) rfl (nI_1 _) (by decide) rfl (fun ls hl => ?_)
            refine lv_goto (tgt := 9) hx hb dX2_nearestHead_70 (by decide) ?_
            have e_5 : zIt (zNeS τ x y) (h + 1) none = none := by
              rw [zIt_s, hF_o]
              first | with_reducible rfl | (simp only [zNeS, zOd, c_2, c_3, eq_self, ne_eq, not_true_eq_false, not_false_eq_true, and_true, true_and, and_self, and_false, false_and, true_or, or_true, false_or, or_false, reduceIte]; done) | (simp [zNeS, zOd, c_2, c_3]; done) | rfl | (simp_all [zNeS, zOd]; done)
            refine ih1 (h + 1) _ _ _ (by omega) (by omega) ?_ hS ?_
            · first | exact hN | (rw [e_5]; exact hN)
            · first | exact lv_sub hl [0, 1, 2, 3, 4, 5] rfl | (rw [e_5]; exact lv_sub hl [0, 1, 2, 3, 4, 5] rfl)
          · skip
            have c_4 := zBi_n0.mp c_4
            refine lv_aload_n hx hb dX2_nearestHead_30 rfl (lv_at hl 3 rfl) ?_
            refine z_getR hx hb hts hown in_X2_nearestHead_X2 hK hN (hts _ (List.mem_of_getElem? (i := 1) (by decide +kernel))) dX2_nearestHead_31 ?_
            refine z_getO (v := .ref (ad 1)) hx hb hts hown in_X2_nearestHead_X1 hK hN 0 (by decide) rfl (hts _ (List.mem_of_getElem? (i := 3) (by decide +kernel))) rfl dX2_nearestHead_34 ?_
            refine lv_iload hx hb dX2_nearestHead_37 (lv_at hl 0 rfl) ?_
            refine z_aald (i := h) hx hb hK hN rfl (by omega) dX2_nearestHead_39 ?_
            refine lv_iload_n hx hb dX2_nearestHead_40 rfl (lv_at hl 4 rfl) ?_
            refine lv_iload_n hx hb dX2_nearestHead_41 rfl (lv_at hl 5 rfl) ?_
            refine z_vi (As := [.int x, .int y]) (rest := []) (P2 := zNA G ad n N g (zX r ad) τ) (r := zDi (τ 0 h) (τ 1 h) x y) S (c_X3_distanceTo l G A ad n N g (zX r ad) hA hnN hN12  τ h (by omega) x y) (cwV 2 hts gX2_nearestHead_X3_distanceTo rfl rfl rfl (by decide +kernel) ⟨Nat.le_of_ble_eq_true rfl, Nat.le_of_ble_eq_true rfl⟩) (z_recS hK hN (by omega)) hN hK hS (fun _ _ h => h) (fun _ h => h) hl.1 rfl rfl (Nat.le_of_ble_eq_true rfl) dX2_nearestHead_42 ⟨Nat.le_refl _, Nat.le_refl _⟩ (fun H locs hN hS _ => ?_)
            refine lv_istore (lv' := [(6, .int (zDi (τ 0 h) (τ 1 h) x y)), (5, .int (nI h)), (4, .int 0), (3, .int (-9)), (0, .ref r), (1, .int x), (2, .int y)]) hx hb dX2_nearestHead_45 hl (by decide) rfl (fun ls hl => ?_)
            refine lv_iload_n hx hb dX2_nearestHead_47 rfl (lv_at hl 3 rfl) ?_
            refine lv_bipush (v := -9) hx hb dX2_nearestHead_48 (by decide) ?_
            refine lv_icmp_eq (tgt := 60) hx hb dX2_nearestHead_50 (by decide) (fun _ => ?_) (fun q => absurd (by decide) q)
            refine lv_iload hx hb dX2_nearestHead_60 (lv_at hl 1 rfl) ?_
            refine lv_istore_n (lv' := [(3, .int (nI h)), (6, .int (zDi (τ 0 h) (τ 1 h) x y)), (5, .int (nI h)), (4, .int 0), (0, .ref r), (1, .int x), (2, .int y)]) hx hb dX2_nearestHead_62 rfl hl (by decide) rfl (fun ls hl => ?_)
            refine lv_iload hx hb dX2_nearestHead_63 (lv_at hl 1 rfl) ?_
            refine lv_istore (lv' := [(4, .int (zDi (τ 0 h) (τ 1 h) x y)), (3, .int (nI h)), (6, .int (zDi (τ 0 h) (τ 1 h) x y)), (5, .int (nI h)), (0, .ref r), (1, .int x), (2, .int y)]) hx hb dX2_nearestHead_65 hl (by decide) rfl (fun ls hl => ?_)
            refine lv_iinc (v := nI (h + 1)) (lv' := [(5, .int (nI (h + 1))), (4, .int (zDi (τ 0 h) (τ 1 h) x y)), (3, .int (nI h)), (6, .int (zDi (τ 0 h) (τ 1 h) x y)), (0, .ref r), (1, .int x), (2, .int y)]) hx hb dX2_nearestHead_67 hl (k := 3) rfl (nI_1 _) (by decide) rfl (fun ls hl => ?_)
            refine lv_goto (tgt := 9) hx hb dX2_nearestHead_70 (by decide) ?_
            have e_6 : zIt (zNeS τ x y) (h + 1) none = some h := by
              rw [zIt_s, hF_o]
              first | with_reducible rfl | (simp only [zNeS, zOd, c_2, c_4, eq_self, ne_eq, not_true_eq_false, not_false_eq_true, and_true, true_and, and_self, and_false, false_and, true_or, or_true, false_or, or_false, reduceIte]; done) | (simp [zNeS, zOd, c_2, c_4]; done) | rfl | (simp_all [zNeS, zOd]; done)
            refine ih1 (h + 1) _ _ _ (by omega) (by omega) ?_ hS ?_
            · first | exact hN | (rw [e_6]; exact hN)
            · first | exact lv_sub hl [0, 1, 2, 4, 5, 6] rfl | (rw [e_6]; exact lv_sub hl [0, 1, 2, 4, 5, 6] rfl)
      · skip
        have hb1 : b < h := zNe_lt n τ x y h b hF_o
        have hb2 : b < n := by omega
        have hl : lv_has ls 7 [(5, .int (nI h)), (4, .int (zDi (τ 0 b) (τ 1 b) x y)), (3, .int (nI b)), (0, .ref r), (1, .int x), (2, .int y)] := hl
        refine lv_iload hx hb dX2_nearestHead_9 (lv_at hl 0 rfl) ?_
        refine lv_aload_n hx hb dX2_nearestHead_11 rfl (lv_at hl 3 rfl) ?_
        refine z_getR hx hb hts hown in_X2_nearestHead_X2 hK hN (hts _ (List.mem_of_getElem? (i := 1) (by decide +kernel))) dX2_nearestHead_12 ?_
        refine z_getO (v := .int (nI n)) hx hb hts hown in_X2_nearestHead_X1 hK hN 2 (by decide) rfl (hts _ (List.mem_of_getElem? (i := 2) (by decide +kernel))) rfl dX2_nearestHead_15 ?_
        refine lv_icmp_ge (tgt := 73) hx hb dX2_nearestHead_18 (by decide) (fun c_7 => ?_) (fun c_8 => ?_)
        · skip
          have c_7 := (z_leI (a := n) (b := h) (by omega) (by omega)).mp c_7
          have hkn1 : h = n := by omega
          rw [hkn1] at hF_o
          refine lv_iload_n hx hb dX2_nearestHead_73 rfl (lv_at hl 2 rfl) ?_
          refine z_top (x2 := zOi (zNe n τ x y)) (by first | with_reducible rfl | (simp only [zNe, zOi, c_7, hF_o, eq_self, ne_eq, not_true_eq_false, not_false_eq_true, and_true, true_and, and_self, and_false, false_and, true_or, or_true, false_or, or_false, reduceIte]; done) | (simp [zNe, zOi, c_7, hF_o]; done) | rfl | (simp_all [zNe, zOi]; done)) ?_
          exact z_iret hx hb hr hlk hK hS (hN) dX2_nearestHead_74
        · skip
          have c_8 := (not_congr (z_leI (a := n) (b := h) (by omega) (by omega))).mp c_8
          refine lv_aload_n hx hb dX2_nearestHead_21 rfl (lv_at hl 3 rfl) ?_
          refine lv_iload hx hb dX2_nearestHead_22 (lv_at hl 0 rfl) ?_
          refine z_vi (As := [.int (nI h)]) (rest := []) (P2 := zNA G ad n N g (zX r ad) τ) (r := zBi (τ 3 h = 1 ∧ τ 7 h = nI h)) S (c_X2_isLivingHead l G A ad n N g r hA hnN hN12  τ h (by omega)) (cwV 1 hts gX2_nearestHead_X2_isLivingHead rfl rfl rfl (by decide +kernel) ⟨Nat.le_of_ble_eq_true rfl, Nat.le_of_ble_eq_true rfl⟩) (z_recR hK hN) hN hK hS (fun _ _ h => h) (fun _ h => h) hl.1 rfl rfl (Nat.le_of_ble_eq_true rfl) dX2_nearestHead_24 ⟨Nat.le_refl _, Nat.le_refl _⟩ (fun H locs hN hS _ => ?_)
          refine lv_if_eq (tgt := 67) hx hb dX2_nearestHead_27 (by decide) (fun c_9 => ?_) (fun c_10 => ?_)
          · skip
            have c_9 := zBi_0.mp c_9
            refine lv_iinc (v := nI (h + 1)) (lv' := [(5, .int (nI (h + 1))), (4, .int (zDi (τ 0 b) (τ 1 b) x y)), (3, .int (nI b)), (0, .ref r), (1, .int x), (2, .int y)]) hx hb dX2_nearestHead_67 hl (k := 0) rfl (nI_1 _) (by decide) rfl (fun ls hl => ?_)
            refine lv_goto (tgt := 9) hx hb dX2_nearestHead_70 (by decide) ?_
            have e_11 : zIt (zNeS τ x y) (h + 1) none = some b := by
              rw [zIt_s, hF_o]
              first | with_reducible rfl | (simp only [zNeS, zOd, c_8, c_9, eq_self, ne_eq, not_true_eq_false, not_false_eq_true, and_true, true_and, and_self, and_false, false_and, true_or, or_true, false_or, or_false, reduceIte]; done) | (simp [zNeS, zOd, c_8, c_9]; done) | rfl | (simp_all [zNeS, zOd]; done)
            refine ih1 (h + 1) _ _ _ (by omega) (by omega) ?_ hS ?_
            · first | exact hN | (rw [e_11]; exact hN)
            · first | exact lv_sub hl [0, 1, 2, 3, 4, 5] rfl | (rw [e_11]; exact lv_sub hl [0, 1, 2, 3, 4, 5] rfl)
          · skip
            have c_10 := zBi_n0.mp c_10
            refine lv_aload_n hx hb dX2_nearestHead_30 rfl (lv_at hl 3 rfl) ?_
            refine z_getR hx hb hts hown in_X2_nearestHead_X2 hK hN (hts _ (List.mem_of_getElem? (i := 1) (by decide +kernel))) dX2_nearestHead_31 ?_
            refine z_getO (v := .ref (ad 1)) hx hb hts hown in_X2_nearestHead_X1 hK hN 0 (by decide) rfl (hts _ (List.mem_of_getElem? (i := 3) (by decide +kernel))) rfl dX2_nearestHead_34 ?_
            refine lv_iload hx hb dX2_nearestHead_37 (lv_at hl 0 rfl) ?_
            refine z_aald (i := h) hx hb hK hN rfl (by omega) dX2_nearestHead_39 ?_
            refine lv_iload_n hx hb dX2_nearestHead_40 rfl (lv_at hl 4 rfl) ?_
            refine lv_iload_n hx hb dX2_nearestHead_41 rfl (lv_at hl 5 rfl) ?_
            refine z_vi (As := [.int x, .int y]) (rest := []) (P2 := zNA G ad n N g (zX r ad) τ) (r := zDi (τ 0 h) (τ 1 h) x y) S (c_X3_distanceTo l G A ad n N g (zX r ad) hA hnN hN12  τ h (by omega) x y) (cwV 2 hts gX2_nearestHead_X3_distanceTo rfl rfl rfl (by decide +kernel) ⟨Nat.le_of_ble_eq_true rfl, Nat.le_of_ble_eq_true rfl⟩) (z_recS hK hN (by omega)) hN hK hS (fun _ _ h => h) (fun _ h => h) hl.1 rfl rfl (Nat.le_of_ble_eq_true rfl) dX2_nearestHead_42 ⟨Nat.le_refl _, Nat.le_refl _⟩ (fun H locs hN hS _ => ?_)
            refine lv_istore (lv' := [(6, .int (zDi (τ 0 h) (τ 1 h) x y)), (5, .int (nI h)), (4, .int (zDi (τ 0 b) (τ 1 b) x y)), (3, .int (nI b)), (0, .ref r), (1, .int x), (2, .int y)]) hx hb dX2_nearestHead_45 hl (by decide) rfl (fun ls hl => ?_)
            refine lv_iload_n hx hb dX2_nearestHead_47 rfl (lv_at hl 3 rfl) ?_
            refine lv_bipush (v := -9) hx hb dX2_nearestHead_48 (by decide) ?_
            refine lv_icmp_eq (tgt := 60) hx hb dX2_nearestHead_50 (by decide) (fun q => absurd q (zOi_lt (by omega))) (fun _ => ?_)
            refine lv_iload hx hb dX2_nearestHead_53 (lv_at hl 0 rfl) ?_
            refine lv_iload hx hb dX2_nearestHead_55 (lv_at hl 2 rfl) ?_
            refine lv_icmp_ge (tgt := 67) hx hb dX2_nearestHead_57 (by decide) (fun c_12 => ?_) (fun c_13 => ?_)
            · skip
              have c_12 := Int32.not_lt.mpr c_12
              refine lv_iinc (v := nI (h + 1)) (lv' := [(5, .int (nI (h + 1))), (6, .int (zDi (τ 0 h) (τ 1 h) x y)), (4, .int (zDi (τ 0 b) (τ 1 b) x y)), (3, .int (nI b)), (0, .ref r), (1, .int x), (2, .int y)]) hx hb dX2_nearestHead_67 hl (k := 1) rfl (nI_1 _) (by decide) rfl (fun ls hl => ?_)
              refine lv_goto (tgt := 9) hx hb dX2_nearestHead_70 (by decide) ?_
              have e_14 : zIt (zNeS τ x y) (h + 1) none = some b := by
                rw [zIt_s, hF_o]
                first | with_reducible rfl | (simp only [zNeS, zOd, c_8, c_10, c_12, eq_self, ne_eq, not_true_eq_false, not_false_eq_true, and_true, true_and, and_self, and_false, false_and, true_or, or_true, false_or, or_false, reduceIte]; done) | (simp [zNeS, zOd, c_8, c_10, c_12]; done) | rfl | (simp_all [zNeS, zOd]; done)
              refine ih1 (h + 1) _ _ _ (by omega) (by omega) ?_ hS ?_
              · first | exact hN | (rw [e_14]; exact hN)
              · first | exact lv_sub hl [0, 2, 3, 4, 5, 6] rfl | (rw [e_14]; exact lv_sub hl [0, 2, 3, 4, 5, 6] rfl)
            · skip
              have c_13 := Int32.not_le.mp c_13
              refine lv_iload hx hb dX2_nearestHead_60 (lv_at hl 1 rfl) ?_
              refine lv_istore_n (lv' := [(3, .int (nI h)), (6, .int (zDi (τ 0 h) (τ 1 h) x y)), (5, .int (nI h)), (4, .int (zDi (τ 0 b) (τ 1 b) x y)), (0, .ref r), (1, .int x), (2, .int y)]) hx hb dX2_nearestHead_62 rfl hl (by decide) rfl (fun ls hl => ?_)
              refine lv_iload hx hb dX2_nearestHead_63 (lv_at hl 1 rfl) ?_
              refine lv_istore (lv' := [(4, .int (zDi (τ 0 h) (τ 1 h) x y)), (3, .int (nI h)), (6, .int (zDi (τ 0 h) (τ 1 h) x y)), (5, .int (nI h)), (0, .ref r), (1, .int x), (2, .int y)]) hx hb dX2_nearestHead_65 hl (by decide) rfl (fun ls hl => ?_)
              refine lv_iinc (v := nI (h + 1)) (lv' := [(5, .int (nI (h + 1))), (4, .int (zDi (τ 0 h) (τ 1 h) x y)), (3, .int (nI h)), (6, .int (zDi (τ 0 h) (τ 1 h) x y)), (0, .ref r), (1, .int x), (2, .int y)]) hx hb dX2_nearestHead_67 hl (k := 3) rfl (nI_1 _) (by decide) rfl (fun ls hl => ?_)
              refine lv_goto (tgt := 9) hx hb dX2_nearestHead_70 (by decide) ?_
              have e_15 : zIt (zNeS τ x y) (h + 1) none = some h := by
                rw [zIt_s, hF_o]
                first | with_reducible rfl | (simp only [zNeS, zOd, c_8, c_10, c_13, eq_self, ne_eq, not_true_eq_false, not_false_eq_true, and_true, true_and, and_self, and_false, false_and, true_or, or_true, false_or, or_false, reduceIte]; done) | (simp [zNeS, zOd, c_8, c_10, c_13]; done) | rfl | (simp_all [zNeS, zOd]; done)
              refine ih1 (h + 1) _ _ _ (by omega) (by omega) ?_ hS ?_
              · first | exact hN | (rw [e_15]; exact hN)
              · first | exact lv_sub hl [0, 1, 2, 4, 5, 6] rfl | (rw [e_15]; exact lv_sub hl [0, 1, 2, 4, 5, 6] rfl)
  exact loop1 (n + 1) 0 _ _ _ (by omega) (by omega) hN hS (lv_sub hl [0, 1, 2, 3, 4, 5] rfl)

theorem in_X2_giveSlots_X1 : ∀ w ∈ wsX10, w ∈ wsX2_giveSlots := by decide +kernel
theorem in_X2_giveSlots_X2 : ∀ w ∈ wsX20, w ∈ wsX2_giveSlots := by decide +kernel
theorem in_X2_giveSlots_X3 : ∀ w ∈ wsX30, w ∈ wsX2_giveSlots := by decide +kernel
set_option maxHeartbeats 4000000 in
set_option maxRecDepth 100000 in
theorem c_X2_giveSlots (l : Launch) (G : zG) (A : Nat → Prop) (ad : Nat → Nat) (n N : Nat) (g : Nat → Int32) (r : Nat) (hA : zAp G ad (zX r ad) A) (hnN : n ≤ N) (hN12 : N ≤ 12) (τ : zT) (h : Nat) (hh : h < n) : zMv l G A yX2_giveSlots wsX2_giveSlots 1 22 [.ref r, .int (nI h)] (zNA G ad n N g (zX r ad) τ) (zNA G ad n N g (zX r ad) (zGs n h τ)) := by
  refine z_met (cc := cX2_giveSlots) (maxL := 4) (ret := none) (by decide) rfl (Nat.le_of_ble_eq_true rfl) ?_
  intro p e s m below meth c ls S hr hlk hnm hN hK hl
  have S : CallFix p m c cX2_giveSlots 4 s _ wsX2_giveSlots RX2 := S
  obtain ⟨hx, hb, hml, hown, hts⟩ := id S
  have hS : va_S A s.heap s.heap [] := va_S.rf
  have hl : lv_has ls 4 [(0, .ref r), (1, .int (nI h))] := hl
  refine lv_iconst (v := 0) hx hb dX2_giveSlots_0 (by decide) ?_
  refine lv_istore_n (lv' := [(2, .int 0), (0, .ref r), (1, .int (nI h))]) hx hb dX2_giveSlots_1 rfl hl (by decide) rfl (fun ls hl => ?_)
  refine lv_iconst (v := 0) hx hb dX2_giveSlots_2 (by decide) ?_
  refine lv_istore_n (lv' := [(3, .int 0), (2, .int 0), (0, .ref r), (1, .int (nI h))]) hx hb dX2_giveSlots_3 rfl hl (by decide) rfl (fun ls hl => ?_)
  have loop1 : ∀ (f1 k : Nat) (H : Heap) (locs : List Loc) (ls : Array Slot), k ≤ n → n < k + f1 → zNA G ad n N g (zX r ad) (zIt (zGsS h) k (0, τ)).2 H → va_S A s.heap H locs → lv_has ls 4 [(3, .int (nI k)), (2, .int ((zIt (zGsS h) k (0, τ)).1)), (0, .ref r), (1, .int (nI h))] → W p l e ({ frames := 1, cells := 0, slots := 0, locals := 22 } : Room) s m ([.ref r, .int (nI h)] : List Value).toArray below meth c H locs 0 0 (MQ below (zQv G (zNA G ad n N g (zX r ad) (zGs n h τ)) A) ([.ref r, .int (nI h)] : List Value).toArray s 0 0 A) (F0 m 4 ls []) := by
    intro f1
    induction f1 with
    | zero => intro k H locs ls h1 h2; exact absurd h2 (by omega)
    | succ f1 ih1 =>
      intro k H locs ls hk1 hf1 hN hS hl
      generalize hF_u : zIt (zGsS h) k (0, τ) = u at hN hl 
      refine lv_iload_n hx hb dX2_giveSlots_4 rfl (lv_at hl 0 rfl) ?_
      refine lv_aload_n hx hb dX2_giveSlots_5 rfl (lv_at hl 2 rfl) ?_
      refine z_getR hx hb hts hown in_X2_giveSlots_X2 hK hN (hts _ (List.mem_of_getElem? (i := 1) (by decide +kernel))) dX2_giveSlots_6 ?_
      refine z_getO (v := .int (nI n)) hx hb hts hown in_X2_giveSlots_X1 hK hN 2 (by decide) rfl (hts _ (List.mem_of_getElem? (i := 2) (by decide +kernel))) rfl dX2_giveSlots_9 ?_
      refine lv_icmp_ge (tgt := 46) hx hb dX2_giveSlots_12 (by decide) (fun c_1 => ?_) (fun c_2 => ?_)
      · skip
        have c_1 := (z_leI (a := n) (b := k) (by omega) (by omega)).mp c_1
        have hkn1 : k = n := by omega
        rw [hkn1] at hF_u
        subst hF_u
        exact z_vret hx hb hr hlk hK hS (hN.cast (by first | with_reducible rfl | (simp only [zGs, c_1, eq_self, ne_eq, not_true_eq_false, not_false_eq_true, and_true, true_and, and_self, and_false, false_and, true_or, or_true, false_or, or_false, reduceIte]; done) | (simp [zGs, c_1]; done) | rfl | (simp_all [zGs]; done))) dX2_giveSlots_46
      · skip
        have c_2 := (not_congr (z_leI (a := n) (b := k) (by omega) (by omega))).mp c_2
        refine lv_aload_n hx hb dX2_giveSlots_15 rfl (lv_at hl 2 rfl) ?_
        refine lv_iload_n hx hb dX2_giveSlots_16 rfl (lv_at hl 0 rfl) ?_
        refine lv_iload_n hx hb dX2_giveSlots_17 rfl (lv_at hl 3 rfl) ?_
        refine z_vi (As := [.int (nI k), .int (nI h)]) (rest := []) (P2 := zNA G ad n N g (zX r ad) u.2) (r := zBi (k ≠ h ∧ u.2 7 k = nI h)) S (c_X2_hasJoined l G A ad n N g r hA hnN hN12  u.2 k h (by omega) (by omega)) (cwV 2 hts gX2_giveSlots_X2_hasJoined rfl rfl rfl (by decide +kernel) ⟨Nat.le_of_ble_eq_true rfl, Nat.le_of_ble_eq_true rfl⟩) (z_recR hK hN) hN hK hS (fun _ _ h => h) (fun _ h => h) hl.1 rfl rfl (Nat.le_of_ble_eq_true rfl) dX2_giveSlots_18 ⟨Nat.le_refl _, Nat.le_refl _⟩ (fun H locs hN hS _ => ?_)
        refine lv_if_eq (tgt := 40) hx hb dX2_giveSlots_21 (by decide) (fun c_3 => ?_) (fun c_4 => ?_)
        · skip
          have c_3 := zBi_0.mp c_3
          refine lv_iinc (v := nI (k + 1)) (lv' := [(3, .int (nI (k + 1))), (2, .int u.1), (0, .ref r), (1, .int (nI h))]) hx hb dX2_giveSlots_40 hl (k := 0) rfl (nI_1 _) (by decide) rfl (fun ls hl => ?_)
          refine lv_goto (tgt := 4) hx hb dX2_giveSlots_43 (by decide) ?_
          have e_5 : zIt (zGsS h) (k + 1) (0, τ) = (u.1, u.2) := by
            rw [zIt_s, hF_u]
            first | with_reducible rfl | (simp only [zGsS, c_2, c_3, eq_self, ne_eq, not_true_eq_false, not_false_eq_true, and_true, true_and, and_self, and_false, false_and, true_or, or_true, false_or, or_false, reduceIte]; done) | (simp [zGsS, c_2, c_3]; done) | rfl | (simp_all [zGsS]; done)
          refine ih1 (k + 1) _ _ _ (by omega) (by omega) ?_ hS ?_
          · first | exact hN | (rw [e_5]; exact hN)
          · first | exact lv_sub hl [0, 1, 2, 3] rfl | (rw [e_5]; exact lv_sub hl [0, 1, 2, 3] rfl)
        · skip
          have c_4 := zBi_n0.mp c_4
          refine lv_aload_n hx hb dX2_giveSlots_24 rfl (lv_at hl 2 rfl) ?_
          refine z_getR hx hb hts hown in_X2_giveSlots_X2 hK hN (hts _ (List.mem_of_getElem? (i := 1) (by decide +kernel))) dX2_giveSlots_25 ?_
          refine z_getO (v := .ref (ad 1)) hx hb hts hown in_X2_giveSlots_X1 hK hN 0 (by decide) rfl (hts _ (List.mem_of_getElem? (i := 3) (by decide +kernel))) rfl dX2_giveSlots_28 ?_
          refine lv_iload_n hx hb dX2_giveSlots_31 rfl (lv_at hl 0 rfl) ?_
          refine z_aald (i := k) hx hb hK hN rfl (by omega) dX2_giveSlots_32 ?_
          refine lv_iload_n hx hb dX2_giveSlots_33 rfl (lv_at hl 1 rfl) ?_
          refine z_putS (v := .int u.1) (w := u.1) (ty := .int) hx hb hts hown in_X2_giveSlots_X3 hK hA hS hN (by omega) 8 8 (by decide) rfl (by decide) (hts _ (List.mem_of_getElem? (i := 4) (by decide +kernel))) (by decide +kernel) rfl rfl rfl (fun τ => zSet8 τ _ _) dX2_giveSlots_34 (fun H locs hN hS => ?_)
          refine lv_iinc (v := u.1 + 1) (lv' := [(2, .int (u.1 + 1)), (3, .int (nI k)), (0, .ref r), (1, .int (nI h))]) hx hb dX2_giveSlots_37 hl (k := 1) rfl rfl (by decide) rfl (fun ls hl => ?_)
          refine lv_iinc (v := nI (k + 1)) (lv' := [(3, .int (nI (k + 1))), (2, .int (u.1 + 1)), (0, .ref r), (1, .int (nI h))]) hx hb dX2_giveSlots_40 hl (k := 1) rfl (nI_1 _) (by decide) rfl (fun ls hl => ?_)
          refine lv_goto (tgt := 4) hx hb dX2_giveSlots_43 (by decide) ?_
          have e_6 : zIt (zGsS h) (k + 1) (0, τ) = (u.1 + 1, zSt u.2 8 k u.1) := by
            rw [zIt_s, hF_u]
            first | with_reducible rfl | (simp only [zGsS, c_2, c_4, eq_self, ne_eq, not_true_eq_false, not_false_eq_true, and_true, true_and, and_self, and_false, false_and, true_or, or_true, false_or, or_false, reduceIte]; done) | (simp [zGsS, c_2, c_4]; done) | rfl | (simp_all [zGsS]; done)
          refine ih1 (k + 1) _ _ _ (by omega) (by omega) ?_ hS ?_
          · first | exact hN | (rw [e_6]; exact hN)
          · first | exact lv_sub hl [0, 1, 2, 3] rfl | (rw [e_6]; exact lv_sub hl [0, 1, 2, 3] rfl)
  exact loop1 (n + 1) 0 _ _ _ (by omega) (by omega) hN hS (lv_sub hl [0, 1, 2, 3] rfl)

theorem in_X2_join_X1 : ∀ w ∈ wsX10, w ∈ wsX2_join := by decide +kernel
theorem in_X2_join_X2 : ∀ w ∈ wsX20, w ∈ wsX2_join := by decide +kernel
theorem in_X2_join_X3 : ∀ w ∈ wsX30, w ∈ wsX2_join := by decide +kernel
set_option maxHeartbeats 4000000 in
set_option maxRecDepth 100000 in
theorem c_X2_join (l : Launch) (G : zG) (A : Nat → Prop) (ad : Nat → Nat) (n N : Nat) (g : Nat → Int32) (r : Nat) (hA : zAp G ad (zX r ad) A) (hnN : n ≤ N) (hN12 : N ≤ 12) (τ : zT) : zMv l G A yX2_join wsX2_join 2 50 [.ref r] (zNA G ad n N g (zX r ad) τ) (zNA G ad n N g (zX r ad) (zJo n τ)) := by
  refine z_met (cc := cX2_join) (maxL := 3) (ret := none) (by decide) rfl (Nat.le_of_ble_eq_true rfl) ?_
  intro p e s m below meth c ls S hr hlk hnm hN hK hl
  have S : CallFix p m c cX2_join 3 s _ wsX2_join RX2 := S
  obtain ⟨hx, hb, hml, hown, hts⟩ := id S
  have hS : va_S A s.heap s.heap [] := va_S.rf
  have hl : lv_has ls 3 [(0, .ref r)] := hl
  refine lv_iconst (v := 0) hx hb dX2_join_0 (by decide) ?_
  refine lv_istore_n (lv' := [(1, .int 0), (0, .ref r)]) hx hb dX2_join_1 rfl hl (by decide) rfl (fun ls hl => ?_)
  have loop1 : ∀ (f1 k : Nat) (H : Heap) (locs : List Loc) (ls : Array Slot), k ≤ n → n < k + f1 → zNA G ad n N g (zX r ad) (zIt (zJ1S n) k τ) H → va_S A s.heap H locs → lv_has ls 3 [(1, .int (nI k)), (0, .ref r)] → W p l e ({ frames := 2, cells := 0, slots := 0, locals := 50 } : Room) s m ([.ref r] : List Value).toArray below meth c H locs 0 0 (MQ below (zQv G (zNA G ad n N g (zX r ad) (zJo n τ)) A) ([.ref r] : List Value).toArray s 0 0 A) (F0 m 2 ls []) := by
    intro f1
    induction f1 with
    | zero => intro k H locs ls h1 h2; exact absurd h2 (by omega)
    | succ f1 ih1 =>
      intro k H locs ls hk1 hf1 hN hS hl
      generalize hF_τk : zIt (zJ1S n) k τ = τk at hN hl 
      refine lv_iload_n hx hb dX2_join_2 rfl (lv_at hl 0 rfl) ?_
      refine lv_aload_n hx hb dX2_join_3 rfl (lv_at hl 1 rfl) ?_
      refine z_getR hx hb hts hown in_X2_join_X2 hK hN (hts _ (List.mem_of_getElem? (i := 1) (by decide +kernel))) dX2_join_4 ?_
      refine z_getO (v := .int (nI n)) hx hb hts hown in_X2_join_X1 hK hN 2 (by decide) rfl (hts _ (List.mem_of_getElem? (i := 2) (by decide +kernel))) rfl dX2_join_7 ?_
      refine lv_icmp_ge (tgt := 60) hx hb dX2_join_10 (by decide) (fun c_1 => ?_) (fun c_2 => ?_)
      · skip
        have c_1 := (z_leI (a := n) (b := k) (by omega) (by omega)).mp c_1
        have hkn1 : k = n := by omega
        rw [hkn1] at hF_τk
        subst hF_τk
        refine lv_iconst (v := 0) hx hb dX2_join_60 (by decide) ?_
        refine lv_istore_n (lv' := [(1, .int 0), (0, .ref r)]) hx hb dX2_join_61 rfl hl (by decide) rfl (fun ls hl => ?_)
        have loop2 : ∀ (f2 h : Nat) (H : Heap) (locs : List Loc) (ls : Array Slot), h ≤ n → n < h + f2 → zNA G ad n N g (zX r ad) (zIt (zJ2S n) h (zIt (zJ1S n) n τ)) H → va_S A s.heap H locs → lv_has ls 3 [(1, .int (nI h)), (0, .ref r)] → W p l e ({ frames := 2, cells := 0, slots := 0, locals := 50 } : Room) s m ([.ref r] : List Value).toArray below meth c H locs 0 0 (MQ below (zQv G (zNA G ad n N g (zX r ad) (zJo n τ)) A) ([.ref r] : List Value).toArray s 0 0 A) (F0 m 62 ls []) := by
          intro f2
          induction f2 with
          | zero => intro h H locs ls h1 h2; exact absurd h2 (by omega)
          | succ f2 ih2 =>
            intro h H locs ls hk2 hf2 hN hS hl
            generalize hF_τh : zIt (zJ2S n) h (zIt (zJ1S n) n τ) = τh at hN hl 
            refine lv_iload_n hx hb dX2_join_62 rfl (lv_at hl 0 rfl) ?_
            refine lv_aload_n hx hb dX2_join_63 rfl (lv_at hl 1 rfl) ?_
            refine z_getR hx hb hts hown in_X2_join_X2 hK hN (hts _ (List.mem_of_getElem? (i := 1) (by decide +kernel))) dX2_join_64 ?_
            refine z_getO (v := .int (nI n)) hx hb hts hown in_X2_join_X1 hK hN 2 (by decide) rfl (hts _ (List.mem_of_getElem? (i := 2) (by decide +kernel))) rfl dX2_join_67 ?_
            refine lv_icmp_ge (tgt := 92) hx hb dX2_join_70 (by decide) (fun c_3 => ?_) (fun c_4 => ?_)
            · skip
              have c_3 := (z_leI (a := n) (b := h) (by omega) (by omega)).mp c_3
              have hkn2 : h = n := by omega
              rw [hkn2] at hF_τh
              subst hF_τh
              exact z_vret hx hb hr hlk hK hS (hN.cast (by first | with_reducible rfl | (simp only [zJo, c_1, c_3, eq_self, ne_eq, not_true_eq_false, not_false_eq_true, and_true, true_and, and_self, and_false, false_and, true_or, or_true, false_or, or_false, reduceIte]; done) | (simp [zJo, c_1, c_3]; done) | rfl | (simp_all [zJo]; done))) dX2_join_92
            · skip
              have c_4 := (not_congr (z_leI (a := n) (b := h) (by omega) (by omega))).mp c_4
              refine lv_aload_n hx hb dX2_join_73 rfl (lv_at hl 1 rfl) ?_
              refine lv_iload_n hx hb dX2_join_74 rfl (lv_at hl 0 rfl) ?_
              refine z_vi (As := [.int (nI h)]) (rest := []) (P2 := zNA G ad n N g (zX r ad) τh) (r := zBi (τh 7 h = nI h)) S (c_X2_isHead l G A ad n N g r hA hnN hN12  τh h (by omega)) (cwV 1 hts gX2_join_X2_isHead rfl rfl rfl (by decide +kernel) ⟨Nat.le_of_ble_eq_true rfl, Nat.le_of_ble_eq_true rfl⟩) (z_recR hK hN) hN hK hS (fun _ _ h => h) (fun _ h => h) hl.1 rfl rfl (Nat.le_of_ble_eq_true rfl) dX2_join_75 ⟨Nat.le_refl _, Nat.le_refl _⟩ (fun H locs hN hS _ => ?_)
              refine lv_if_eq (tgt := 86) hx hb dX2_join_78 (by decide) (fun c_5 => ?_) (fun c_6 => ?_)
              · skip
                have c_5 := zBi_0.mp c_5
                refine lv_iinc (v := nI (h + 1)) (lv' := [(1, .int (nI (h + 1))), (0, .ref r)]) hx hb dX2_join_86 hl (k := 0) rfl (nI_1 _) (by decide) rfl (fun ls hl => ?_)
                refine lv_goto (tgt := 62) hx hb dX2_join_89 (by decide) ?_
                have e_7 : zIt (zJ2S n) (h + 1) (zIt (zJ1S n) n τ) = τh := by
                  rw [zIt_s, hF_τh]
                  first | with_reducible rfl | (simp only [zJ2S, c_1, c_4, c_5, eq_self, ne_eq, not_true_eq_false, not_false_eq_true, and_true, true_and, and_self, and_false, false_and, true_or, or_true, false_or, or_false, reduceIte]; done) | (simp [zJ2S, c_1, c_4, c_5]; done) | rfl | (simp_all [zJ2S]; done)
                refine ih2 (h + 1) _ _ _ (by omega) (by omega) ?_ hS ?_
                · first | exact hN | (rw [e_7]; exact hN)
                · first | exact lv_sub hl [0, 1] rfl | (rw [e_7]; exact lv_sub hl [0, 1] rfl)
              · skip
                have c_6 := zBi_n0.mp c_6
                refine lv_aload_n hx hb dX2_join_81 rfl (lv_at hl 1 rfl) ?_
                refine lv_iload_n hx hb dX2_join_82 rfl (lv_at hl 0 rfl) ?_
                refine z_vv (As := [.int (nI h)]) (rest := []) (P2 := zNA G ad n N g (zX r ad) (zGs n h τh)) S (c_X2_giveSlots l G A ad n N g r hA hnN hN12  τh h (by omega)) (cwV 1 hts gX2_join_X2_giveSlots rfl rfl rfl (by decide +kernel) ⟨Nat.le_of_ble_eq_true rfl, Nat.le_of_ble_eq_true rfl⟩) (z_recR hK hN) hN hK hS (fun _ _ h => h) (fun _ h => h) hl.1 rfl rfl (Nat.le_of_ble_eq_true rfl) dX2_join_83 ⟨Nat.le_refl _, Nat.le_refl _⟩ (fun H locs hN hS _ => ?_)
                refine lv_iinc (v := nI (h + 1)) (lv' := [(1, .int (nI (h + 1))), (0, .ref r)]) hx hb dX2_join_86 hl (k := 0) rfl (nI_1 _) (by decide) rfl (fun ls hl => ?_)
                refine lv_goto (tgt := 62) hx hb dX2_join_89 (by decide) ?_
                have e_8 : zIt (zJ2S n) (h + 1) (zIt (zJ1S n) n τ) = zGs n h τh := by
                  rw [zIt_s, hF_τh]
                  first | with_reducible rfl | (simp only [zJ2S, c_1, c_4, c_6, eq_self, ne_eq, not_true_eq_false, not_false_eq_true, and_true, true_and, and_self, and_false, false_and, true_or, or_true, false_or, or_false, reduceIte]; done) | (simp [zJ2S, c_1, c_4, c_6]; done) | rfl | (simp_all [zJ2S]; done)
                refine ih2 (h + 1) _ _ _ (by omega) (by omega) ?_ hS ?_
                · first | exact hN | (rw [e_8]; exact hN)
                · first | exact lv_sub hl [0, 1] rfl | (rw [e_8]; exact lv_sub hl [0, 1] rfl)
        exact loop2 (n + 1) 0 _ _ _ (by omega) (by omega) hN hS (lv_sub hl [0, 1] rfl)
      · skip
        have c_2 := (not_congr (z_leI (a := n) (b := k) (by omega) (by omega))).mp c_2
        refine lv_aload_n hx hb dX2_join_13 rfl (lv_at hl 1 rfl) ?_
        refine z_getR hx hb hts hown in_X2_join_X2 hK hN (hts _ (List.mem_of_getElem? (i := 1) (by decide +kernel))) dX2_join_14 ?_
        refine z_getO (v := .ref (ad 1)) hx hb hts hown in_X2_join_X1 hK hN 0 (by decide) rfl (hts _ (List.mem_of_getElem? (i := 3) (by decide +kernel))) rfl dX2_join_17 ?_
        refine lv_iload_n hx hb dX2_join_20 rfl (lv_at hl 0 rfl) ?_
        refine z_aald (i := k) hx hb hK hN rfl (by omega) dX2_join_21 ?_
        refine lv_astore_n (lv' := [(2, .ref (ad (3 + k))), (1, .int (nI k)), (0, .ref r)]) hx hb dX2_join_22 rfl hl (by decide) rfl (fun ls hl => ?_)
        refine lv_aload_n hx hb dX2_join_23 rfl (lv_at hl 0 rfl) ?_
        refine z_getS (v := .int (zBi (τk 3 k = 1))) hx hb hts hown in_X2_join_X3 hK hN12 hN (by omega) 3 (by decide) rfl (hts _ (List.mem_of_getElem? (i := 4) (by decide +kernel))) rfl dX2_join_24 ?_
        refine lv_if_eq (tgt := 54) hx hb dX2_join_27 (by decide) (fun c_9 => ?_) (fun c_10 => ?_)
        · skip
          have c_9 := zBi_0.mp c_9
          refine lv_iinc (v := nI (k + 1)) (lv' := [(1, .int (nI (k + 1))), (2, .ref (ad (3 + k))), (0, .ref r)]) hx hb dX2_join_54 hl (k := 1) rfl (nI_1 _) (by decide) rfl (fun ls hl => ?_)
          refine lv_goto (tgt := 2) hx hb dX2_join_57 (by decide) ?_
          have e_11 : zIt (zJ1S n) (k + 1) τ = τk := by
            rw [zIt_s, hF_τk]
            first | with_reducible rfl | (simp only [zJ1S, c_2, c_9, eq_self, ne_eq, not_true_eq_false, not_false_eq_true, and_true, true_and, and_self, and_false, false_and, true_or, or_true, false_or, or_false, reduceIte]; done) | (simp [zJ1S, c_2, c_9]; done) | rfl | (simp_all [zJ1S]; done)
          refine ih1 (k + 1) _ _ _ (by omega) (by omega) ?_ hS ?_
          · first | exact hN | (rw [e_11]; exact hN)
          · first | exact lv_sub hl [0, 2] rfl | (rw [e_11]; exact lv_sub hl [0, 2] rfl)
        · skip
          have c_10 := zBi_n0.mp c_10
          refine lv_aload_n hx hb dX2_join_30 rfl (lv_at hl 0 rfl) ?_
          refine z_getS (v := .int (τk 7 k)) hx hb hts hown in_X2_join_X3 hK hN12 hN (by omega) 7 (by decide) rfl (hts _ (List.mem_of_getElem? (i := 5) (by decide +kernel))) rfl dX2_join_31 ?_
          refine lv_iload_n hx hb dX2_join_34 rfl (lv_at hl 1 rfl) ?_
          refine lv_icmp_eq (tgt := 54) hx hb dX2_join_35 (by decide) (fun c_12 => ?_) (fun c_13 => ?_)
          · skip
            refine lv_iinc (v := nI (k + 1)) (lv' := [(1, .int (nI (k + 1))), (2, .ref (ad (3 + k))), (0, .ref r)]) hx hb dX2_join_54 hl (k := 1) rfl (nI_1 _) (by decide) rfl (fun ls hl => ?_)
            refine lv_goto (tgt := 2) hx hb dX2_join_57 (by decide) ?_
            have e_14 : zIt (zJ1S n) (k + 1) τ = τk := by
              rw [zIt_s, hF_τk]
              first | with_reducible rfl | (simp only [zJ1S, c_2, c_10, c_12, eq_self, ne_eq, not_true_eq_false, not_false_eq_true, and_true, true_and, and_self, and_false, false_and, true_or, or_true, false_or, or_false, reduceIte]; done) | (simp [zJ1S, c_2, c_10, c_12]; done) | rfl | (simp_all [zJ1S]; done)
            refine ih1 (k + 1) _ _ _ (by omega) (by omega) ?_ hS ?_
            · first | exact hN | (rw [e_14]; exact hN)
            · first | exact lv_sub hl [0, 2] rfl | (rw [e_14]; exact lv_sub hl [0, 2] rfl)
          · skip
            refine lv_aload_n hx hb dX2_join_38 rfl (lv_at hl 0 rfl) ?_
            refine lv_aload_n hx hb dX2_join_39 rfl (lv_at hl 2 rfl) ?_
            refine lv_aload_n hx hb dX2_join_40 rfl (lv_at hl 0 rfl) ?_
            refine z_getS (v := .int (τk 0 k)) hx hb hts hown in_X2_join_X3 hK hN12 hN (by omega) 0 (by decide) rfl (hts _ (List.mem_of_getElem? (i := 6) (by decide +kernel))) rfl dX2_join_41 ?_
            refine lv_aload_n hx hb dX2_join_44 rfl (lv_at hl 0 rfl) ?_
            refine z_getS (v := .int (τk 1 k)) hx hb hts hown in_X2_join_X3 hK hN12 hN (by omega) 1 (by decide) rfl (hts _ (List.mem_of_getElem? (i := 7) (by decide +kernel))) rfl dX2_join_45 ?_
            refine z_vi (As := [.int (τk 0 k), .int (τk 1 k)]) (rest := [.ref (ad (3 + k))]) (P2 := zNA G ad n N g (zX r ad) τk) (r := zOi (zNe n τk (τk 0 k) (τk 1 k))) S (c_X2_nearestHead l G A ad n N g r hA hnN hN12  τk (τk 0 k) (τk 1 k)) (cwV 2 hts gX2_join_X2_nearestHead rfl rfl rfl (by decide +kernel) ⟨Nat.le_of_ble_eq_true rfl, Nat.le_of_ble_eq_true rfl⟩) (z_recR hK hN) hN hK hS (fun _ _ h => h) (fun _ h => h) hl.1 rfl rfl (Nat.le_of_ble_eq_true rfl) dX2_join_48 ⟨Nat.le_refl _, Nat.le_refl _⟩ (fun H locs hN hS _ => ?_)
            refine z_putS (v := .int (zOi (zNe n τk (τk 0 k) (τk 1 k)))) (w := zOi (zNe n τk (τk 0 k) (τk 1 k))) (ty := .int) hx hb hts hown in_X2_join_X3 hK hA hS hN (by omega) 7 7 (by decide) rfl (by decide) (hts _ (List.mem_of_getElem? (i := 5) (by decide +kernel))) (by decide +kernel) rfl rfl rfl (fun τ => zSet7 τ _ _) dX2_join_51 (fun H locs hN hS => ?_)
            refine lv_iinc (v := nI (k + 1)) (lv' := [(1, .int (nI (k + 1))), (2, .ref (ad (3 + k))), (0, .ref r)]) hx hb dX2_join_54 hl (k := 1) rfl (nI_1 _) (by decide) rfl (fun ls hl => ?_)
            refine lv_goto (tgt := 2) hx hb dX2_join_57 (by decide) ?_
            have e_15 : zIt (zJ1S n) (k + 1) τ = zSt τk 7 k (zOi (zNe n τk (τk 0 k) (τk 1 k))) := by
              rw [zIt_s, hF_τk]
              first | with_reducible rfl | (simp only [zJ1S, c_2, c_10, c_13, eq_self, ne_eq, not_true_eq_false, not_false_eq_true, and_true, true_and, and_self, and_false, false_and, true_or, or_true, false_or, or_false, reduceIte]; done) | (simp [zJ1S, c_2, c_10, c_13]; done) | rfl | (simp_all [zJ1S]; done)
            refine ih1 (k + 1) _ _ _ (by omega) (by omega) ?_ hS ?_
            · first | exact hN | (rw [e_15]; exact hN)
            · first | exact lv_sub hl [0, 2] rfl | (rw [e_15]; exact lv_sub hl [0, 2] rfl)
  exact loop1 (n + 1) 0 _ _ _ (by omega) (by omega) hN hS (lv_sub hl [0, 1] rfl)

theorem in_X2_sends_X1 : ∀ w ∈ wsX10, w ∈ wsX2_sends := by decide +kernel
theorem in_X2_sends_X2 : ∀ w ∈ wsX20, w ∈ wsX2_sends := by decide +kernel
theorem in_X2_sends_X3 : ∀ w ∈ wsX30, w ∈ wsX2_sends := by decide +kernel
set_option maxHeartbeats 4000000 in
set_option maxRecDepth 100000 in
theorem c_X2_sends (l : Launch) (G : zG) (A : Nat → Prop) (ad : Nat → Nat) (n N : Nat) (g : Nat → Int32) (r : Nat) (hA : zAp G ad (zX r ad) A) (hnN : n ≤ N) (hN12 : N ≤ 12) (hd5 : 0 < g 5) (τ : zT) (i h : Nat) (hi : i < N) (hh : h < N) : zMi l G A yX2_sends wsX2_sends 1 24 [.ref r, .ref (ad (3 + i)), .ref (ad (3 + h))] (zNA G ad n N g (zX r ad) τ) ((zSd g τ i h).2) (zNA G ad n N g (zX r ad) ((zSd g τ i h).1)) := by
  refine z_met (cc := cX2_sends) (maxL := 3) (ret := (some .boolean)) (by decide) rfl (Nat.le_of_ble_eq_true rfl) ?_
  intro p e s m below meth c ls S hr hlk hnm hN hK hl
  have S : CallFix p m c cX2_sends 3 s _ wsX2_sends RX2 := S
  obtain ⟨hx, hb, hml, hown, hts⟩ := id S
  have hS : va_S A s.heap s.heap [] := va_S.rf
  have hl : lv_has ls 3 [(0, .ref r), (1, .ref (ad (3 + i))), (2, .ref (ad (3 + h)))] := hl
  refine lv_aload_n hx hb dX2_sends_0 rfl (lv_at hl 0 rfl) ?_
  refine lv_aload_n hx hb dX2_sends_1 rfl (lv_at hl 1 rfl) ?_
  refine lv_aload_n hx hb dX2_sends_2 rfl (lv_at hl 0 rfl) ?_
  refine z_getR hx hb hts hown in_X2_sends_X2 hK hN (hts _ (List.mem_of_getElem? (i := 1) (by decide +kernel))) dX2_sends_3 ?_
  refine lv_aload_n hx hb dX2_sends_6 rfl (lv_at hl 1 rfl) ?_
  refine lv_aload_n hx hb dX2_sends_7 rfl (lv_at hl 2 rfl) ?_
  refine z_getS (v := .int (τ 0 h)) hx hb hts hown in_X2_sends_X3 hK hN12 hN (by omega) 0 (by decide) rfl (hts _ (List.mem_of_getElem? (i := 2) (by decide +kernel))) rfl dX2_sends_8 ?_
  refine lv_aload_n hx hb dX2_sends_11 rfl (lv_at hl 2 rfl) ?_
  refine z_getS (v := .int (τ 1 h)) hx hb hts hown in_X2_sends_X3 hK hN12 hN (by omega) 1 (by decide) rfl (hts _ (List.mem_of_getElem? (i := 3) (by decide +kernel))) rfl dX2_sends_12 ?_
  refine z_vi (As := [.int (τ 0 h), .int (τ 1 h)]) (rest := [.ref (ad 0), .ref (ad (3 + i)), .ref r]) (P2 := zNA G ad n N g (zX r ad) τ) (r := zDi (τ 0 i) (τ 1 i) (τ 0 h) (τ 1 h)) S (c_X3_distanceTo l G A ad n N g (zX r ad) hA hnN hN12  τ i (by omega) (τ 0 h) (τ 1 h)) (cwV 2 hts gX2_sends_X3_distanceTo rfl rfl rfl (by decide +kernel) ⟨Nat.le_of_ble_eq_true rfl, Nat.le_of_ble_eq_true rfl⟩) (z_recS hK hN (by omega)) hN hK hS (fun _ _ h => h) (fun _ h => h) hl.1 rfl rfl (Nat.le_of_ble_eq_true rfl) dX2_sends_15 ⟨Nat.le_refl _, Nat.le_refl _⟩ (fun H locs hN hS _ => ?_)
  refine z_vi (As := [.int (zDi (τ 0 i) (τ 1 i) (τ 0 h) (τ 1 h))]) (rest := [.ref (ad (3 + i)), .ref r]) (P2 := zNA G ad n N g (zX r ad) τ) (r := zCo g (zDi (τ 0 i) (τ 1 i) (τ 0 h) (τ 1 h))) S (c_X1_costOver l G A ad n N g (zX r ad) hA hnN hN12 hd5 τ (zDi (τ 0 i) (τ 1 i) (τ 0 h) (τ 1 h))) (cwV 1 hts gX2_sends_X1_costOver rfl rfl rfl (by decide +kernel) ⟨Nat.le_of_ble_eq_true rfl, Nat.le_of_ble_eq_true rfl⟩) (z_recN hK hN) hN hK hS (fun _ _ h => h) (fun _ h => h) hl.1 rfl rfl (Nat.le_of_ble_eq_true rfl) dX2_sends_18 ⟨Nat.le_refl _, Nat.le_refl _⟩ (fun H locs hN hS _ => ?_)
  refine z_vi (As := [.ref (ad (3 + i)), .int (zCo g (zDi (τ 0 i) (τ 1 i) (τ 0 h) (τ 1 h)))]) (rest := []) (P2 := zNA G ad n N g (zX r ad) (zPay τ i (zCo g (zDi (τ 0 i) (τ 1 i) (τ 0 h) (τ 1 h))))) (r := zBi (¬ τ 2 i < (zCo g (zDi (τ 0 i) (τ 1 i) (τ 0 h) (τ 1 h))))) S (c_X2_pays l G A ad n N g r hA hnN hN12  τ i (by omega) (zCo g (zDi (τ 0 i) (τ 1 i) (τ 0 h) (τ 1 h)))) (cwV 2 hts gX2_sends_X2_pays rfl rfl rfl (by decide +kernel) ⟨Nat.le_of_ble_eq_true rfl, Nat.le_of_ble_eq_true rfl⟩) (z_recR hK hN) hN hK hS (fun _ _ h => h) (fun _ h => h) hl.1 rfl rfl (Nat.le_of_ble_eq_true rfl) dX2_sends_21 ⟨Nat.le_refl _, Nat.le_refl _⟩ (fun H locs hN hS _ => ?_)
  refine lv_if_eq (tgt := 72) hx hb dX2_sends_24 (by decide) (fun c_1 => ?_) (fun c_2 => ?_)
  · skip
    have c_1 := zBi_0.mp c_1
    have c_1 := Decidable.of_not_not c_1
    have hN := hN.cast (zPay_n c_1)
    refine lv_iconst (v := 0) hx hb dX2_sends_72 (by decide) ?_
    refine z_top (x2 := (zSd g τ i h).2) (by first | with_reducible rfl | (simp only [zSd, zTk, zPay, zDs, c_1, eq_self, ne_eq, not_true_eq_false, not_false_eq_true, and_true, true_and, and_self, and_false, false_and, true_or, or_true, false_or, or_false, reduceIte]; done) | (simp [zSd, zTk, zPay, zDs, c_1]; done) | rfl | (simp_all [zSd, zTk, zPay, zDs]; done)) ?_
    exact z_zret hx hb hr hlk (by rcases zSd_bit g τ i h with q | q <;> rw [q] <;> decide) hK hS (hN.cast (by first | with_reducible rfl | (simp only [zSd, zTk, zPay, zDs, c_1, eq_self, ne_eq, not_true_eq_false, not_false_eq_true, and_true, true_and, and_self, and_false, false_and, true_or, or_true, false_or, or_false, reduceIte]; done) | (simp [zSd, zTk, zPay, zDs, c_1]; done) | rfl | (simp_all [zSd, zTk, zPay, zDs]; done))) dX2_sends_73
  · skip
    have c_2 := zBi_n0.mp c_2
    have hN := hN.cast (zPay_y c_2)
    refine lv_aload_n hx hb dX2_sends_27 rfl (lv_at hl 2 rfl) ?_
    refine z_getS (v := .int (zBi ((zPd τ i (zCo g (zDi (τ 0 i) (τ 1 i) (τ 0 h) (τ 1 h)))) 3 h = 1))) hx hb hts hown in_X2_sends_X3 hK hN12 hN (by omega) 3 (by decide) rfl (hts _ (List.mem_of_getElem? (i := 4) (by decide +kernel))) rfl dX2_sends_28 ?_
    refine lv_if_eq (tgt := 72) hx hb dX2_sends_31 (by decide) (fun c_3 => ?_) (fun c_4 => ?_)
    · skip
      have c_3 := zBi_0.mp c_3
      refine lv_iconst (v := 0) hx hb dX2_sends_72 (by decide) ?_
      refine z_top (x2 := (zSd g τ i h).2) (by first | with_reducible rfl | (simp only [zSd, zTk, zPay, zDs, c_2, c_3, eq_self, ne_eq, not_true_eq_false, not_false_eq_true, and_true, true_and, and_self, and_false, false_and, true_or, or_true, false_or, or_false, reduceIte]; done) | (simp [zSd, zTk, zPay, zDs, c_2, c_3]; done) | rfl | (simp_all [zSd, zTk, zPay, zDs]; done)) ?_
      exact z_zret hx hb hr hlk (by rcases zSd_bit g τ i h with q | q <;> rw [q] <;> decide) hK hS (hN.cast (by first | with_reducible rfl | (simp only [zSd, zTk, zPay, zDs, c_2, c_3, eq_self, ne_eq, not_true_eq_false, not_false_eq_true, and_true, true_and, and_self, and_false, false_and, true_or, or_true, false_or, or_false, reduceIte]; done) | (simp [zSd, zTk, zPay, zDs, c_2, c_3]; done) | rfl | (simp_all [zSd, zTk, zPay, zDs]; done))) dX2_sends_73
    · skip
      have c_4 := zBi_n0.mp c_4
      refine lv_aload_n hx hb dX2_sends_34 rfl (lv_at hl 0 rfl) ?_
      refine lv_aload_n hx hb dX2_sends_35 rfl (lv_at hl 2 rfl) ?_
      refine lv_aload_n hx hb dX2_sends_36 rfl (lv_at hl 0 rfl) ?_
      refine z_getR hx hb hts hown in_X2_sends_X2 hK hN (hts _ (List.mem_of_getElem? (i := 1) (by decide +kernel))) dX2_sends_37 ?_
      refine z_getO (v := .ref (ad 2)) hx hb hts hown in_X2_sends_X1 hK hN 1 (by decide) rfl (hts _ (List.mem_of_getElem? (i := 5) (by decide +kernel))) rfl dX2_sends_40 ?_
      refine lv_iconst (v := 1) hx hb dX2_sends_43 (by decide) ?_
      refine z_iald (w := g 4) hx hb hK hN 1 (by decide) (by decide) rfl dX2_sends_44 ?_
      refine z_vi (As := [.ref (ad (3 + h)), .int (g 4)]) (rest := []) (P2 := zNA G ad n N g (zX r ad) (zPay (zPd τ i (zCo g (zDi (τ 0 i) (τ 1 i) (τ 0 h) (τ 1 h)))) h (g 4))) (r := zBi (¬ (zPd τ i (zCo g (zDi (τ 0 i) (τ 1 i) (τ 0 h) (τ 1 h)))) 2 h < (g 4))) S (c_X2_pays l G A ad n N g r hA hnN hN12  (zPd τ i (zCo g (zDi (τ 0 i) (τ 1 i) (τ 0 h) (τ 1 h)))) h (by omega) (g 4)) (cwV 2 hts gX2_sends_X2_pays rfl rfl rfl (by decide +kernel) ⟨Nat.le_of_ble_eq_true rfl, Nat.le_of_ble_eq_true rfl⟩) (z_recR hK hN) hN hK hS (fun _ _ h => h) (fun _ h => h) hl.1 rfl rfl (Nat.le_of_ble_eq_true rfl) dX2_sends_45 ⟨Nat.le_refl _, Nat.le_refl _⟩ (fun H locs hN hS _ => ?_)
      refine lv_if_eq (tgt := 72) hx hb dX2_sends_48 (by decide) (fun c_5 => ?_) (fun c_6 => ?_)
      · skip
        have c_5 := zBi_0.mp c_5
        have c_5 := Decidable.of_not_not c_5
        have hN := hN.cast (zPay_n c_5)
        refine lv_iconst (v := 0) hx hb dX2_sends_72 (by decide) ?_
        refine z_top (x2 := (zSd g τ i h).2) (by first | with_reducible rfl | (simp only [zSd, zTk, zPay, zDs, c_2, c_4, c_5, eq_self, ne_eq, not_true_eq_false, not_false_eq_true, and_true, true_and, and_self, and_false, false_and, true_or, or_true, false_or, or_false, reduceIte]; done) | (simp [zSd, zTk, zPay, zDs, c_2, c_4, c_5]; done) | rfl | (simp_all [zSd, zTk, zPay, zDs]; done)) ?_
        exact z_zret hx hb hr hlk (by rcases zSd_bit g τ i h with q | q <;> rw [q] <;> decide) hK hS (hN.cast (by first | with_reducible rfl | (simp only [zSd, zTk, zPay, zDs, c_2, c_4, c_5, eq_self, ne_eq, not_true_eq_false, not_false_eq_true, and_true, true_and, and_self, and_false, false_and, true_or, or_true, false_or, or_false, reduceIte]; done) | (simp [zSd, zTk, zPay, zDs, c_2, c_4, c_5]; done) | rfl | (simp_all [zSd, zTk, zPay, zDs]; done))) dX2_sends_73
      · skip
        have c_6 := zBi_n0.mp c_6
        have hN := hN.cast (zPay_y c_6)
        refine lv_aload_n hx hb dX2_sends_51 rfl (lv_at hl 0 rfl) ?_
        refine lv_aload_n hx hb dX2_sends_52 rfl (lv_at hl 2 rfl) ?_
        refine lv_aload_n hx hb dX2_sends_53 rfl (lv_at hl 0 rfl) ?_
        refine z_getR hx hb hts hown in_X2_sends_X2 hK hN (hts _ (List.mem_of_getElem? (i := 1) (by decide +kernel))) dX2_sends_54 ?_
        refine z_getO (v := .ref (ad 2)) hx hb hts hown in_X2_sends_X1 hK hN 1 (by decide) rfl (hts _ (List.mem_of_getElem? (i := 5) (by decide +kernel))) rfl dX2_sends_57 ?_
        refine lv_iconst (v := 3) hx hb dX2_sends_60 (by decide) ?_
        refine z_iald (w := g 6) hx hb hK hN 3 (by decide) (by decide) rfl dX2_sends_61 ?_
        refine z_vi (As := [.ref (ad (3 + h)), .int (g 6)]) (rest := []) (P2 := zNA G ad n N g (zX r ad) (zPay (zPd (zPd τ i (zCo g (zDi (τ 0 i) (τ 1 i) (τ 0 h) (τ 1 h)))) h (g 4)) h (g 6))) (r := zBi (¬ (zPd (zPd τ i (zCo g (zDi (τ 0 i) (τ 1 i) (τ 0 h) (τ 1 h)))) h (g 4)) 2 h < (g 6))) S (c_X2_pays l G A ad n N g r hA hnN hN12  (zPd (zPd τ i (zCo g (zDi (τ 0 i) (τ 1 i) (τ 0 h) (τ 1 h)))) h (g 4)) h (by omega) (g 6)) (cwV 2 hts gX2_sends_X2_pays rfl rfl rfl (by decide +kernel) ⟨Nat.le_of_ble_eq_true rfl, Nat.le_of_ble_eq_true rfl⟩) (z_recR hK hN) hN hK hS (fun _ _ h => h) (fun _ h => h) hl.1 rfl rfl (Nat.le_of_ble_eq_true rfl) dX2_sends_62 ⟨Nat.le_refl _, Nat.le_refl _⟩ (fun H locs hN hS _ => ?_)
        refine lv_if_eq (tgt := 72) hx hb dX2_sends_65 (by decide) (fun c_7 => ?_) (fun c_8 => ?_)
        · skip
          have c_7 := zBi_0.mp c_7
          have c_7 := Decidable.of_not_not c_7
          have hN := hN.cast (zPay_n c_7)
          refine lv_iconst (v := 0) hx hb dX2_sends_72 (by decide) ?_
          refine z_top (x2 := (zSd g τ i h).2) (by first | with_reducible rfl | (simp only [zSd, zTk, zPay, zDs, c_2, c_4, c_6, c_7, eq_self, ne_eq, not_true_eq_false, not_false_eq_true, and_true, true_and, and_self, and_false, false_and, true_or, or_true, false_or, or_false, reduceIte]; done) | (simp [zSd, zTk, zPay, zDs, c_2, c_4, c_6, c_7]; done) | rfl | (simp_all [zSd, zTk, zPay, zDs]; done)) ?_
          exact z_zret hx hb hr hlk (by rcases zSd_bit g τ i h with q | q <;> rw [q] <;> decide) hK hS (hN.cast (by first | with_reducible rfl | (simp only [zSd, zTk, zPay, zDs, c_2, c_4, c_6, c_7, eq_self, ne_eq, not_true_eq_false, not_false_eq_true, and_true, true_and, and_self, and_false, false_and, true_or, or_true, false_or, or_false, reduceIte]; done) | (simp [zSd, zTk, zPay, zDs, c_2, c_4, c_6, c_7]; done) | rfl | (simp_all [zSd, zTk, zPay, zDs]; done))) dX2_sends_73
        · skip
          have c_8 := zBi_n0.mp c_8
          have hN := hN.cast (zPay_y c_8)
          refine lv_iconst (v := 1) hx hb dX2_sends_68 (by decide) ?_
          refine lv_goto (tgt := 73) hx hb dX2_sends_69 (by decide) ?_
          refine z_top (x2 := (zSd g τ i h).2) (by first | with_reducible rfl | (simp only [zSd, zTk, zPay, zDs, c_2, c_4, c_6, c_8, eq_self, ne_eq, not_true_eq_false, not_false_eq_true, and_true, true_and, and_self, and_false, false_and, true_or, or_true, false_or, or_false, reduceIte]; done) | (simp [zSd, zTk, zPay, zDs, c_2, c_4, c_6, c_8]; done) | rfl | (simp_all [zSd, zTk, zPay, zDs]; done)) ?_
          exact z_zret hx hb hr hlk (by rcases zSd_bit g τ i h with q | q <;> rw [q] <;> decide) hK hS (hN.cast (by first | with_reducible rfl | (simp only [zSd, zTk, zPay, zDs, c_2, c_4, c_6, c_8, eq_self, ne_eq, not_true_eq_false, not_false_eq_true, and_true, true_and, and_self, and_false, false_and, true_or, or_true, false_or, or_false, reduceIte]; done) | (simp [zSd, zTk, zPay, zDs, c_2, c_4, c_6, c_8]; done) | rfl | (simp_all [zSd, zTk, zPay, zDs]; done))) dX2_sends_73

theorem in_X2_reportTo_X1 : ∀ w ∈ wsX10, w ∈ wsX2_reportTo := by decide +kernel
theorem in_X2_reportTo_X2 : ∀ w ∈ wsX20, w ∈ wsX2_reportTo := by decide +kernel
theorem in_X2_reportTo_X3 : ∀ w ∈ wsX30, w ∈ wsX2_reportTo := by decide +kernel
set_option maxHeartbeats 4000000 in
set_option maxRecDepth 100000 in
theorem c_X2_reportTo (l : Launch) (G : zG) (A : Nat → Prop) (ad : Nat → Nat) (n N : Nat) (g : Nat → Int32) (r : Nat) (hA : zAp G ad (zX r ad) A) (hnN : n ≤ N) (hN12 : N ≤ 12) (hd5 : 0 < g 5) (τ : zT) (h : Nat) (hh : h < n) : zMv l G A yX2_reportTo wsX2_reportTo 2 46 [.ref r, .int (nI h)] (zNA G ad n N g (zX r ad) τ) (zNA G ad n N g (zX r ad) (zIt (zRpS g h) n τ)) := by
  refine z_met (cc := cX2_reportTo) (maxL := 5) (ret := none) (by decide) rfl (Nat.le_of_ble_eq_true rfl) ?_
  intro p e s m below meth c ls S hr hlk hnm hN hK hl
  have S : CallFix p m c cX2_reportTo 5 s _ wsX2_reportTo RX2 := S
  obtain ⟨hx, hb, hml, hown, hts⟩ := id S
  have hS : va_S A s.heap s.heap [] := va_S.rf
  have hl : lv_has ls 5 [(0, .ref r), (1, .int (nI h))] := hl
  refine lv_aload_n hx hb dX2_reportTo_0 rfl (lv_at hl 0 rfl) ?_
  refine z_getR hx hb hts hown in_X2_reportTo_X2 hK hN (hts _ (List.mem_of_getElem? (i := 1) (by decide +kernel))) dX2_reportTo_1 ?_
  refine z_getO (v := .ref (ad 1)) hx hb hts hown in_X2_reportTo_X1 hK hN 0 (by decide) rfl (hts _ (List.mem_of_getElem? (i := 2) (by decide +kernel))) rfl dX2_reportTo_4 ?_
  refine lv_iload_n hx hb dX2_reportTo_7 rfl (lv_at hl 1 rfl) ?_
  refine z_aald (i := h) hx hb hK hN rfl (by omega) dX2_reportTo_8 ?_
  refine lv_astore_n (lv' := [(2, .ref (ad (3 + h))), (0, .ref r), (1, .int (nI h))]) hx hb dX2_reportTo_9 rfl hl (by decide) rfl (fun ls hl => ?_)
  refine lv_iconst (v := 0) hx hb dX2_reportTo_10 (by decide) ?_
  refine lv_istore_n (lv' := [(3, .int 0), (2, .ref (ad (3 + h))), (0, .ref r), (1, .int (nI h))]) hx hb dX2_reportTo_11 rfl hl (by decide) rfl (fun ls hl => ?_)
  have loop1 : ∀ (f1 k : Nat) (H : Heap) (locs : List Loc) (ls : Array Slot), k ≤ n → n < k + f1 → zNA G ad n N g (zX r ad) (zIt (zRpS g h) k τ) H → va_S A s.heap H locs → lv_has ls 5 [(3, .int (nI k)), (2, .ref (ad (3 + h))), (0, .ref r), (1, .int (nI h))] → W p l e ({ frames := 2, cells := 0, slots := 0, locals := 46 } : Room) s m ([.ref r, .int (nI h)] : List Value).toArray below meth c H locs 0 0 (MQ below (zQv G (zNA G ad n N g (zX r ad) (zIt (zRpS g h) n τ)) A) ([.ref r, .int (nI h)] : List Value).toArray s 0 0 A) (F0 m 12 ls []) := by
    intro f1
    induction f1 with
    | zero => intro k H locs ls h1 h2; exact absurd h2 (by omega)
    | succ f1 ih1 =>
      intro k H locs ls hk1 hf1 hN hS hl
      generalize hF_τk : zIt (zRpS g h) k τ = τk at hN hl 
      refine lv_iload_n hx hb dX2_reportTo_12 rfl (lv_at hl 0 rfl) ?_
      refine lv_aload_n hx hb dX2_reportTo_13 rfl (lv_at hl 2 rfl) ?_
      refine z_getR hx hb hts hown in_X2_reportTo_X2 hK hN (hts _ (List.mem_of_getElem? (i := 1) (by decide +kernel))) dX2_reportTo_14 ?_
      refine z_getO (v := .int (nI n)) hx hb hts hown in_X2_reportTo_X1 hK hN 2 (by decide) rfl (hts _ (List.mem_of_getElem? (i := 3) (by decide +kernel))) rfl dX2_reportTo_17 ?_
      refine lv_icmp_ge (tgt := 77) hx hb dX2_reportTo_20 (by decide) (fun c_1 => ?_) (fun c_2 => ?_)
      · skip
        have c_1 := (z_leI (a := n) (b := k) (by omega) (by omega)).mp c_1
        have hkn1 : k = n := by omega
        rw [hkn1] at hF_τk
        subst hF_τk
        exact z_vret hx hb hr hlk hK hS (hN.cast (by first | with_reducible rfl | (simp only [c_1, eq_self, ne_eq, not_true_eq_false, not_false_eq_true, and_true, true_and, and_self, and_false, false_and, true_or, or_true, false_or, or_false, reduceIte]; done) | (simp [c_1]; done) | rfl | (simp_all []; done))) dX2_reportTo_77
      · skip
        have c_2 := (not_congr (z_leI (a := n) (b := k) (by omega) (by omega))).mp c_2
        refine lv_aload_n hx hb dX2_reportTo_23 rfl (lv_at hl 2 rfl) ?_
        refine z_getR hx hb hts hown in_X2_reportTo_X2 hK hN (hts _ (List.mem_of_getElem? (i := 1) (by decide +kernel))) dX2_reportTo_24 ?_
        refine z_getO (v := .ref (ad 1)) hx hb hts hown in_X2_reportTo_X1 hK hN 0 (by decide) rfl (hts _ (List.mem_of_getElem? (i := 2) (by decide +kernel))) rfl dX2_reportTo_27 ?_
        refine lv_iload_n hx hb dX2_reportTo_30 rfl (lv_at hl 0 rfl) ?_
        refine z_aald (i := k) hx hb hK hN rfl (by omega) dX2_reportTo_31 ?_
        refine lv_astore (lv' := [(4, .ref (ad (3 + k))), (3, .int (nI k)), (2, .ref (ad (3 + h))), (0, .ref r), (1, .int (nI h))]) hx hb dX2_reportTo_32 hl (by decide) rfl (fun ls hl => ?_)
        refine lv_aload_n hx hb dX2_reportTo_34 rfl (lv_at hl 3 rfl) ?_
        refine lv_iload_n hx hb dX2_reportTo_35 rfl (lv_at hl 1 rfl) ?_
        refine lv_iload_n hx hb dX2_reportTo_36 rfl (lv_at hl 4 rfl) ?_
        refine z_vi (As := [.int (nI k), .int (nI h)]) (rest := []) (P2 := zNA G ad n N g (zX r ad) τk) (r := zBi (k ≠ h ∧ τk 7 k = nI h)) S (c_X2_hasJoined l G A ad n N g r hA hnN hN12  τk k h (by omega) (by omega)) (cwV 2 hts gX2_reportTo_X2_hasJoined rfl rfl rfl (by decide +kernel) ⟨Nat.le_of_ble_eq_true rfl, Nat.le_of_ble_eq_true rfl⟩) (z_recR hK hN) hN hK hS (fun _ _ h => h) (fun _ h => h) hl.1 rfl rfl (Nat.le_of_ble_eq_true rfl) dX2_reportTo_37 ⟨Nat.le_refl _, Nat.le_refl _⟩ (fun H locs hN hS _ => ?_)
        refine lv_if_eq (tgt := 71) hx hb dX2_reportTo_40 (by decide) (fun c_3 => ?_) (fun c_4 => ?_)
        · skip
          have c_3 := zBi_0.mp c_3
          refine lv_iinc (v := nI (k + 1)) (lv' := [(3, .int (nI (k + 1))), (4, .ref (ad (3 + k))), (2, .ref (ad (3 + h))), (0, .ref r), (1, .int (nI h))]) hx hb dX2_reportTo_71 hl (k := 1) rfl (nI_1 _) (by decide) rfl (fun ls hl => ?_)
          refine lv_goto (tgt := 12) hx hb dX2_reportTo_74 (by decide) ?_
          have e_5 : zIt (zRpS g h) (k + 1) τ = τk := by
            rw [zIt_s, hF_τk]
            first | with_reducible rfl | (simp only [zRpS, c_2, c_3, eq_self, ne_eq, not_true_eq_false, not_false_eq_true, and_true, true_and, and_self, and_false, false_and, true_or, or_true, false_or, or_false, reduceIte]; done) | (simp [zRpS, c_2, c_3]; done) | rfl | (simp_all [zRpS]; done)
          refine ih1 (k + 1) _ _ _ (by omega) (by omega) ?_ hS ?_
          · first | exact hN | (rw [e_5]; exact hN)
          · first | exact lv_sub hl [0, 2, 3, 4] rfl | (rw [e_5]; exact lv_sub hl [0, 2, 3, 4] rfl)
        · skip
          have c_4 := zBi_n0.mp c_4
          refine lv_aload hx hb dX2_reportTo_43 (lv_at hl 0 rfl) ?_
          refine z_getS (v := .int (zBi (τk 3 k = 1))) hx hb hts hown in_X2_reportTo_X3 hK hN12 hN (by omega) 3 (by decide) rfl (hts _ (List.mem_of_getElem? (i := 4) (by decide +kernel))) rfl dX2_reportTo_45 ?_
          refine lv_if_eq (tgt := 71) hx hb dX2_reportTo_48 (by decide) (fun c_6 => ?_) (fun c_7 => ?_)
          · skip
            have c_6 := zBi_0.mp c_6
            refine lv_iinc (v := nI (k + 1)) (lv' := [(3, .int (nI (k + 1))), (4, .ref (ad (3 + k))), (2, .ref (ad (3 + h))), (0, .ref r), (1, .int (nI h))]) hx hb dX2_reportTo_71 hl (k := 1) rfl (nI_1 _) (by decide) rfl (fun ls hl => ?_)
            refine lv_goto (tgt := 12) hx hb dX2_reportTo_74 (by decide) ?_
            have e_8 : zIt (zRpS g h) (k + 1) τ = τk := by
              rw [zIt_s, hF_τk]
              first | with_reducible rfl | (simp only [zRpS, c_2, c_4, c_6, eq_self, ne_eq, not_true_eq_false, not_false_eq_true, and_true, true_and, and_self, and_false, false_and, true_or, or_true, false_or, or_false, reduceIte]; done) | (simp [zRpS, c_2, c_4, c_6]; done) | rfl | (simp_all [zRpS]; done)
            refine ih1 (k + 1) _ _ _ (by omega) (by omega) ?_ hS ?_
            · first | exact hN | (rw [e_8]; exact hN)
            · first | exact lv_sub hl [0, 2, 3, 4] rfl | (rw [e_8]; exact lv_sub hl [0, 2, 3, 4] rfl)
          · skip
            have c_7 := zBi_n0.mp c_7
            refine lv_aload_n hx hb dX2_reportTo_51 rfl (lv_at hl 3 rfl) ?_
            refine lv_aload hx hb dX2_reportTo_52 (lv_at hl 0 rfl) ?_
            refine lv_aload_n hx hb dX2_reportTo_54 rfl (lv_at hl 2 rfl) ?_
            refine z_vi (As := [.ref (ad (3 + k)), .ref (ad (3 + h))]) (rest := []) (P2 := zNA G ad n N g (zX r ad) ((zSd g τk k h).1)) (r := (zSd g τk k h).2) S (c_X2_sends l G A ad n N g r hA hnN hN12 hd5 τk k h (by omega) (by omega)) (cwV 2 hts gX2_reportTo_X2_sends rfl rfl rfl (by decide +kernel) ⟨Nat.le_of_ble_eq_true rfl, Nat.le_of_ble_eq_true rfl⟩) (z_recR hK hN) hN hK hS (fun _ _ h => h) (fun _ h => h) hl.1 rfl rfl (Nat.le_of_ble_eq_true rfl) dX2_reportTo_55 ⟨Nat.le_refl _, Nat.le_refl _⟩ (fun H locs hN hS _ => ?_)
            refine lv_if_eq (tgt := 71) hx hb dX2_reportTo_58 (by decide) (fun c_9 => ?_) (fun c_10 => ?_)
            · skip
              refine lv_iinc (v := nI (k + 1)) (lv' := [(3, .int (nI (k + 1))), (4, .ref (ad (3 + k))), (2, .ref (ad (3 + h))), (0, .ref r), (1, .int (nI h))]) hx hb dX2_reportTo_71 hl (k := 1) rfl (nI_1 _) (by decide) rfl (fun ls hl => ?_)
              refine lv_goto (tgt := 12) hx hb dX2_reportTo_74 (by decide) ?_
              have e_11 : zIt (zRpS g h) (k + 1) τ = (zSd g τk k h).1 := by
                rw [zIt_s, hF_τk]
                first | with_reducible rfl | (simp only [zRpS, c_2, c_4, c_7, c_9, eq_self, ne_eq, not_true_eq_false, not_false_eq_true, and_true, true_and, and_self, and_false, false_and, true_or, or_true, false_or, or_false, reduceIte]; done) | (simp [zRpS, c_2, c_4, c_7, c_9]; done) | rfl | (simp_all [zRpS]; done)
              refine ih1 (k + 1) _ _ _ (by omega) (by omega) ?_ hS ?_
              · first | exact hN | (rw [e_11]; exact hN)
              · first | exact lv_sub hl [0, 2, 3, 4] rfl | (rw [e_11]; exact lv_sub hl [0, 2, 3, 4] rfl)
            · skip
              refine lv_aload_n hx hb dX2_reportTo_61 rfl (lv_at hl 2 rfl) ?_
              refine lv_dup hx hb dX2_reportTo_62 rfl ?_
              refine z_getS (v := .int (((zSd g τk k h).1) 9 h)) hx hb hts hown in_X2_reportTo_X3 hK hN12 hN (by omega) 10 (by decide) rfl (hts _ (List.mem_of_getElem? (i := 5) (by decide +kernel))) rfl dX2_reportTo_63 ?_
              refine lv_iconst (v := 1) hx hb dX2_reportTo_66 (by decide) ?_
              refine lv_iadd hx hb dX2_reportTo_67 ?_
              refine z_putS (v := .int ((((zSd g τk k h).1) 9 h) + 1)) (w := (((zSd g τk k h).1) 9 h) + 1) (ty := .int) hx hb hts hown in_X2_reportTo_X3 hK hA hS hN (by omega) 10 9 (by decide) rfl (by decide) (hts _ (List.mem_of_getElem? (i := 5) (by decide +kernel))) (by decide +kernel) rfl rfl rfl (fun τ => zSet10 τ _ _) dX2_reportTo_68 (fun H locs hN hS => ?_)
              refine lv_iinc (v := nI (k + 1)) (lv' := [(3, .int (nI (k + 1))), (4, .ref (ad (3 + k))), (2, .ref (ad (3 + h))), (0, .ref r), (1, .int (nI h))]) hx hb dX2_reportTo_71 hl (k := 1) rfl (nI_1 _) (by decide) rfl (fun ls hl => ?_)
              refine lv_goto (tgt := 12) hx hb dX2_reportTo_74 (by decide) ?_
              have e_12 : zIt (zRpS g h) (k + 1) τ = zSt ((zSd g τk k h).1) 9 h ((((zSd g τk k h).1) 9 h) + 1) := by
                rw [zIt_s, hF_τk]
                first | with_reducible rfl | (simp only [zRpS, c_2, c_4, c_7, c_10, eq_self, ne_eq, not_true_eq_false, not_false_eq_true, and_true, true_and, and_self, and_false, false_and, true_or, or_true, false_or, or_false, reduceIte]; done) | (simp [zRpS, c_2, c_4, c_7, c_10]; done) | rfl | (simp_all [zRpS]; done)
              refine ih1 (k + 1) _ _ _ (by omega) (by omega) ?_ hS ?_
              · first | exact hN | (rw [e_12]; exact hN)
              · first | exact lv_sub hl [0, 2, 3, 4] rfl | (rw [e_12]; exact lv_sub hl [0, 2, 3, 4] rfl)
  exact loop1 (n + 1) 0 _ _ _ (by omega) (by omega) hN hS (lv_sub hl [0, 1, 2, 3] rfl)

theorem in_X2_reportToHeads_X1 : ∀ w ∈ wsX10, w ∈ wsX2_reportToHeads := by decide +kernel
theorem in_X2_reportToHeads_X2 : ∀ w ∈ wsX20, w ∈ wsX2_reportToHeads := by decide +kernel
set_option maxHeartbeats 4000000 in
set_option maxRecDepth 100000 in
theorem c_X2_reportToHeads (l : Launch) (G : zG) (A : Nat → Prop) (ad : Nat → Nat) (n N : Nat) (g : Nat → Int32) (r : Nat) (hA : zAp G ad (zX r ad) A) (hnN : n ≤ N) (hN12 : N ≤ 12) (hd5 : 0 < g 5) (τ : zT) : zMv l G A yX2_reportToHeads wsX2_reportToHeads 3 70 [.ref r] (zNA G ad n N g (zX r ad) τ) (zNA G ad n N g (zX r ad) (zIt (zRhS n g) n τ)) := by
  refine z_met (cc := cX2_reportToHeads) (maxL := 2) (ret := none) (by decide) rfl (Nat.le_of_ble_eq_true rfl) ?_
  intro p e s m below meth c ls S hr hlk hnm hN hK hl
  have S : CallFix p m c cX2_reportToHeads 2 s _ wsX2_reportToHeads RX2 := S
  obtain ⟨hx, hb, hml, hown, hts⟩ := id S
  have hS : va_S A s.heap s.heap [] := va_S.rf
  have hl : lv_has ls 2 [(0, .ref r)] := hl
  refine lv_iconst (v := 0) hx hb dX2_reportToHeads_0 (by decide) ?_
  refine lv_istore_n (lv' := [(1, .int 0), (0, .ref r)]) hx hb dX2_reportToHeads_1 rfl hl (by decide) rfl (fun ls hl => ?_)
  have loop1 : ∀ (f1 h : Nat) (H : Heap) (locs : List Loc) (ls : Array Slot), h ≤ n → n < h + f1 → zNA G ad n N g (zX r ad) (zIt (zRhS n g) h τ) H → va_S A s.heap H locs → lv_has ls 2 [(1, .int (nI h)), (0, .ref r)] → W p l e ({ frames := 3, cells := 0, slots := 0, locals := 70 } : Room) s m ([.ref r] : List Value).toArray below meth c H locs 0 0 (MQ below (zQv G (zNA G ad n N g (zX r ad) (zIt (zRhS n g) n τ)) A) ([.ref r] : List Value).toArray s 0 0 A) (F0 m 2 ls []) := by
    intro f1
    induction f1 with
    | zero => intro h H locs ls h1 h2; exact absurd h2 (by omega)
    | succ f1 ih1 =>
      intro h H locs ls hk1 hf1 hN hS hl
      generalize hF_τh : zIt (zRhS n g) h τ = τh at hN hl 
      refine lv_iload_n hx hb dX2_reportToHeads_2 rfl (lv_at hl 0 rfl) ?_
      refine lv_aload_n hx hb dX2_reportToHeads_3 rfl (lv_at hl 1 rfl) ?_
      refine z_getR hx hb hts hown in_X2_reportToHeads_X2 hK hN (hts _ (List.mem_of_getElem? (i := 1) (by decide +kernel))) dX2_reportToHeads_4 ?_
      refine z_getO (v := .int (nI n)) hx hb hts hown in_X2_reportToHeads_X1 hK hN 2 (by decide) rfl (hts _ (List.mem_of_getElem? (i := 2) (by decide +kernel))) rfl dX2_reportToHeads_7 ?_
      refine lv_icmp_ge (tgt := 32) hx hb dX2_reportToHeads_10 (by decide) (fun c_1 => ?_) (fun c_2 => ?_)
      · skip
        have c_1 := (z_leI (a := n) (b := h) (by omega) (by omega)).mp c_1
        have hkn1 : h = n := by omega
        rw [hkn1] at hF_τh
        subst hF_τh
        exact z_vret hx hb hr hlk hK hS (hN.cast (by first | with_reducible rfl | (simp only [c_1, eq_self, ne_eq, not_true_eq_false, not_false_eq_true, and_true, true_and, and_self, and_false, false_and, true_or, or_true, false_or, or_false, reduceIte]; done) | (simp [c_1]; done) | rfl | (simp_all []; done))) dX2_reportToHeads_32
      · skip
        have c_2 := (not_congr (z_leI (a := n) (b := h) (by omega) (by omega))).mp c_2
        refine lv_aload_n hx hb dX2_reportToHeads_13 rfl (lv_at hl 1 rfl) ?_
        refine lv_iload_n hx hb dX2_reportToHeads_14 rfl (lv_at hl 0 rfl) ?_
        refine z_vi (As := [.int (nI h)]) (rest := []) (P2 := zNA G ad n N g (zX r ad) τh) (r := zBi (τh 7 h = nI h)) S (c_X2_isHead l G A ad n N g r hA hnN hN12  τh h (by omega)) (cwV 1 hts gX2_reportToHeads_X2_isHead rfl rfl rfl (by decide +kernel) ⟨Nat.le_of_ble_eq_true rfl, Nat.le_of_ble_eq_true rfl⟩) (z_recR hK hN) hN hK hS (fun _ _ h => h) (fun _ h => h) hl.1 rfl rfl (Nat.le_of_ble_eq_true rfl) dX2_reportToHeads_15 ⟨Nat.le_refl _, Nat.le_refl _⟩ (fun H locs hN hS _ => ?_)
        refine lv_if_eq (tgt := 26) hx hb dX2_reportToHeads_18 (by decide) (fun c_3 => ?_) (fun c_4 => ?_)
        · skip
          have c_3 := zBi_0.mp c_3
          refine lv_iinc (v := nI (h + 1)) (lv' := [(1, .int (nI (h + 1))), (0, .ref r)]) hx hb dX2_reportToHeads_26 hl (k := 0) rfl (nI_1 _) (by decide) rfl (fun ls hl => ?_)
          refine lv_goto (tgt := 2) hx hb dX2_reportToHeads_29 (by decide) ?_
          have e_5 : zIt (zRhS n g) (h + 1) τ = τh := by
            rw [zIt_s, hF_τh]
            first | with_reducible rfl | (simp only [zRhS, c_2, c_3, eq_self, ne_eq, not_true_eq_false, not_false_eq_true, and_true, true_and, and_self, and_false, false_and, true_or, or_true, false_or, or_false, reduceIte]; done) | (simp [zRhS, c_2, c_3]; done) | rfl | (simp_all [zRhS]; done)
          refine ih1 (h + 1) _ _ _ (by omega) (by omega) ?_ hS ?_
          · first | exact hN | (rw [e_5]; exact hN)
          · first | exact lv_sub hl [0, 1] rfl | (rw [e_5]; exact lv_sub hl [0, 1] rfl)
        · skip
          have c_4 := zBi_n0.mp c_4
          refine lv_aload_n hx hb dX2_reportToHeads_21 rfl (lv_at hl 1 rfl) ?_
          refine lv_iload_n hx hb dX2_reportToHeads_22 rfl (lv_at hl 0 rfl) ?_
          refine z_vv (As := [.int (nI h)]) (rest := []) (P2 := zNA G ad n N g (zX r ad) (zIt (zRpS g h) n τh)) S (c_X2_reportTo l G A ad n N g r hA hnN hN12 hd5 τh h (by omega)) (cwV 1 hts gX2_reportToHeads_X2_reportTo rfl rfl rfl (by decide +kernel) ⟨Nat.le_of_ble_eq_true rfl, Nat.le_of_ble_eq_true rfl⟩) (z_recR hK hN) hN hK hS (fun _ _ h => h) (fun _ h => h) hl.1 rfl rfl (Nat.le_of_ble_eq_true rfl) dX2_reportToHeads_23 ⟨Nat.le_refl _, Nat.le_refl _⟩ (fun H locs hN hS _ => ?_)
          refine lv_iinc (v := nI (h + 1)) (lv' := [(1, .int (nI (h + 1))), (0, .ref r)]) hx hb dX2_reportToHeads_26 hl (k := 0) rfl (nI_1 _) (by decide) rfl (fun ls hl => ?_)
          refine lv_goto (tgt := 2) hx hb dX2_reportToHeads_29 (by decide) ?_
          have e_6 : zIt (zRhS n g) (h + 1) τ = zIt (zRpS g h) n τh := by
            rw [zIt_s, hF_τh]
            first | with_reducible rfl | (simp only [zRhS, c_2, c_4, eq_self, ne_eq, not_true_eq_false, not_false_eq_true, and_true, true_and, and_self, and_false, false_and, true_or, or_true, false_or, or_false, reduceIte]; done) | (simp [zRhS, c_2, c_4]; done) | rfl | (simp_all [zRhS]; done)
          refine ih1 (h + 1) _ _ _ (by omega) (by omega) ?_ hS ?_
          · first | exact hN | (rw [e_6]; exact hN)
          · first | exact lv_sub hl [0, 1] rfl | (rw [e_6]; exact lv_sub hl [0, 1] rfl)
  exact loop1 (n + 1) 0 _ _ _ (by omega) (by omega) hN hS (lv_sub hl [0, 1] rfl)

theorem in_X2_addOwnReadings_X1 : ∀ w ∈ wsX10, w ∈ wsX2_addOwnReadings := by decide +kernel
theorem in_X2_addOwnReadings_X2 : ∀ w ∈ wsX20, w ∈ wsX2_addOwnReadings := by decide +kernel
theorem in_X2_addOwnReadings_X3 : ∀ w ∈ wsX30, w ∈ wsX2_addOwnReadings := by decide +kernel
set_option maxHeartbeats 4000000 in
set_option maxRecDepth 100000 in
theorem c_X2_addOwnReadings (l : Launch) (G : zG) (A : Nat → Prop) (ad : Nat → Nat) (n N : Nat) (g : Nat → Int32) (r : Nat) (hA : zAp G ad (zX r ad) A) (hnN : n ≤ N) (hN12 : N ≤ 12) (τ : zT) : zMv l G A yX2_addOwnReadings wsX2_addOwnReadings 1 22 [.ref r] (zNA G ad n N g (zX r ad) τ) (zNA G ad n N g (zX r ad) (zIt (zOwS g) n τ)) := by
  refine z_met (cc := cX2_addOwnReadings) (maxL := 3) (ret := none) (by decide) rfl (Nat.le_of_ble_eq_true rfl) ?_
  intro p e s m below meth c ls S hr hlk hnm hN hK hl
  have S : CallFix p m c cX2_addOwnReadings 3 s _ wsX2_addOwnReadings RX2 := S
  obtain ⟨hx, hb, hml, hown, hts⟩ := id S
  have hS : va_S A s.heap s.heap [] := va_S.rf
  have hl : lv_has ls 3 [(0, .ref r)] := hl
  refine lv_iconst (v := 0) hx hb dX2_addOwnReadings_0 (by decide) ?_
  refine lv_istore_n (lv' := [(1, .int 0), (0, .ref r)]) hx hb dX2_addOwnReadings_1 rfl hl (by decide) rfl (fun ls hl => ?_)
  have loop1 : ∀ (f1 h : Nat) (H : Heap) (locs : List Loc) (ls : Array Slot), h ≤ n → n < h + f1 → zNA G ad n N g (zX r ad) (zIt (zOwS g) h τ) H → va_S A s.heap H locs → lv_has ls 3 [(1, .int (nI h)), (0, .ref r)] → W p l e ({ frames := 1, cells := 0, slots := 0, locals := 22 } : Room) s m ([.ref r] : List Value).toArray below meth c H locs 0 0 (MQ below (zQv G (zNA G ad n N g (zX r ad) (zIt (zOwS g) n τ)) A) ([.ref r] : List Value).toArray s 0 0 A) (F0 m 2 ls []) := by
    intro f1
    induction f1 with
    | zero => intro h H locs ls h1 h2; exact absurd h2 (by omega)
    | succ f1 ih1 =>
      intro h H locs ls hk1 hf1 hN hS hl
      generalize hF_τh : zIt (zOwS g) h τ = τh at hN hl 
      refine lv_iload_n hx hb dX2_addOwnReadings_2 rfl (lv_at hl 0 rfl) ?_
      refine lv_aload_n hx hb dX2_addOwnReadings_3 rfl (lv_at hl 1 rfl) ?_
      refine z_getR hx hb hts hown in_X2_addOwnReadings_X2 hK hN (hts _ (List.mem_of_getElem? (i := 1) (by decide +kernel))) dX2_addOwnReadings_4 ?_
      refine z_getO (v := .int (nI n)) hx hb hts hown in_X2_addOwnReadings_X1 hK hN 2 (by decide) rfl (hts _ (List.mem_of_getElem? (i := 2) (by decide +kernel))) rfl dX2_addOwnReadings_7 ?_
      refine lv_icmp_ge (tgt := 64) hx hb dX2_addOwnReadings_10 (by decide) (fun c_1 => ?_) (fun c_2 => ?_)
      · skip
        have c_1 := (z_leI (a := n) (b := h) (by omega) (by omega)).mp c_1
        have hkn1 : h = n := by omega
        rw [hkn1] at hF_τh
        subst hF_τh
        exact z_vret hx hb hr hlk hK hS (hN.cast (by first | with_reducible rfl | (simp only [c_1, eq_self, ne_eq, not_true_eq_false, not_false_eq_true, and_true, true_and, and_self, and_false, false_and, true_or, or_true, false_or, or_false, reduceIte]; done) | (simp [c_1]; done) | rfl | (simp_all []; done))) dX2_addOwnReadings_64
      · skip
        have c_2 := (not_congr (z_leI (a := n) (b := h) (by omega) (by omega))).mp c_2
        refine lv_aload_n hx hb dX2_addOwnReadings_13 rfl (lv_at hl 1 rfl) ?_
        refine z_getR hx hb hts hown in_X2_addOwnReadings_X2 hK hN (hts _ (List.mem_of_getElem? (i := 1) (by decide +kernel))) dX2_addOwnReadings_14 ?_
        refine z_getO (v := .ref (ad 1)) hx hb hts hown in_X2_addOwnReadings_X1 hK hN 0 (by decide) rfl (hts _ (List.mem_of_getElem? (i := 3) (by decide +kernel))) rfl dX2_addOwnReadings_17 ?_
        refine lv_iload_n hx hb dX2_addOwnReadings_20 rfl (lv_at hl 0 rfl) ?_
        refine z_aald (i := h) hx hb hK hN rfl (by omega) dX2_addOwnReadings_21 ?_
        refine lv_astore_n (lv' := [(2, .ref (ad (3 + h))), (1, .int (nI h)), (0, .ref r)]) hx hb dX2_addOwnReadings_22 rfl hl (by decide) rfl (fun ls hl => ?_)
        refine lv_aload_n hx hb dX2_addOwnReadings_23 rfl (lv_at hl 2 rfl) ?_
        refine lv_iload_n hx hb dX2_addOwnReadings_24 rfl (lv_at hl 1 rfl) ?_
        refine z_vi (As := [.int (nI h)]) (rest := []) (P2 := zNA G ad n N g (zX r ad) τh) (r := zBi (τh 3 h = 1 ∧ τh 7 h = nI h)) S (c_X2_isLivingHead l G A ad n N g r hA hnN hN12  τh h (by omega)) (cwV 1 hts gX2_addOwnReadings_X2_isLivingHead rfl rfl rfl (by decide +kernel) ⟨Nat.le_of_ble_eq_true rfl, Nat.le_of_ble_eq_true rfl⟩) (z_recR hK hN) hN hK hS (fun _ _ h => h) (fun _ h => h) hl.1 rfl rfl (Nat.le_of_ble_eq_true rfl) dX2_addOwnReadings_25 ⟨Nat.le_refl _, Nat.le_refl _⟩ (fun H locs hN hS _ => ?_)
        refine lv_if_eq (tgt := 58) hx hb dX2_addOwnReadings_28 (by decide) (fun c_3 => ?_) (fun c_4 => ?_)
        · skip
          have c_3 := zBi_0.mp c_3
          refine lv_iinc (v := nI (h + 1)) (lv' := [(1, .int (nI (h + 1))), (2, .ref (ad (3 + h))), (0, .ref r)]) hx hb dX2_addOwnReadings_58 hl (k := 1) rfl (nI_1 _) (by decide) rfl (fun ls hl => ?_)
          refine lv_goto (tgt := 2) hx hb dX2_addOwnReadings_61 (by decide) ?_
          have e_5 : zIt (zOwS g) (h + 1) τ = τh := by
            rw [zIt_s, hF_τh]
            first | with_reducible rfl | (simp only [zOwS, zPay, zPd, zSt_ap, c_2, c_3, eq_self, ne_eq, not_true_eq_false, not_false_eq_true, and_true, true_and, and_self, and_false, false_and, true_or, or_true, false_or, or_false, reduceIte]; done) | (simp [zOwS, zPay, zPd, zSt_ap, c_2, c_3]; done) | rfl | (simp_all [zOwS, zPay, zPd, zSt_ap]; done)
          refine ih1 (h + 1) _ _ _ (by omega) (by omega) ?_ hS ?_
          · first | exact hN | (rw [e_5]; exact hN)
          · first | exact lv_sub hl [0, 2] rfl | (rw [e_5]; exact lv_sub hl [0, 2] rfl)
        · skip
          have c_4 := zBi_n0.mp c_4
          refine lv_aload_n hx hb dX2_addOwnReadings_31 rfl (lv_at hl 2 rfl) ?_
          refine lv_aload_n hx hb dX2_addOwnReadings_32 rfl (lv_at hl 0 rfl) ?_
          refine lv_aload_n hx hb dX2_addOwnReadings_33 rfl (lv_at hl 2 rfl) ?_
          refine z_getR hx hb hts hown in_X2_addOwnReadings_X2 hK hN (hts _ (List.mem_of_getElem? (i := 1) (by decide +kernel))) dX2_addOwnReadings_34 ?_
          refine z_getO (v := .ref (ad 2)) hx hb hts hown in_X2_addOwnReadings_X1 hK hN 1 (by decide) rfl (hts _ (List.mem_of_getElem? (i := 4) (by decide +kernel))) rfl dX2_addOwnReadings_37 ?_
          refine lv_iconst (v := 3) hx hb dX2_addOwnReadings_40 (by decide) ?_
          refine z_iald (w := g 6) hx hb hK hN 3 (by decide) (by decide) rfl dX2_addOwnReadings_41 ?_
          refine z_vi (As := [.ref (ad (3 + h)), .int (g 6)]) (rest := []) (P2 := zNA G ad n N g (zX r ad) (zPay τh h (g 6))) (r := zBi (¬ τh 2 h < (g 6))) S (c_X2_pays l G A ad n N g r hA hnN hN12  τh h (by omega) (g 6)) (cwV 2 hts gX2_addOwnReadings_X2_pays rfl rfl rfl (by decide +kernel) ⟨Nat.le_of_ble_eq_true rfl, Nat.le_of_ble_eq_true rfl⟩) (z_recR hK hN) hN hK hS (fun _ _ h => h) (fun _ h => h) hl.1 rfl rfl (Nat.le_of_ble_eq_true rfl) dX2_addOwnReadings_42 ⟨Nat.le_refl _, Nat.le_refl _⟩ (fun H locs hN hS _ => ?_)
          refine lv_if_eq (tgt := 58) hx hb dX2_addOwnReadings_45 (by decide) (fun c_6 => ?_) (fun c_7 => ?_)
          · skip
            have c_6 := zBi_0.mp c_6
            have c_6 := Decidable.of_not_not c_6
            have hN := hN.cast (zPay_n c_6)
            refine lv_iinc (v := nI (h + 1)) (lv' := [(1, .int (nI (h + 1))), (2, .ref (ad (3 + h))), (0, .ref r)]) hx hb dX2_addOwnReadings_58 hl (k := 1) rfl (nI_1 _) (by decide) rfl (fun ls hl => ?_)
            refine lv_goto (tgt := 2) hx hb dX2_addOwnReadings_61 (by decide) ?_
            have e_8 : zIt (zOwS g) (h + 1) τ = zDie τh h := by
              rw [zIt_s, hF_τh]
              first | with_reducible rfl | (simp only [zOwS, zPay, zPd, zSt_ap, c_2, c_4, c_6, eq_self, ne_eq, not_true_eq_false, not_false_eq_true, and_true, true_and, and_self, and_false, false_and, true_or, or_true, false_or, or_false, reduceIte]; done) | (simp [zOwS, zPay, zPd, zSt_ap, c_2, c_4, c_6]; done) | rfl | (simp_all [zOwS, zPay, zPd, zSt_ap]; done)
            refine ih1 (h + 1) _ _ _ (by omega) (by omega) ?_ hS ?_
            · first | exact hN | (rw [e_8]; exact hN)
            · first | exact lv_sub hl [0, 2] rfl | (rw [e_8]; exact lv_sub hl [0, 2] rfl)
          · skip
            have c_7 := zBi_n0.mp c_7
            have hN := hN.cast (zPay_y c_7)
            refine lv_aload_n hx hb dX2_addOwnReadings_48 rfl (lv_at hl 0 rfl) ?_
            refine lv_dup hx hb dX2_addOwnReadings_49 rfl ?_
            refine z_getS (v := .int ((zPd τh h (g 6)) 9 h)) hx hb hts hown in_X2_addOwnReadings_X3 hK hN12 hN (by omega) 10 (by decide) rfl (hts _ (List.mem_of_getElem? (i := 5) (by decide +kernel))) rfl dX2_addOwnReadings_50 ?_
            refine lv_iconst (v := 1) hx hb dX2_addOwnReadings_53 (by decide) ?_
            refine lv_iadd hx hb dX2_addOwnReadings_54 ?_
            refine z_putS (v := .int (((zPd τh h (g 6)) 9 h) + 1)) (w := ((zPd τh h (g 6)) 9 h) + 1) (ty := .int) hx hb hts hown in_X2_addOwnReadings_X3 hK hA hS hN (by omega) 10 9 (by decide) rfl (by decide) (hts _ (List.mem_of_getElem? (i := 5) (by decide +kernel))) (by decide +kernel) rfl rfl rfl (fun τ => zSet10 τ _ _) dX2_addOwnReadings_55 (fun H locs hN hS => ?_)
            refine lv_iinc (v := nI (h + 1)) (lv' := [(1, .int (nI (h + 1))), (2, .ref (ad (3 + h))), (0, .ref r)]) hx hb dX2_addOwnReadings_58 hl (k := 1) rfl (nI_1 _) (by decide) rfl (fun ls hl => ?_)
            refine lv_goto (tgt := 2) hx hb dX2_addOwnReadings_61 (by decide) ?_
            have e_9 : zIt (zOwS g) (h + 1) τ = zSt (zPd τh h (g 6)) 9 h (((zPd τh h (g 6)) 9 h) + 1) := by
              rw [zIt_s, hF_τh]
              first | with_reducible rfl | (simp only [zOwS, zPay, zPd, zSt_ap, c_2, c_4, c_7, eq_self, ne_eq, not_true_eq_false, not_false_eq_true, and_true, true_and, and_self, and_false, false_and, true_or, or_true, false_or, or_false, reduceIte]; done) | (simp [zOwS, zPay, zPd, zSt_ap, c_2, c_4, c_7]; done) | rfl | (simp_all [zOwS, zPay, zPd, zSt_ap]; done)
            refine ih1 (h + 1) _ _ _ (by omega) (by omega) ?_ hS ?_
            · first | exact hN | (rw [e_9]; exact hN)
            · first | exact lv_sub hl [0, 2] rfl | (rw [e_9]; exact lv_sub hl [0, 2] rfl)
  exact loop1 (n + 1) 0 _ _ _ (by omega) (by omega) hN hS (lv_sub hl [0, 1] rfl)

theorem in_X2_sendToBase_X1 : ∀ w ∈ wsX10, w ∈ wsX2_sendToBase := by decide +kernel
theorem in_X2_sendToBase_X2 : ∀ w ∈ wsX20, w ∈ wsX2_sendToBase := by decide +kernel
set_option maxHeartbeats 4000000 in
set_option maxRecDepth 100000 in
theorem c_X2_sendToBase (l : Launch) (G : zG) (A : Nat → Prop) (ad : Nat → Nat) (n N : Nat) (g : Nat → Int32) (r : Nat) (hA : zAp G ad (zX r ad) A) (hnN : n ≤ N) (hN12 : N ≤ 12) (hd5 : 0 < g 5) (τ : zT) (i : Nat) (hi : i < N) (w : Int32) : zMv l G A yX2_sendToBase wsX2_sendToBase 1 24 [.ref r, .ref (ad (3 + i)), .int w] (zNA G ad n N g (zX r ad) τ) (zNA G ad n N g (zX r ad) (zSb g τ i w)) := by
  refine z_met (cc := cX2_sendToBase) (maxL := 3) (ret := none) (by decide) rfl (Nat.le_of_ble_eq_true rfl) ?_
  intro p e s m below meth c ls S hr hlk hnm hN hK hl
  have S : CallFix p m c cX2_sendToBase 3 s _ wsX2_sendToBase RX2 := S
  obtain ⟨hx, hb, hml, hown, hts⟩ := id S
  have hS : va_S A s.heap s.heap [] := va_S.rf
  have hl : lv_has ls 3 [(0, .ref r), (1, .ref (ad (3 + i))), (2, .int w)] := hl
  refine lv_aload_n hx hb dX2_sendToBase_0 rfl (lv_at hl 0 rfl) ?_
  refine lv_aload_n hx hb dX2_sendToBase_1 rfl (lv_at hl 1 rfl) ?_
  refine lv_aload_n hx hb dX2_sendToBase_2 rfl (lv_at hl 0 rfl) ?_
  refine z_getR hx hb hts hown in_X2_sendToBase_X2 hK hN (hts _ (List.mem_of_getElem? (i := 1) (by decide +kernel))) dX2_sendToBase_3 ?_
  refine lv_aload_n hx hb dX2_sendToBase_6 rfl (lv_at hl 1 rfl) ?_
  refine lv_aload_n hx hb dX2_sendToBase_7 rfl (lv_at hl 0 rfl) ?_
  refine z_getR hx hb hts hown in_X2_sendToBase_X2 hK hN (hts _ (List.mem_of_getElem? (i := 1) (by decide +kernel))) dX2_sendToBase_8 ?_
  refine z_getO (v := .int (g 1)) hx hb hts hown in_X2_sendToBase_X1 hK hN 3 (by decide) rfl (hts _ (List.mem_of_getElem? (i := 2) (by decide +kernel))) rfl dX2_sendToBase_11 ?_
  refine lv_aload_n hx hb dX2_sendToBase_14 rfl (lv_at hl 0 rfl) ?_
  refine z_getR hx hb hts hown in_X2_sendToBase_X2 hK hN (hts _ (List.mem_of_getElem? (i := 1) (by decide +kernel))) dX2_sendToBase_15 ?_
  refine z_getO (v := .int (g 2)) hx hb hts hown in_X2_sendToBase_X1 hK hN 4 (by decide) rfl (hts _ (List.mem_of_getElem? (i := 3) (by decide +kernel))) rfl dX2_sendToBase_18 ?_
  refine z_vi (As := [.int (g 1), .int (g 2)]) (rest := [.ref (ad 0), .ref (ad (3 + i)), .ref r]) (P2 := zNA G ad n N g (zX r ad) τ) (r := zDi (τ 0 i) (τ 1 i) (g 1) (g 2)) S (c_X3_distanceTo l G A ad n N g (zX r ad) hA hnN hN12  τ i (by omega) (g 1) (g 2)) (cwV 2 hts gX2_sendToBase_X3_distanceTo rfl rfl rfl (by decide +kernel) ⟨Nat.le_of_ble_eq_true rfl, Nat.le_of_ble_eq_true rfl⟩) (z_recS hK hN (by omega)) hN hK hS (fun _ _ h => h) (fun _ h => h) hl.1 rfl rfl (Nat.le_of_ble_eq_true rfl) dX2_sendToBase_21 ⟨Nat.le_refl _, Nat.le_refl _⟩ (fun H locs hN hS _ => ?_)
  refine z_vi (As := [.int (zDi (τ 0 i) (τ 1 i) (g 1) (g 2))]) (rest := [.ref (ad (3 + i)), .ref r]) (P2 := zNA G ad n N g (zX r ad) τ) (r := zCo g (zDi (τ 0 i) (τ 1 i) (g 1) (g 2))) S (c_X1_costOver l G A ad n N g (zX r ad) hA hnN hN12 hd5 τ (zDi (τ 0 i) (τ 1 i) (g 1) (g 2))) (cwV 1 hts gX2_sendToBase_X1_costOver rfl rfl rfl (by decide +kernel) ⟨Nat.le_of_ble_eq_true rfl, Nat.le_of_ble_eq_true rfl⟩) (z_recN hK hN) hN hK hS (fun _ _ h => h) (fun _ h => h) hl.1 rfl rfl (Nat.le_of_ble_eq_true rfl) dX2_sendToBase_24 ⟨Nat.le_refl _, Nat.le_refl _⟩ (fun H locs hN hS _ => ?_)
  refine z_vi (As := [.ref (ad (3 + i)), .int (zCo g (zDi (τ 0 i) (τ 1 i) (g 1) (g 2)))]) (rest := []) (P2 := zNA G ad n N g (zX r ad) (zPay τ i (zCo g (zDi (τ 0 i) (τ 1 i) (g 1) (g 2))))) (r := zBi (¬ τ 2 i < (zCo g (zDi (τ 0 i) (τ 1 i) (g 1) (g 2))))) S (c_X2_pays l G A ad n N g r hA hnN hN12  τ i (by omega) (zCo g (zDi (τ 0 i) (τ 1 i) (g 1) (g 2)))) (cwV 2 hts gX2_sendToBase_X2_pays rfl rfl rfl (by decide +kernel) ⟨Nat.le_of_ble_eq_true rfl, Nat.le_of_ble_eq_true rfl⟩) (z_recR hK hN) hN hK hS (fun _ _ h => h) (fun _ h => h) hl.1 rfl rfl (Nat.le_of_ble_eq_true rfl) dX2_sendToBase_27 ⟨Nat.le_refl _, Nat.le_refl _⟩ (fun H locs hN hS _ => ?_)
  refine lv_if_eq (tgt := 46) hx hb dX2_sendToBase_30 (by decide) (fun c_1 => ?_) (fun c_2 => ?_)
  · skip
    have c_1 := zBi_0.mp c_1
    have c_1 := Decidable.of_not_not c_1
    have hN := hN.cast (zPay_n c_1)
    exact z_vret hx hb hr hlk hK hS (hN.cast (by first | with_reducible rfl | (simp only [zSb, zPay, zDb, zPd, zSt_ap, c_1, eq_self, ne_eq, not_true_eq_false, not_false_eq_true, and_true, true_and, and_self, and_false, false_and, true_or, or_true, false_or, or_false, reduceIte]; done) | (simp [zSb, zPay, zDb, zPd, zSt_ap, c_1]; done) | rfl | (simp_all [zSb, zPay, zDb, zPd, zSt_ap]; done))) dX2_sendToBase_46
  · skip
    have c_2 := zBi_n0.mp c_2
    have hN := hN.cast (zPay_y c_2)
    refine lv_aload_n hx hb dX2_sendToBase_33 rfl (lv_at hl 0 rfl) ?_
    refine z_getR hx hb hts hown in_X2_sendToBase_X2 hK hN (hts _ (List.mem_of_getElem? (i := 1) (by decide +kernel))) dX2_sendToBase_34 ?_
    refine lv_dup hx hb dX2_sendToBase_37 rfl ?_
    refine z_getO (v := .int ((zPd τ i (zCo g (zDi (τ 0 i) (τ 1 i) (g 1) (g 2)))) 11 12)) hx hb hts hown in_X2_sendToBase_X1 hK hN 8 (by decide) rfl (hts _ (List.mem_of_getElem? (i := 4) (by decide +kernel))) rfl dX2_sendToBase_38 ?_
    refine lv_iload_n hx hb dX2_sendToBase_41 rfl (lv_at hl 2 rfl) ?_
    refine lv_iadd hx hb dX2_sendToBase_42 ?_
    refine z_putO (w := ((zPd τ i (zCo g (zDi (τ 0 i) (τ 1 i) (g 1) (g 2)))) 11 12) + w) hx hb hts hown in_X2_sendToBase_X1 hK hA hS hN 8 12 (by decide) rfl (hts _ (List.mem_of_getElem? (i := 4) (by decide +kernel))) (by decide +kernel) rfl (fun τ => zObs8 ad n g τ _) dX2_sendToBase_43 (fun H locs hN hS => ?_)
    exact z_vret hx hb hr hlk hK hS (hN.cast (by first | with_reducible rfl | (simp only [zSb, zPay, zDb, zPd, zSt_ap, c_2, eq_self, ne_eq, not_true_eq_false, not_false_eq_true, and_true, true_and, and_self, and_false, false_and, true_or, or_true, false_or, or_false, reduceIte]; done) | (simp [zSb, zPay, zDb, zPd, zSt_ap, c_2]; done) | rfl | (simp_all [zSb, zPay, zDb, zPd, zSt_ap]; done))) dX2_sendToBase_46

theorem in_X2_reportToBase_X1 : ∀ w ∈ wsX10, w ∈ wsX2_reportToBase := by decide +kernel
theorem in_X2_reportToBase_X2 : ∀ w ∈ wsX20, w ∈ wsX2_reportToBase := by decide +kernel
theorem in_X2_reportToBase_X3 : ∀ w ∈ wsX30, w ∈ wsX2_reportToBase := by decide +kernel
set_option maxHeartbeats 4000000 in
set_option maxRecDepth 100000 in
theorem c_X2_reportToBase (l : Launch) (G : zG) (A : Nat → Prop) (ad : Nat → Nat) (n N : Nat) (g : Nat → Int32) (r : Nat) (hA : zAp G ad (zX r ad) A) (hnN : n ≤ N) (hN12 : N ≤ 12) (hd5 : 0 < g 5) (τ : zT) : zMv l G A yX2_reportToBase wsX2_reportToBase 2 46 [.ref r] (zNA G ad n N g (zX r ad) τ) (zNA G ad n N g (zX r ad) (zIt (zRbS g) n τ)) := by
  refine z_met (cc := cX2_reportToBase) (maxL := 3) (ret := none) (by decide) rfl (Nat.le_of_ble_eq_true rfl) ?_
  intro p e s m below meth c ls S hr hlk hnm hN hK hl
  have S : CallFix p m c cX2_reportToBase 3 s _ wsX2_reportToBase RX2 := S
  obtain ⟨hx, hb, hml, hown, hts⟩ := id S
  have hS : va_S A s.heap s.heap [] := va_S.rf
  have hl : lv_has ls 3 [(0, .ref r)] := hl
  refine lv_iconst (v := 0) hx hb dX2_reportToBase_0 (by decide) ?_
  refine lv_istore_n (lv' := [(1, .int 0), (0, .ref r)]) hx hb dX2_reportToBase_1 rfl hl (by decide) rfl (fun ls hl => ?_)
  have loop1 : ∀ (f1 k : Nat) (H : Heap) (locs : List Loc) (ls : Array Slot), k ≤ n → n < k + f1 → zNA G ad n N g (zX r ad) (zIt (zRbS g) k τ) H → va_S A s.heap H locs → lv_has ls 3 [(1, .int (nI k)), (0, .ref r)] → W p l e ({ frames := 2, cells := 0, slots := 0, locals := 46 } : Room) s m ([.ref r] : List Value).toArray below meth c H locs 0 0 (MQ below (zQv G (zNA G ad n N g (zX r ad) (zIt (zRbS g) n τ)) A) ([.ref r] : List Value).toArray s 0 0 A) (F0 m 2 ls []) := by
    intro f1
    induction f1 with
    | zero => intro k H locs ls h1 h2; exact absurd h2 (by omega)
    | succ f1 ih1 =>
      intro k H locs ls hk1 hf1 hN hS hl
      generalize hF_τk : zIt (zRbS g) k τ = τk at hN hl 
      refine lv_iload_n hx hb dX2_reportToBase_2 rfl (lv_at hl 0 rfl) ?_
      refine lv_aload_n hx hb dX2_reportToBase_3 rfl (lv_at hl 1 rfl) ?_
      refine z_getR hx hb hts hown in_X2_reportToBase_X2 hK hN (hts _ (List.mem_of_getElem? (i := 1) (by decide +kernel))) dX2_reportToBase_4 ?_
      refine z_getO (v := .int (nI n)) hx hb hts hown in_X2_reportToBase_X1 hK hN 2 (by decide) rfl (hts _ (List.mem_of_getElem? (i := 2) (by decide +kernel))) rfl dX2_reportToBase_7 ?_
      refine lv_icmp_ge (tgt := 42) hx hb dX2_reportToBase_10 (by decide) (fun c_1 => ?_) (fun c_2 => ?_)
      · skip
        have c_1 := (z_leI (a := n) (b := k) (by omega) (by omega)).mp c_1
        have hkn1 : k = n := by omega
        rw [hkn1] at hF_τk
        subst hF_τk
        exact z_vret hx hb hr hlk hK hS (hN.cast (by first | with_reducible rfl | (simp only [c_1, eq_self, ne_eq, not_true_eq_false, not_false_eq_true, and_true, true_and, and_self, and_false, false_and, true_or, or_true, false_or, or_false, reduceIte]; done) | (simp [c_1]; done) | rfl | (simp_all []; done))) dX2_reportToBase_42
      · skip
        have c_2 := (not_congr (z_leI (a := n) (b := k) (by omega) (by omega))).mp c_2
        refine lv_aload_n hx hb dX2_reportToBase_13 rfl (lv_at hl 1 rfl) ?_
        refine z_getR hx hb hts hown in_X2_reportToBase_X2 hK hN (hts _ (List.mem_of_getElem? (i := 1) (by decide +kernel))) dX2_reportToBase_14 ?_
        refine z_getO (v := .ref (ad 1)) hx hb hts hown in_X2_reportToBase_X1 hK hN 0 (by decide) rfl (hts _ (List.mem_of_getElem? (i := 3) (by decide +kernel))) rfl dX2_reportToBase_17 ?_
        refine lv_iload_n hx hb dX2_reportToBase_20 rfl (lv_at hl 0 rfl) ?_
        refine z_aald (i := k) hx hb hK hN rfl (by omega) dX2_reportToBase_21 ?_
        refine lv_astore_n (lv' := [(2, .ref (ad (3 + k))), (1, .int (nI k)), (0, .ref r)]) hx hb dX2_reportToBase_22 rfl hl (by decide) rfl (fun ls hl => ?_)
        refine lv_aload_n hx hb dX2_reportToBase_23 rfl (lv_at hl 0 rfl) ?_
        refine z_getS (v := .int (zBi (τk 3 k = 1))) hx hb hts hown in_X2_reportToBase_X3 hK hN12 hN (by omega) 3 (by decide) rfl (hts _ (List.mem_of_getElem? (i := 4) (by decide +kernel))) rfl dX2_reportToBase_24 ?_
        refine lv_if_eq (tgt := 36) hx hb dX2_reportToBase_27 (by decide) (fun c_3 => ?_) (fun c_4 => ?_)
        · skip
          have c_3 := zBi_0.mp c_3
          refine lv_iinc (v := nI (k + 1)) (lv' := [(1, .int (nI (k + 1))), (2, .ref (ad (3 + k))), (0, .ref r)]) hx hb dX2_reportToBase_36 hl (k := 1) rfl (nI_1 _) (by decide) rfl (fun ls hl => ?_)
          refine lv_goto (tgt := 2) hx hb dX2_reportToBase_39 (by decide) ?_
          have e_5 : zIt (zRbS g) (k + 1) τ = τk := by
            rw [zIt_s, hF_τk]
            first | with_reducible rfl | (simp only [zRbS, c_2, c_3, eq_self, ne_eq, not_true_eq_false, not_false_eq_true, and_true, true_and, and_self, and_false, false_and, true_or, or_true, false_or, or_false, reduceIte]; done) | (simp [zRbS, c_2, c_3]; done) | rfl | (simp_all [zRbS]; done)
          refine ih1 (k + 1) _ _ _ (by omega) (by omega) ?_ hS ?_
          · first | exact hN | (rw [e_5]; exact hN)
          · first | exact lv_sub hl [0, 2] rfl | (rw [e_5]; exact lv_sub hl [0, 2] rfl)
        · skip
          have c_4 := zBi_n0.mp c_4
          refine lv_aload_n hx hb dX2_reportToBase_30 rfl (lv_at hl 2 rfl) ?_
          refine lv_aload_n hx hb dX2_reportToBase_31 rfl (lv_at hl 0 rfl) ?_
          refine lv_iconst (v := 1) hx hb dX2_reportToBase_32 (by decide) ?_
          refine z_vv (As := [.ref (ad (3 + k)), .int 1]) (rest := []) (P2 := zNA G ad n N g (zX r ad) (zSb g τk k 1)) S (c_X2_sendToBase l G A ad n N g r hA hnN hN12 hd5 τk k (by omega) 1) (cwV 2 hts gX2_reportToBase_X2_sendToBase rfl rfl rfl (by decide +kernel) ⟨Nat.le_of_ble_eq_true rfl, Nat.le_of_ble_eq_true rfl⟩) (z_recR hK hN) hN hK hS (fun _ _ h => h) (fun _ h => h) hl.1 rfl rfl (Nat.le_of_ble_eq_true rfl) dX2_reportToBase_33 ⟨Nat.le_refl _, Nat.le_refl _⟩ (fun H locs hN hS _ => ?_)
          refine lv_iinc (v := nI (k + 1)) (lv' := [(1, .int (nI (k + 1))), (2, .ref (ad (3 + k))), (0, .ref r)]) hx hb dX2_reportToBase_36 hl (k := 1) rfl (nI_1 _) (by decide) rfl (fun ls hl => ?_)
          refine lv_goto (tgt := 2) hx hb dX2_reportToBase_39 (by decide) ?_
          have e_6 : zIt (zRbS g) (k + 1) τ = zSb g τk k 1 := by
            rw [zIt_s, hF_τk]
            first | with_reducible rfl | (simp only [zRbS, c_2, c_4, eq_self, ne_eq, not_true_eq_false, not_false_eq_true, and_true, true_and, and_self, and_false, false_and, true_or, or_true, false_or, or_false, reduceIte]; done) | (simp [zRbS, c_2, c_4]; done) | rfl | (simp_all [zRbS]; done)
          refine ih1 (k + 1) _ _ _ (by omega) (by omega) ?_ hS ?_
          · first | exact hN | (rw [e_6]; exact hN)
          · first | exact lv_sub hl [0, 2] rfl | (rw [e_6]; exact lv_sub hl [0, 2] rfl)
  exact loop1 (n + 1) 0 _ _ _ (by omega) (by omega) hN hS (lv_sub hl [0, 1] rfl)

theorem in_X2_deliverDirectly_X1 : ∀ w ∈ wsX10, w ∈ wsX2_deliverDirectly := by decide +kernel
theorem in_X2_deliverDirectly_X2 : ∀ w ∈ wsX20, w ∈ wsX2_deliverDirectly := by decide +kernel
theorem in_X2_deliverDirectly_X3 : ∀ w ∈ wsX30, w ∈ wsX2_deliverDirectly := by decide +kernel
set_option maxHeartbeats 4000000 in
set_option maxRecDepth 100000 in
theorem c_X2_deliverDirectly (l : Launch) (G : zG) (A : Nat → Prop) (ad : Nat → Nat) (n N : Nat) (g : Nat → Int32) (r : Nat) (hA : zAp G ad (zX r ad) A) (hnN : n ≤ N) (hN12 : N ≤ 12) (hd5 : 0 < g 5) (τ : zT) : zMv l G A yX2_deliverDirectly wsX2_deliverDirectly 2 46 [.ref r] (zNA G ad n N g (zX r ad) τ) (zNA G ad n N g (zX r ad) (zIt (zDdS g) n τ)) := by
  refine z_met (cc := cX2_deliverDirectly) (maxL := 3) (ret := none) (by decide) rfl (Nat.le_of_ble_eq_true rfl) ?_
  intro p e s m below meth c ls S hr hlk hnm hN hK hl
  have S : CallFix p m c cX2_deliverDirectly 3 s _ wsX2_deliverDirectly RX2 := S
  obtain ⟨hx, hb, hml, hown, hts⟩ := id S
  have hS : va_S A s.heap s.heap [] := va_S.rf
  have hl : lv_has ls 3 [(0, .ref r)] := hl
  refine lv_iconst (v := 0) hx hb dX2_deliverDirectly_0 (by decide) ?_
  refine lv_istore_n (lv' := [(1, .int 0), (0, .ref r)]) hx hb dX2_deliverDirectly_1 rfl hl (by decide) rfl (fun ls hl => ?_)
  have loop1 : ∀ (f1 h : Nat) (H : Heap) (locs : List Loc) (ls : Array Slot), h ≤ n → n < h + f1 → zNA G ad n N g (zX r ad) (zIt (zDdS g) h τ) H → va_S A s.heap H locs → lv_has ls 3 [(1, .int (nI h)), (0, .ref r)] → W p l e ({ frames := 2, cells := 0, slots := 0, locals := 46 } : Room) s m ([.ref r] : List Value).toArray below meth c H locs 0 0 (MQ below (zQv G (zNA G ad n N g (zX r ad) (zIt (zDdS g) n τ)) A) ([.ref r] : List Value).toArray s 0 0 A) (F0 m 2 ls []) := by
    intro f1
    induction f1 with
    | zero => intro h H locs ls h1 h2; exact absurd h2 (by omega)
    | succ f1 ih1 =>
      intro h H locs ls hk1 hf1 hN hS hl
      generalize hF_τh : zIt (zDdS g) h τ = τh at hN hl 
      refine lv_iload_n hx hb dX2_deliverDirectly_2 rfl (lv_at hl 0 rfl) ?_
      refine lv_aload_n hx hb dX2_deliverDirectly_3 rfl (lv_at hl 1 rfl) ?_
      refine z_getR hx hb hts hown in_X2_deliverDirectly_X2 hK hN (hts _ (List.mem_of_getElem? (i := 1) (by decide +kernel))) dX2_deliverDirectly_4 ?_
      refine z_getO (v := .int (nI n)) hx hb hts hown in_X2_deliverDirectly_X1 hK hN 2 (by decide) rfl (hts _ (List.mem_of_getElem? (i := 2) (by decide +kernel))) rfl dX2_deliverDirectly_7 ?_
      refine lv_icmp_ge (tgt := 46) hx hb dX2_deliverDirectly_10 (by decide) (fun c_1 => ?_) (fun c_2 => ?_)
      · skip
        have c_1 := (z_leI (a := n) (b := h) (by omega) (by omega)).mp c_1
        have hkn1 : h = n := by omega
        rw [hkn1] at hF_τh
        subst hF_τh
        exact z_vret hx hb hr hlk hK hS (hN.cast (by first | with_reducible rfl | (simp only [c_1, eq_self, ne_eq, not_true_eq_false, not_false_eq_true, and_true, true_and, and_self, and_false, false_and, true_or, or_true, false_or, or_false, reduceIte]; done) | (simp [c_1]; done) | rfl | (simp_all []; done))) dX2_deliverDirectly_46
      · skip
        have c_2 := (not_congr (z_leI (a := n) (b := h) (by omega) (by omega))).mp c_2
        refine lv_aload_n hx hb dX2_deliverDirectly_13 rfl (lv_at hl 1 rfl) ?_
        refine z_getR hx hb hts hown in_X2_deliverDirectly_X2 hK hN (hts _ (List.mem_of_getElem? (i := 1) (by decide +kernel))) dX2_deliverDirectly_14 ?_
        refine z_getO (v := .ref (ad 1)) hx hb hts hown in_X2_deliverDirectly_X1 hK hN 0 (by decide) rfl (hts _ (List.mem_of_getElem? (i := 3) (by decide +kernel))) rfl dX2_deliverDirectly_17 ?_
        refine lv_iload_n hx hb dX2_deliverDirectly_20 rfl (lv_at hl 0 rfl) ?_
        refine z_aald (i := h) hx hb hK hN rfl (by omega) dX2_deliverDirectly_21 ?_
        refine lv_astore_n (lv' := [(2, .ref (ad (3 + h))), (1, .int (nI h)), (0, .ref r)]) hx hb dX2_deliverDirectly_22 rfl hl (by decide) rfl (fun ls hl => ?_)
        refine lv_aload_n hx hb dX2_deliverDirectly_23 rfl (lv_at hl 2 rfl) ?_
        refine lv_iload_n hx hb dX2_deliverDirectly_24 rfl (lv_at hl 1 rfl) ?_
        refine z_vi (As := [.int (nI h)]) (rest := []) (P2 := zNA G ad n N g (zX r ad) τh) (r := zBi (τh 3 h = 1 ∧ τh 7 h = nI h)) S (c_X2_isLivingHead l G A ad n N g r hA hnN hN12  τh h (by omega)) (cwV 1 hts gX2_deliverDirectly_X2_isLivingHead rfl rfl rfl (by decide +kernel) ⟨Nat.le_of_ble_eq_true rfl, Nat.le_of_ble_eq_true rfl⟩) (z_recR hK hN) hN hK hS (fun _ _ h => h) (fun _ h => h) hl.1 rfl rfl (Nat.le_of_ble_eq_true rfl) dX2_deliverDirectly_25 ⟨Nat.le_refl _, Nat.le_refl _⟩ (fun H locs hN hS _ => ?_)
        refine lv_if_eq (tgt := 40) hx hb dX2_deliverDirectly_28 (by decide) (fun c_3 => ?_) (fun c_4 => ?_)
        · skip
          have c_3 := zBi_0.mp c_3
          refine lv_iinc (v := nI (h + 1)) (lv' := [(1, .int (nI (h + 1))), (2, .ref (ad (3 + h))), (0, .ref r)]) hx hb dX2_deliverDirectly_40 hl (k := 1) rfl (nI_1 _) (by decide) rfl (fun ls hl => ?_)
          refine lv_goto (tgt := 2) hx hb dX2_deliverDirectly_43 (by decide) ?_
          have e_5 : zIt (zDdS g) (h + 1) τ = τh := by
            rw [zIt_s, hF_τh]
            first | with_reducible rfl | (simp only [zDdS, c_2, c_3, eq_self, ne_eq, not_true_eq_false, not_false_eq_true, and_true, true_and, and_self, and_false, false_and, true_or, or_true, false_or, or_false, reduceIte]; done) | (simp [zDdS, c_2, c_3]; done) | rfl | (simp_all [zDdS]; done)
          refine ih1 (h + 1) _ _ _ (by omega) (by omega) ?_ hS ?_
          · first | exact hN | (rw [e_5]; exact hN)
          · first | exact lv_sub hl [0, 2] rfl | (rw [e_5]; exact lv_sub hl [0, 2] rfl)
        · skip
          have c_4 := zBi_n0.mp c_4
          refine lv_aload_n hx hb dX2_deliverDirectly_31 rfl (lv_at hl 2 rfl) ?_
          refine lv_aload_n hx hb dX2_deliverDirectly_32 rfl (lv_at hl 0 rfl) ?_
          refine lv_aload_n hx hb dX2_deliverDirectly_33 rfl (lv_at hl 0 rfl) ?_
          refine z_getS (v := .int (τh 9 h)) hx hb hts hown in_X2_deliverDirectly_X3 hK hN12 hN (by omega) 10 (by decide) rfl (hts _ (List.mem_of_getElem? (i := 4) (by decide +kernel))) rfl dX2_deliverDirectly_34 ?_
          refine z_vv (As := [.ref (ad (3 + h)), .int (τh 9 h)]) (rest := []) (P2 := zNA G ad n N g (zX r ad) (zSb g τh h (τh 9 h))) S (c_X2_sendToBase l G A ad n N g r hA hnN hN12 hd5 τh h (by omega) (τh 9 h)) (cwV 2 hts gX2_deliverDirectly_X2_sendToBase rfl rfl rfl (by decide +kernel) ⟨Nat.le_of_ble_eq_true rfl, Nat.le_of_ble_eq_true rfl⟩) (z_recR hK hN) hN hK hS (fun _ _ h => h) (fun _ h => h) hl.1 rfl rfl (Nat.le_of_ble_eq_true rfl) dX2_deliverDirectly_37 ⟨Nat.le_refl _, Nat.le_refl _⟩ (fun H locs hN hS _ => ?_)
          refine lv_iinc (v := nI (h + 1)) (lv' := [(1, .int (nI (h + 1))), (2, .ref (ad (3 + h))), (0, .ref r)]) hx hb dX2_deliverDirectly_40 hl (k := 1) rfl (nI_1 _) (by decide) rfl (fun ls hl => ?_)
          refine lv_goto (tgt := 2) hx hb dX2_deliverDirectly_43 (by decide) ?_
          have e_6 : zIt (zDdS g) (h + 1) τ = zSb g τh h (τh 9 h) := by
            rw [zIt_s, hF_τh]
            first | with_reducible rfl | (simp only [zDdS, c_2, c_4, eq_self, ne_eq, not_true_eq_false, not_false_eq_true, and_true, true_and, and_self, and_false, false_and, true_or, or_true, false_or, or_false, reduceIte]; done) | (simp [zDdS, c_2, c_4]; done) | rfl | (simp_all [zDdS]; done)
          refine ih1 (h + 1) _ _ _ (by omega) (by omega) ?_ hS ?_
          · first | exact hN | (rw [e_6]; exact hN)
          · first | exact lv_sub hl [0, 2] rfl | (rw [e_6]; exact lv_sub hl [0, 2] rfl)
  exact loop1 (n + 1) 0 _ _ _ (by omega) (by omega) hN hS (lv_sub hl [0, 1] rfl)

theorem in_X2_deliverThroughRelay_X1 : ∀ w ∈ wsX10, w ∈ wsX2_deliverThroughRelay := by decide +kernel
theorem in_X2_deliverThroughRelay_X2 : ∀ w ∈ wsX20, w ∈ wsX2_deliverThroughRelay := by decide +kernel
theorem in_X2_deliverThroughRelay_X3 : ∀ w ∈ wsX30, w ∈ wsX2_deliverThroughRelay := by decide +kernel
set_option maxHeartbeats 4000000 in
set_option maxRecDepth 100000 in
theorem c_X2_deliverThroughRelay (l : Launch) (G : zG) (A : Nat → Prop) (ad : Nat → Nat) (n N : Nat) (g : Nat → Int32) (r : Nat) (hA : zAp G ad (zX r ad) A) (hnN : n ≤ N) (hN12 : N ≤ 12) (hd5 : 0 < g 5) (τ : zT) : zMv l G A yX2_deliverThroughRelay wsX2_deliverThroughRelay 2 50 [.ref r] (zNA G ad n N g (zX r ad) τ) (zNA G ad n N g (zX r ad) (zRl n g τ)) := by
  refine z_met (cc := cX2_deliverThroughRelay) (maxL := 5) (ret := none) (by decide) rfl (Nat.le_of_ble_eq_true rfl) ?_
  intro p e s m below meth c ls S hr hlk hnm hN hK hl
  have S : CallFix p m c cX2_deliverThroughRelay 5 s _ wsX2_deliverThroughRelay RX2 := S
  obtain ⟨hx, hb, hml, hown, hts⟩ := id S
  have hS : va_S A s.heap s.heap [] := va_S.rf
  have hl : lv_has ls 5 [(0, .ref r)] := hl
  refine lv_aload_n hx hb dX2_deliverThroughRelay_0 rfl (lv_at hl 0 rfl) ?_
  refine lv_aload_n hx hb dX2_deliverThroughRelay_1 rfl (lv_at hl 0 rfl) ?_
  refine z_getR hx hb hts hown in_X2_deliverThroughRelay_X2 hK hN (hts _ (List.mem_of_getElem? (i := 1) (by decide +kernel))) dX2_deliverThroughRelay_2 ?_
  refine z_getO (v := .int (g 1)) hx hb hts hown in_X2_deliverThroughRelay_X1 hK hN 3 (by decide) rfl (hts _ (List.mem_of_getElem? (i := 2) (by decide +kernel))) rfl dX2_deliverThroughRelay_5 ?_
  refine lv_aload_n hx hb dX2_deliverThroughRelay_8 rfl (lv_at hl 0 rfl) ?_
  refine z_getR hx hb hts hown in_X2_deliverThroughRelay_X2 hK hN (hts _ (List.mem_of_getElem? (i := 1) (by decide +kernel))) dX2_deliverThroughRelay_9 ?_
  refine z_getO (v := .int (g 2)) hx hb hts hown in_X2_deliverThroughRelay_X1 hK hN 4 (by decide) rfl (hts _ (List.mem_of_getElem? (i := 3) (by decide +kernel))) rfl dX2_deliverThroughRelay_12 ?_
  refine z_vi (As := [.int (g 1), .int (g 2)]) (rest := []) (P2 := zNA G ad n N g (zX r ad) τ) (r := zOi (zNe n τ (g 1) (g 2))) S (c_X2_nearestHead l G A ad n N g r hA hnN hN12  τ (g 1) (g 2)) (cwV 2 hts gX2_deliverThroughRelay_X2_nearestHead rfl rfl rfl (by decide +kernel) ⟨Nat.le_of_ble_eq_true rfl, Nat.le_of_ble_eq_true rfl⟩) (z_recR hK hN) hN hK hS (fun _ _ h => h) (fun _ h => h) hl.1 rfl rfl (Nat.le_of_ble_eq_true rfl) dX2_deliverThroughRelay_15 ⟨Nat.le_refl _, Nat.le_refl _⟩ (fun H locs hN hS _ => ?_)
  rcases hO : zNe n τ (g 1) (g 2) with _ | b
  · skip
    refine lv_istore_n (lv' := [(1, .int (-9)), (0, .ref r)]) hx hb dX2_deliverThroughRelay_18 rfl hl (by decide) rfl (fun ls hl => ?_)
    refine lv_aload_n hx hb dX2_deliverThroughRelay_19 rfl (lv_at hl 1 rfl) ?_
    refine z_getR hx hb hts hown in_X2_deliverThroughRelay_X2 hK hN (hts _ (List.mem_of_getElem? (i := 1) (by decide +kernel))) dX2_deliverThroughRelay_20 ?_
    refine lv_iload_n hx hb dX2_deliverThroughRelay_23 rfl (lv_at hl 0 rfl) ?_
    refine z_vi (As := [.int (-9)]) (rest := []) (P2 := zNA G ad n N g (zX r ad) τ) (r := 0) S (z_has_no l G A ad n N g (zX r ad) hA hnN hN12 τ) (cwV 1 hts gX2_deliverThroughRelay_X1_has rfl rfl rfl (by decide +kernel) ⟨Nat.le_of_ble_eq_true rfl, Nat.le_of_ble_eq_true rfl⟩) (z_recN hK hN) hN hK hS (fun _ _ h => h) (fun _ h => h) hl.1 rfl rfl (Nat.le_of_ble_eq_true rfl) dX2_deliverThroughRelay_24 ⟨Nat.le_refl _, Nat.le_refl _⟩ (fun H locs hN hS _ => ?_)
    refine lv_if_ne (tgt := 31) hx hb dX2_deliverThroughRelay_27 (by decide) (fun q => absurd (by decide) q) (fun _ => ?_)
    exact z_vret hx hb hr hlk hK hS (hN.cast (by first | with_reducible rfl | (simp only [zRl, zRlE, hO, eq_self, ne_eq, not_true_eq_false, not_false_eq_true, and_true, true_and, and_self, and_false, false_and, true_or, or_true, false_or, or_false, reduceIte]; done) | (simp [zRl, zRlE, hO]; done) | rfl | (simp_all [zRl, zRlE]; done))) dX2_deliverThroughRelay_30
  · skip
    have hb2 : b < n := zNe_lt n τ (g 1) (g 2) n b hO
    refine lv_istore_n (lv' := [(1, .int (nI b)), (0, .ref r)]) hx hb dX2_deliverThroughRelay_18 rfl hl (by decide) rfl (fun ls hl => ?_)
    refine lv_aload_n hx hb dX2_deliverThroughRelay_19 rfl (lv_at hl 1 rfl) ?_
    refine z_getR hx hb hts hown in_X2_deliverThroughRelay_X2 hK hN (hts _ (List.mem_of_getElem? (i := 1) (by decide +kernel))) dX2_deliverThroughRelay_20 ?_
    refine lv_iload_n hx hb dX2_deliverThroughRelay_23 rfl (lv_at hl 0 rfl) ?_
    refine z_vi (As := [.int (nI b)]) (rest := []) (P2 := zNA G ad n N g (zX r ad) τ) (r := 1) S (z_has_yes l G A ad n N g (zX r ad) hA hnN hN12 τ b (by omega)) (cwV 1 hts gX2_deliverThroughRelay_X1_has rfl rfl rfl (by decide +kernel) ⟨Nat.le_of_ble_eq_true rfl, Nat.le_of_ble_eq_true rfl⟩) (z_recN hK hN) hN hK hS (fun _ _ h => h) (fun _ h => h) hl.1 rfl rfl (Nat.le_of_ble_eq_true rfl) dX2_deliverThroughRelay_24 ⟨Nat.le_refl _, Nat.le_refl _⟩ (fun H locs hN hS _ => ?_)
    refine lv_if_ne (tgt := 31) hx hb dX2_deliverThroughRelay_27 (by decide) (fun _ => ?_) (fun q => absurd q (by decide))
    refine lv_aload_n hx hb dX2_deliverThroughRelay_31 rfl (lv_at hl 1 rfl) ?_
    refine z_getR hx hb hts hown in_X2_deliverThroughRelay_X2 hK hN (hts _ (List.mem_of_getElem? (i := 1) (by decide +kernel))) dX2_deliverThroughRelay_32 ?_
    refine z_getO (v := .ref (ad 1)) hx hb hts hown in_X2_deliverThroughRelay_X1 hK hN 0 (by decide) rfl (hts _ (List.mem_of_getElem? (i := 4) (by decide +kernel))) rfl dX2_deliverThroughRelay_35 ?_
    refine lv_iload_n hx hb dX2_deliverThroughRelay_38 rfl (lv_at hl 0 rfl) ?_
    refine z_aald (i := b) hx hb hK hN rfl (by omega) dX2_deliverThroughRelay_39 ?_
    refine lv_astore_n (lv' := [(2, .ref (ad (3 + b))), (1, .int (nI b)), (0, .ref r)]) hx hb dX2_deliverThroughRelay_40 rfl hl (by decide) rfl (fun ls hl => ?_)
    refine lv_iconst (v := 0) hx hb dX2_deliverThroughRelay_41 (by decide) ?_
    refine lv_istore_n (lv' := [(3, .int 0), (2, .ref (ad (3 + b))), (1, .int (nI b)), (0, .ref r)]) hx hb dX2_deliverThroughRelay_42 rfl hl (by decide) rfl (fun ls hl => ?_)
    have loop1 : ∀ (f1 h : Nat) (H : Heap) (locs : List Loc) (ls : Array Slot), h ≤ n → n < h + f1 → zNA G ad n N g (zX r ad) (zIt (zRlS g b) h τ) H → va_S A s.heap H locs → lv_has ls 5 [(3, .int (nI h)), (2, .ref (ad (3 + b))), (1, .int (nI b)), (0, .ref r)] → W p l e ({ frames := 2, cells := 0, slots := 0, locals := 50 } : Room) s m ([.ref r] : List Value).toArray below meth c H locs 0 0 (MQ below (zQv G (zNA G ad n N g (zX r ad) (zRl n g τ)) A) ([.ref r] : List Value).toArray s 0 0 A) (F0 m 43 ls []) := by
      intro f1
      induction f1 with
      | zero => intro h H locs ls h1 h2; exact absurd h2 (by omega)
      | succ f1 ih1 =>
        intro h H locs ls hk1 hf1 hN hS hl
        generalize hF_τh : zIt (zRlS g b) h τ = τh at hN hl 
        refine lv_iload_n hx hb dX2_deliverThroughRelay_43 rfl (lv_at hl 0 rfl) ?_
        refine lv_aload_n hx hb dX2_deliverThroughRelay_44 rfl (lv_at hl 3 rfl) ?_
        refine z_getR hx hb hts hown in_X2_deliverThroughRelay_X2 hK hN (hts _ (List.mem_of_getElem? (i := 1) (by decide +kernel))) dX2_deliverThroughRelay_45 ?_
        refine z_getO (v := .int (nI n)) hx hb hts hown in_X2_deliverThroughRelay_X1 hK hN 2 (by decide) rfl (hts _ (List.mem_of_getElem? (i := 5) (by decide +kernel))) rfl dX2_deliverThroughRelay_48 ?_
        refine lv_icmp_ge (tgt := 108) hx hb dX2_deliverThroughRelay_51 (by decide) (fun c_1 => ?_) (fun c_2 => ?_)
        · skip
          have c_1 := (z_leI (a := n) (b := h) (by omega) (by omega)).mp c_1
          have hkn1 : h = n := by omega
          rw [hkn1] at hF_τh
          subst hF_τh
          refine lv_aload_n hx hb dX2_deliverThroughRelay_108 rfl (lv_at hl 1 rfl) ?_
          refine z_getS (v := .int (zBi ((zIt (zRlS g b) n τ) 3 b = 1))) hx hb hts hown in_X2_deliverThroughRelay_X3 hK hN12 hN (by omega) 3 (by decide) rfl (hts _ (List.mem_of_getElem? (i := 7) (by decide +kernel))) rfl dX2_deliverThroughRelay_109 ?_
          refine lv_if_eq (tgt := 124) hx hb dX2_deliverThroughRelay_112 (by decide) (fun c_3 => ?_) (fun c_4 => ?_)
          · skip
            have c_3 := zBi_0.mp c_3
            exact z_vret hx hb hr hlk hK hS (hN.cast (by first | with_reducible rfl | (simp only [zRl, zRlE, hO, c_1, c_3, eq_self, ne_eq, not_true_eq_false, not_false_eq_true, and_true, true_and, and_self, and_false, false_and, true_or, or_true, false_or, or_false, reduceIte]; done) | (simp [zRl, zRlE, hO, c_1, c_3]; done) | rfl | (simp_all [zRl, zRlE]; done))) dX2_deliverThroughRelay_124
          · skip
            have c_4 := zBi_n0.mp c_4
            refine lv_aload_n hx hb dX2_deliverThroughRelay_115 rfl (lv_at hl 3 rfl) ?_
            refine lv_aload_n hx hb dX2_deliverThroughRelay_116 rfl (lv_at hl 1 rfl) ?_
            refine lv_aload_n hx hb dX2_deliverThroughRelay_117 rfl (lv_at hl 1 rfl) ?_
            refine z_getS (v := .int ((zIt (zRlS g b) n τ) 9 b)) hx hb hts hown in_X2_deliverThroughRelay_X3 hK hN12 hN (by omega) 10 (by decide) rfl (hts _ (List.mem_of_getElem? (i := 6) (by decide +kernel))) rfl dX2_deliverThroughRelay_118 ?_
            refine z_vv (As := [.ref (ad (3 + b)), .int ((zIt (zRlS g b) n τ) 9 b)]) (rest := []) (P2 := zNA G ad n N g (zX r ad) (zSb g (zIt (zRlS g b) n τ) b ((zIt (zRlS g b) n τ) 9 b))) S (c_X2_sendToBase l G A ad n N g r hA hnN hN12 hd5 (zIt (zRlS g b) n τ) b (by omega) ((zIt (zRlS g b) n τ) 9 b)) (cwV 2 hts gX2_deliverThroughRelay_X2_sendToBase rfl rfl rfl (by decide +kernel) ⟨Nat.le_of_ble_eq_true rfl, Nat.le_of_ble_eq_true rfl⟩) (z_recR hK hN) hN hK hS (fun _ _ h => h) (fun _ h => h) hl.1 rfl rfl (Nat.le_of_ble_eq_true rfl) dX2_deliverThroughRelay_121 ⟨Nat.le_refl _, Nat.le_refl _⟩ (fun H locs hN hS _ => ?_)
            exact z_vret hx hb hr hlk hK hS (hN.cast (by first | with_reducible rfl | (simp only [zRl, zRlE, hO, c_1, c_4, eq_self, ne_eq, not_true_eq_false, not_false_eq_true, and_true, true_and, and_self, and_false, false_and, true_or, or_true, false_or, or_false, reduceIte]; done) | (simp [zRl, zRlE, hO, c_1, c_4]; done) | rfl | (simp_all [zRl, zRlE]; done))) dX2_deliverThroughRelay_124
        · skip
          have c_2 := (not_congr (z_leI (a := n) (b := h) (by omega) (by omega))).mp c_2
          refine lv_aload_n hx hb dX2_deliverThroughRelay_54 rfl (lv_at hl 3 rfl) ?_
          refine z_getR hx hb hts hown in_X2_deliverThroughRelay_X2 hK hN (hts _ (List.mem_of_getElem? (i := 1) (by decide +kernel))) dX2_deliverThroughRelay_55 ?_
          refine z_getO (v := .ref (ad 1)) hx hb hts hown in_X2_deliverThroughRelay_X1 hK hN 0 (by decide) rfl (hts _ (List.mem_of_getElem? (i := 4) (by decide +kernel))) rfl dX2_deliverThroughRelay_58 ?_
          refine lv_iload_n hx hb dX2_deliverThroughRelay_61 rfl (lv_at hl 0 rfl) ?_
          refine z_aald (i := h) hx hb hK hN rfl (by omega) dX2_deliverThroughRelay_62 ?_
          refine lv_astore (lv' := [(4, .ref (ad (3 + h))), (3, .int (nI h)), (2, .ref (ad (3 + b))), (1, .int (nI b)), (0, .ref r)]) hx hb dX2_deliverThroughRelay_63 hl (by decide) rfl (fun ls hl => ?_)
          refine lv_iload_n hx hb dX2_deliverThroughRelay_65 rfl (lv_at hl 1 rfl) ?_
          refine lv_iload_n hx hb dX2_deliverThroughRelay_66 rfl (lv_at hl 3 rfl) ?_
          refine lv_icmp_eq (tgt := 102) hx hb dX2_deliverThroughRelay_67 (by decide) (fun c_5 => ?_) (fun c_6 => ?_)
          · skip
            have c_5 := (z_eqI (a := h) (b := b) (by omega) (by omega)).mp c_5
            refine lv_iinc (v := nI (h + 1)) (lv' := [(3, .int (nI (h + 1))), (4, .ref (ad (3 + h))), (2, .ref (ad (3 + b))), (1, .int (nI b)), (0, .ref r)]) hx hb dX2_deliverThroughRelay_102 hl (k := 1) rfl (nI_1 _) (by decide) rfl (fun ls hl => ?_)
            refine lv_goto (tgt := 43) hx hb dX2_deliverThroughRelay_105 (by decide) ?_
            have e_7 : zIt (zRlS g b) (h + 1) τ = τh := by
              rw [zIt_s, hF_τh]
              first | with_reducible rfl | (simp only [zRlS, hO, c_2, c_5, eq_self, ne_eq, not_true_eq_false, not_false_eq_true, and_true, true_and, and_self, and_false, false_and, true_or, or_true, false_or, or_false, reduceIte]; done) | (simp [zRlS, hO, c_2, c_5]; done) | rfl | (simp_all [zRlS]; done)
            refine ih1 (h + 1) _ _ _ (by omega) (by omega) ?_ hS ?_
            · first | exact hN | (rw [e_7]; exact hN)
            · first | exact lv_sub hl [0, 2, 3, 4] rfl | (rw [e_7]; exact lv_sub hl [0, 2, 3, 4] rfl)
          · skip
            have c_6 := (not_congr (z_eqI (a := h) (b := b) (by omega) (by omega))).mp c_6
            refine lv_aload_n hx hb dX2_deliverThroughRelay_70 rfl (lv_at hl 4 rfl) ?_
            refine lv_iload_n hx hb dX2_deliverThroughRelay_71 rfl (lv_at hl 1 rfl) ?_
            refine z_vi (As := [.int (nI h)]) (rest := []) (P2 := zNA G ad n N g (zX r ad) τh) (r := zBi (τh 3 h = 1 ∧ τh 7 h = nI h)) S (c_X2_isLivingHead l G A ad n N g r hA hnN hN12  τh h (by omega)) (cwV 1 hts gX2_deliverThroughRelay_X2_isLivingHead rfl rfl rfl (by decide +kernel) ⟨Nat.le_of_ble_eq_true rfl, Nat.le_of_ble_eq_true rfl⟩) (z_recR hK hN) hN hK hS (fun _ _ h => h) (fun _ h => h) hl.1 rfl rfl (Nat.le_of_ble_eq_true rfl) dX2_deliverThroughRelay_72 ⟨Nat.le_refl _, Nat.le_refl _⟩ (fun H locs hN hS _ => ?_)
            refine lv_if_eq (tgt := 102) hx hb dX2_deliverThroughRelay_75 (by decide) (fun c_8 => ?_) (fun c_9 => ?_)
            · skip
              have c_8 := zBi_0.mp c_8
              refine lv_iinc (v := nI (h + 1)) (lv' := [(3, .int (nI (h + 1))), (4, .ref (ad (3 + h))), (2, .ref (ad (3 + b))), (1, .int (nI b)), (0, .ref r)]) hx hb dX2_deliverThroughRelay_102 hl (k := 1) rfl (nI_1 _) (by decide) rfl (fun ls hl => ?_)
              refine lv_goto (tgt := 43) hx hb dX2_deliverThroughRelay_105 (by decide) ?_
              have e_10 : zIt (zRlS g b) (h + 1) τ = τh := by
                rw [zIt_s, hF_τh]
                first | with_reducible rfl | (simp only [zRlS, hO, c_2, c_6, c_8, eq_self, ne_eq, not_true_eq_false, not_false_eq_true, and_true, true_and, and_self, and_false, false_and, true_or, or_true, false_or, or_false, reduceIte]; done) | (simp [zRlS, hO, c_2, c_6, c_8]; done) | rfl | (simp_all [zRlS]; done)
              refine ih1 (h + 1) _ _ _ (by omega) (by omega) ?_ hS ?_
              · first | exact hN | (rw [e_10]; exact hN)
              · first | exact lv_sub hl [0, 2, 3, 4] rfl | (rw [e_10]; exact lv_sub hl [0, 2, 3, 4] rfl)
            · skip
              have c_9 := zBi_n0.mp c_9
              refine lv_aload_n hx hb dX2_deliverThroughRelay_78 rfl (lv_at hl 4 rfl) ?_
              refine lv_aload hx hb dX2_deliverThroughRelay_79 (lv_at hl 0 rfl) ?_
              refine lv_aload_n hx hb dX2_deliverThroughRelay_81 rfl (lv_at hl 2 rfl) ?_
              refine z_vi (As := [.ref (ad (3 + h)), .ref (ad (3 + b))]) (rest := []) (P2 := zNA G ad n N g (zX r ad) ((zSd g τh h b).1)) (r := (zSd g τh h b).2) S (c_X2_sends l G A ad n N g r hA hnN hN12 hd5 τh h b (by omega) (by omega)) (cwV 2 hts gX2_deliverThroughRelay_X2_sends rfl rfl rfl (by decide +kernel) ⟨Nat.le_of_ble_eq_true rfl, Nat.le_of_ble_eq_true rfl⟩) (z_recR hK hN) hN hK hS (fun _ _ h => h) (fun _ h => h) hl.1 rfl rfl (Nat.le_of_ble_eq_true rfl) dX2_deliverThroughRelay_82 ⟨Nat.le_refl _, Nat.le_refl _⟩ (fun H locs hN hS _ => ?_)
              refine lv_if_eq (tgt := 102) hx hb dX2_deliverThroughRelay_85 (by decide) (fun c_11 => ?_) (fun c_12 => ?_)
              · skip
                refine lv_iinc (v := nI (h + 1)) (lv' := [(3, .int (nI (h + 1))), (4, .ref (ad (3 + h))), (2, .ref (ad (3 + b))), (1, .int (nI b)), (0, .ref r)]) hx hb dX2_deliverThroughRelay_102 hl (k := 1) rfl (nI_1 _) (by decide) rfl (fun ls hl => ?_)
                refine lv_goto (tgt := 43) hx hb dX2_deliverThroughRelay_105 (by decide) ?_
                have e_13 : zIt (zRlS g b) (h + 1) τ = (zSd g τh h b).1 := by
                  rw [zIt_s, hF_τh]
                  first | with_reducible rfl | (simp only [zRlS, hO, c_2, c_6, c_9, c_11, eq_self, ne_eq, not_true_eq_false, not_false_eq_true, and_true, true_and, and_self, and_false, false_and, true_or, or_true, false_or, or_false, reduceIte]; done) | (simp [zRlS, hO, c_2, c_6, c_9, c_11]; done) | rfl | (simp_all [zRlS]; done)
                refine ih1 (h + 1) _ _ _ (by omega) (by omega) ?_ hS ?_
                · first | exact hN | (rw [e_13]; exact hN)
                · first | exact lv_sub hl [0, 2, 3, 4] rfl | (rw [e_13]; exact lv_sub hl [0, 2, 3, 4] rfl)
              · skip
                refine lv_aload_n hx hb dX2_deliverThroughRelay_88 rfl (lv_at hl 2 rfl) ?_
                refine lv_dup hx hb dX2_deliverThroughRelay_89 rfl ?_
                refine z_getS (v := .int (((zSd g τh h b).1) 9 b)) hx hb hts hown in_X2_deliverThroughRelay_X3 hK hN12 hN (by omega) 10 (by decide) rfl (hts _ (List.mem_of_getElem? (i := 6) (by decide +kernel))) rfl dX2_deliverThroughRelay_90 ?_
                refine lv_aload hx hb dX2_deliverThroughRelay_93 (lv_at hl 0 rfl) ?_
                refine z_getS (v := .int (((zSd g τh h b).1) 9 h)) hx hb hts hown in_X2_deliverThroughRelay_X3 hK hN12 hN (by omega) 10 (by decide) rfl (hts _ (List.mem_of_getElem? (i := 6) (by decide +kernel))) rfl dX2_deliverThroughRelay_95 ?_
                refine lv_iadd hx hb dX2_deliverThroughRelay_98 ?_
                refine z_putS (v := .int ((((zSd g τh h b).1) 9 b) + (((zSd g τh h b).1) 9 h))) (w := (((zSd g τh h b).1) 9 b) + (((zSd g τh h b).1) 9 h)) (ty := .int) hx hb hts hown in_X2_deliverThroughRelay_X3 hK hA hS hN (by omega) 10 9 (by decide) rfl (by decide) (hts _ (List.mem_of_getElem? (i := 6) (by decide +kernel))) (by decide +kernel) rfl rfl rfl (fun τ => zSet10 τ _ _) dX2_deliverThroughRelay_99 (fun H locs hN hS => ?_)
                refine lv_iinc (v := nI (h + 1)) (lv' := [(3, .int (nI (h + 1))), (4, .ref (ad (3 + h))), (2, .ref (ad (3 + b))), (1, .int (nI b)), (0, .ref r)]) hx hb dX2_deliverThroughRelay_102 hl (k := 1) rfl (nI_1 _) (by decide) rfl (fun ls hl => ?_)
                refine lv_goto (tgt := 43) hx hb dX2_deliverThroughRelay_105 (by decide) ?_
                have e_14 : zIt (zRlS g b) (h + 1) τ = zSt ((zSd g τh h b).1) 9 b ((((zSd g τh h b).1) 9 b) + (((zSd g τh h b).1) 9 h)) := by
                  rw [zIt_s, hF_τh]
                  first | with_reducible rfl | (simp only [zRlS, hO, c_2, c_6, c_9, c_12, eq_self, ne_eq, not_true_eq_false, not_false_eq_true, and_true, true_and, and_self, and_false, false_and, true_or, or_true, false_or, or_false, reduceIte]; done) | (simp [zRlS, hO, c_2, c_6, c_9, c_12]; done) | rfl | (simp_all [zRlS]; done)
                refine ih1 (h + 1) _ _ _ (by omega) (by omega) ?_ hS ?_
                · first | exact hN | (rw [e_14]; exact hN)
                · first | exact lv_sub hl [0, 2, 3, 4] rfl | (rw [e_14]; exact lv_sub hl [0, 2, 3, 4] rfl)
    exact loop1 (n + 1) 0 _ _ _ (by omega) (by omega) hN hS (lv_sub hl [0, 1, 2, 3] rfl)

theorem in_X2_deliver_X1 : ∀ w ∈ wsX10, w ∈ wsX2_deliver := by decide +kernel
theorem in_X2_deliver_X2 : ∀ w ∈ wsX20, w ∈ wsX2_deliver := by decide +kernel
set_option maxHeartbeats 4000000 in
set_option maxRecDepth 100000 in
theorem c_X2_deliver (l : Launch) (G : zG) (A : Nat → Prop) (ad : Nat → Nat) (n N : Nat) (g : Nat → Int32) (r : Nat) (hA : zAp G ad (zX r ad) A) (hnN : n ≤ N) (hN12 : N ≤ 12) (hd5 : 0 < g 5) (τ : zT) : zMv l G A yX2_deliver wsX2_deliver 3 74 [.ref r] (zNA G ad n N g (zX r ad) τ) (zNA G ad n N g (zX r ad) (zDv n g τ)) := by
  refine z_met (cc := cX2_deliver) (maxL := 1) (ret := none) (by decide) rfl (Nat.le_of_ble_eq_true rfl) ?_
  intro p e s m below meth c ls S hr hlk hnm hN hK hl
  have S : CallFix p m c cX2_deliver 1 s _ wsX2_deliver RX2 := S
  obtain ⟨hx, hb, hml, hown, hts⟩ := id S
  have hS : va_S A s.heap s.heap [] := va_S.rf
  have hl : lv_has ls 1 [(0, .ref r)] := hl
  refine lv_aload_n hx hb dX2_deliver_0 rfl (lv_at hl 0 rfl) ?_
  refine z_getR hx hb hts hown in_X2_deliver_X2 hK hN (hts _ (List.mem_of_getElem? (i := 1) (by decide +kernel))) dX2_deliver_1 ?_
  refine z_getO (v := .ref (ad 2)) hx hb hts hown in_X2_deliver_X1 hK hN 1 (by decide) rfl (hts _ (List.mem_of_getElem? (i := 2) (by decide +kernel))) rfl dX2_deliver_4 ?_
  refine lv_iconst (v := 5) hx hb dX2_deliver_7 (by decide) ?_
  refine z_iald (w := g 8) hx hb hK hN 5 (by decide) (by decide) rfl dX2_deliver_8 ?_
  refine lv_iconst (v := 1) hx hb dX2_deliver_9 (by decide) ?_
  refine lv_icmp_ne (tgt := 20) hx hb dX2_deliver_10 (by decide) (fun c_1 => ?_) (fun c_2 => ?_)
  · skip
    refine lv_aload_n hx hb dX2_deliver_20 rfl (lv_at hl 0 rfl) ?_
    refine z_vv (As := []) (rest := []) (P2 := zNA G ad n N g (zX r ad) (zIt (zDdS g) n τ)) S (c_X2_deliverDirectly l G A ad n N g r hA hnN hN12 hd5 τ ) (cwV 0 hts gX2_deliver_X2_deliverDirectly rfl rfl rfl (by decide +kernel) ⟨Nat.le_of_ble_eq_true rfl, Nat.le_of_ble_eq_true rfl⟩) (z_recR hK hN) hN hK hS (fun _ _ h => h) (fun _ h => h) hl.1 rfl rfl (Nat.le_of_ble_eq_true rfl) dX2_deliver_21 ⟨Nat.le_refl _, Nat.le_refl _⟩ (fun H locs hN hS _ => ?_)
    exact z_vret hx hb hr hlk hK hS (hN.cast (by first | with_reducible rfl | (simp only [zDv, c_1, eq_self, ne_eq, not_true_eq_false, not_false_eq_true, and_true, true_and, and_self, and_false, false_and, true_or, or_true, false_or, or_false, reduceIte]; done) | (simp [zDv, c_1]; done) | rfl | (simp_all [zDv]; done))) dX2_deliver_24
  · skip
    refine lv_aload_n hx hb dX2_deliver_13 rfl (lv_at hl 0 rfl) ?_
    refine z_vv (As := []) (rest := []) (P2 := zNA G ad n N g (zX r ad) (zRl n g τ)) S (c_X2_deliverThroughRelay l G A ad n N g r hA hnN hN12 hd5 τ ) (cwV 0 hts gX2_deliver_X2_deliverThroughRelay rfl rfl rfl (by decide +kernel) ⟨Nat.le_of_ble_eq_true rfl, Nat.le_of_ble_eq_true rfl⟩) (z_recR hK hN) hN hK hS (fun _ _ h => h) (fun _ h => h) hl.1 rfl rfl (Nat.le_of_ble_eq_true rfl) dX2_deliver_14 ⟨Nat.le_refl _, Nat.le_refl _⟩ (fun H locs hN hS _ => ?_)
    refine lv_goto (tgt := 24) hx hb dX2_deliver_17 (by decide) ?_
    exact z_vret hx hb hr hlk hK hS (hN.cast (by first | with_reducible rfl | (simp only [zDv, c_2, eq_self, ne_eq, not_true_eq_false, not_false_eq_true, and_true, true_and, and_self, and_false, false_and, true_or, or_true, false_or, or_false, reduceIte]; done) | (simp [zDv, c_2]; done) | rfl | (simp_all [zDv]; done))) dX2_deliver_24
end
section
/-! ===== a round's beginning, place by place; what no step of a round changes ===== -/
def zBgP (ph : Int32) (τ : zT) (f i : Nat) : Int32 := if f = 7 ∨ f = 8 then -9 else if f = 9 ∨ f = 10 then 0 else if f = 4 ∧ ph = 0 then 1 else τ f i
theorem zBgC_at (ph : Int32) (τ : zT) (f i : Nat) : ∀ k, (zIt (zBgC ph) k τ) f i = if i < k then zBgP ph τ f i else τ f i := by
  intro k
  induction k with
  | zero => simp [zIt]
  | succ k ih =>
    rw [zIt_s]
    generalize zIt (zBgC ph) k τ = t at ih ⊢
    by_cases hik : i = k
    · subst hik
      rw [if_pos (Nat.lt_succ_self i)]
      unfold zBgC zBr zBgP
      by_cases hp : ph = 0
      · rw [if_pos hp]
        by_cases h4 : f = 4
        · subst h4; simp [zSt_ap, hp]
        by_cases h7 : f = 7
        · subst h7; simp [zSt_ap]
        by_cases h8 : f = 8
        · subst h8; simp [zSt_ap]
        by_cases h9 : f = 9
        · subst h9; simp [zSt_ap]
        by_cases h10 : f = 10
        · subst h10; simp [zSt_ap]
        simp [zSt_ap, h4, h7, h8, h9, h10, ih]
      · rw [if_neg hp]
        by_cases h7 : f = 7
        · subst h7; simp [zSt_ap]
        by_cases h8 : f = 8
        · subst h8; simp [zSt_ap]
        by_cases h9 : f = 9
        · subst h9; simp [zSt_ap]
        by_cases h10 : f = 10
        · subst h10; simp [zSt_ap]
        simp [zSt_ap, h7, h8, h9, h10, hp, ih]
    · have hne : zBgC ph k t f i = t f i := by
        unfold zBgC zBr
        split <;> simp [zSt_ap, hik]
      rw [hne, ih]
      by_cases hlt : i < k
      · rw [if_pos hlt, if_pos (by omega)]
      · rw [if_neg hlt, if_neg (by omega)]
theorem zBg_11 (n : Nat) (g : Nat → Int32) (τ : zT) (j : Nat) : (zBg n g τ) 11 j = if j = 12 then 0 else if j = 11 then 0 else τ 11 j := by
  unfold zBg
  rw [zSt_ap, zSt_ap, zBgC_at]
  simp only [true_and, zBgP]
  simp
theorem zBg_f (n : Nat) (g : Nat → Int32) (τ : zT) {f : Nat} (hf : f ≠ 11) (i : Nat) : (zBg n g τ) f i = if i < n then zBgP (zPh g τ) τ f i else τ f i := by
  unfold zBg
  rw [zSt_ap, if_neg (fun q => hf q.1), zSt_ap, if_neg (fun q => hf q.1), zBgC_at]
/-- but for readings and elected, which mean nothing between rounds -/
def zE9 (τ τ2 : zT) : Prop := ∀ f i, f ≠ 9 → f ≠ 10 → τ f i = τ2 f i
theorem zE9.rf {τ : zT} : zE9 τ τ := fun _ _ _ _ => rfl
theorem zE9.symm {τ τ2 : zT} (h : zE9 τ τ2) : zE9 τ2 τ := fun f i a b => (h f i a b).symm
theorem zE9.trans {τ τ2 τ3 : zT} (h : zE9 τ τ2) (h2 : zE9 τ2 τ3) : zE9 τ τ3 := fun f i a b => (h f i a b).trans (h2 f i a b)
theorem zE9.ph {τ τ2 : zT} (g : Nat → Int32) (h : zE9 τ τ2) : zPh g τ = zPh g τ2 := by
  unfold zPh
  rw [h 11 10 (by decide) (by decide)]
theorem zBg_ag {n : Nat} {g : Nat → Int32} {τ τ9 : zT} (h : zE9 τ9 τ) : zAg n (zBg n g τ) (zBg n g τ9) := by
  refine ⟨fun k _ _ => ?_, fun f i hf hi => ?_⟩
  · rw [zBg_11, zBg_11, h 11 k (by decide) (by decide)]
  · rw [zBg_f n g τ (by omega), zBg_f n g τ9 (by omega), if_pos hi, if_pos hi, h.ph]
    unfold zBgP
    by_cases h9 : f = 9 ∨ f = 10
    · simp only [h9, if_true]
    · rw [h f i (fun q => h9 (Or.inl q)) (fun q => h9 (Or.inr q))]
theorem zBg_gen {n : Nat} {g : Nat → Int32} {τ : zT} (h : 0 ≤ τ 11 9) : 0 ≤ (zBg n g τ) 11 9 := by
  rw [zBg_11]
  exact h
/-- the generator stays; a sensor's life stays or ends -/
def zDn (τ τ2 : zT) : Prop := τ2 11 9 = τ 11 9 ∧ ∀ i, τ2 3 i = τ 3 i ∨ τ2 3 i = 0
theorem zDn.rf {τ : zT} : zDn τ τ := ⟨rfl, fun _ => Or.inl rfl⟩
theorem zDn.trans {τ τ2 τ3 : zT} (h : zDn τ τ2) (h2 : zDn τ2 τ3) : zDn τ τ3 := by
  refine ⟨h2.1.trans h.1, fun i => ?_⟩
  rcases h2.2 i with q | q
  · rw [q]
    exact h.2 i
  · exact Or.inr q
theorem zDn.st {τ τ2 : zT} (h : zDn τ τ2) {f i : Nat} {v : Int32} (h3 : f = 3 → v = 0) (h9 : ¬ (f = 11 ∧ i = 9)) : zDn τ (zSt τ2 f i v) := by
  refine ⟨?_, fun j => ?_⟩
  · rw [zSt_ap, if_neg (fun q => h9 ⟨q.1.symm, q.2.symm⟩)]
    exact h.1
  · rw [zSt_ap]
    by_cases q : 3 = f ∧ j = i
    · rw [if_pos q]
      exact Or.inr (h3 q.1.symm)
    · rw [if_neg q]
      exact h.2 j
theorem zDn.it {f : Nat → zT → zT} (hf : ∀ k τ, zDn τ (f k τ)) (τ : zT) : ∀ k, zDn τ (zIt f k τ) := by
  intro k
  induction k with
  | zero => exact zDn.rf
  | succ k ih => exact ih.trans (hf k _)
theorem zDie_dn {τ τ2 : zT} (h : zDn τ τ2) (i : Nat) : zDn τ (zDie τ2 i) := (h.st (fun _ => rfl) (by omega)).st (by omega) (by omega)
theorem zPd_dn {τ τ2 : zT} (h : zDn τ τ2) (i : Nat) (c : Int32) : zDn τ (zPd τ2 i c) := (h.st (by omega) (by omega)).st (by omega) (by omega)
theorem zAnS_dn (g : Nat → Int32) (k : Nat) (τ : zT) : zDn τ (zAnS g k τ) := by
  unfold zAnS
  split
  · split
    · exact zDie_dn zDn.rf k
    · exact ((((zPd_dn zDn.rf k _).st (by omega) (by omega)).st (by omega) (by omega)).st (by omega) (by omega)).st (by omega) (by omega)
  · exact zDn.rf
theorem zJ1S_dn (n k : Nat) (τ : zT) : zDn τ (zJ1S n k τ) := by
  unfold zJ1S
  split
  · exact zDn.rf.st (by omega) (by omega)
  · exact zDn.rf
theorem zGs_dn (n h : Nat) (τ : zT) : zDn τ (zGs n h τ) := by
  unfold zGs
  refine zIt_inv (zGsS h) (fun u => zDn τ u.2) (0, τ) zDn.rf (fun k u hu => ?_) n
  show zDn τ (zGsS h k u).2
  unfold zGsS
  split
  · exact hu.st (by omega) (by omega)
  · exact hu
theorem zJo_dn (n : Nat) (τ : zT) : zDn τ (zJo n τ) := by
  refine (zDn.it (zJ1S_dn n) τ n).trans (zDn.it (fun k t => ?_) _ n)
  unfold zJ2S
  split
  · exact zGs_dn n k t
  · exact zDn.rf
theorem zTk_dn (g : Nat → Int32) {τ τ2 : zT} (hd : zDn τ τ2) (h : Nat) : zDn τ (zTk g τ2 h).1 := by
  unfold zTk
  split
  · split
    · exact zDie_dn hd h
    · split
      · exact zDie_dn (zPd_dn hd h _) h
      · exact zPd_dn (zPd_dn hd h _) h _
  · exact hd
theorem zSd_dn (g : Nat → Int32) (τ : zT) (i h : Nat) : zDn τ (zSd g τ i h).1 := by
  unfold zSd
  split
  · exact zDie_dn zDn.rf i
  · exact zTk_dn g (zPd_dn zDn.rf i _) h
theorem zRhS_dn (n : Nat) (g : Nat → Int32) (h : Nat) (τ : zT) : zDn τ (zRhS n g h τ) := by
  unfold zRhS
  split
  · refine zDn.it (fun k t => ?_) τ n
    unfold zRpS
    split
    · split
      · exact zSd_dn g t k h
      · exact (zSd_dn g t k h).st (by omega) (by omega)
    · exact zDn.rf
  · exact zDn.rf
theorem zOwS_dn (g : Nat → Int32) (h : Nat) (τ : zT) : zDn τ (zOwS g h τ) := by
  unfold zOwS
  split
  · split
    · exact zDie_dn zDn.rf h
    · exact (zPd_dn zDn.rf h _).st (by omega) (by omega)
  · exact zDn.rf
theorem zSb_dn (g : Nat → Int32) (τ : zT) (i : Nat) (w : Int32) : zDn τ (zSb g τ i w) := by
  unfold zSb
  split
  · exact zDie_dn zDn.rf i
  · exact (zPd_dn zDn.rf i _).st (by omega) (by omega)
theorem zRl_dn (n : Nat) (g : Nat → Int32) (τ : zT) : zDn τ (zRl n g τ) := by
  unfold zRl
  split
  · exact zDn.rf
  · rename_i r _
    refine zDn.trans (zDn.it (f := zRlS g r) (fun k t => ?_) τ n) ?_
    · unfold zRlS
      split
      · split
        · exact zSd_dn g t k r
        · exact (zSd_dn g t k r).st (by omega) (by omega)
      · exact zDn.rf
    · unfold zRlE
      split
      · exact zSb_dn g _ r _
      · exact zDn.rf
theorem zR2_dn (n : Nat) (g : Nat → Int32) (τ : zT) : zDn τ (zR2 n g τ) := by
  unfold zR2
  split
  · refine zDn.it (fun k t => ?_) τ n
    unfold zRbS
    split
    · exact zSb_dn g t k 1
    · exact zDn.rf
  · refine (((zJo_dn n τ).trans (zDn.it (zRhS_dn n g) _ n)).trans (zDn.it (zOwS_dn g) _ n)).trans ?_
    unfold zDv
    split
    · exact zRl_dn n g _
    · refine zDn.it (fun k t => ?_) _ n
      unfold zDdS
      split
      · exact zSb_dn g t k _
      · exact zDn.rf
theorem zEl_3 (n : Nat) (g : Nat → Int32) (τ : zT) (i : Nat) : (zEl n g τ) 3 i = τ 3 i := by
  unfold zEl
  refine zIt_inv (zElS _) (fun t => t 3 i = τ 3 i) τ rfl (fun k t ht => ?_) n
  show zElS _ k t 3 i = τ 3 i
  unfold zElS zDw
  split
  · rw [zSt_nf _ _ _ _ (by decide), zSt_nf _ _ _ _ (by decide)]
    exact ht
  · exact ht
theorem zR1_gen {n : Nat} {g : Nat → Int32} {τ : zT} (h : 0 ≤ τ 11 9) : 0 ≤ (zR1 n g τ) 11 9 := by
  unfold zR1 zR3
  rw [zSt_ap, if_neg (by decide), zSt_ap, if_neg (by decide), (zR2_dn n g _).1, (zDn.it (zAnS_dn g) _ n).1]
  exact zEl_gen _ τ h n
theorem zR1_3 (n : Nat) (g : Nat → Int32) (τ : zT) (i : Nat) : (zR1 n g τ) 3 i = τ 3 i ∨ (zR1 n g τ) 3 i = 0 := by
  unfold zR1 zR3
  rw [zSt_nf _ _ _ _ (by decide), zSt_nf _ _ _ _ (by decide)]
  rcases (zR2_dn n g (zIt (zAnS g) n (zEl n g τ))).2 i with q | q
  · rw [q]
    rcases (zDn.it (zAnS_dn g) (zEl n g τ) n).2 i with q2 | q2
    · rw [q2, zEl_3]
      exact Or.inl rfl
    · exact Or.inr q2
  · exact Or.inr q
/-- a whole round -/
def zRd (n : Nat) (g : Nat → Int32) (τ : zT) : zT := zR1 n g (zBg n g τ)
theorem zRd_gen {n : Nat} {g : Nat → Int32} {τ : zT} (h : 0 ≤ τ 11 9) : 0 ≤ (zRd n g τ) 11 9 := zR1_gen (zBg_gen h)
theorem zRd_3 (n : Nat) (g : Nat → Int32) (τ : zT) (i : Nat) : (zRd n g τ) 3 i = τ 3 i ∨ (zRd n g τ) 3 i = 0 := by
  have h := zR1_3 n g (zBg n g τ) i
  have e : (zBg n g τ) 3 i = τ 3 i := by
    rw [zBg_f n g τ (by decide)]
    unfold zBgP
    simp
  rw [e] at h
  exact h
/-- the heap holds a network in the state τ, readings and elected apart -/
def zN9 (G : zG) (ad : Nat → Nat) (n : Nat) (g : Nat → Int32) (X : va_W) (τ : zT) (H : Heap) : Prop := ∃ τ9, zE9 τ9 τ ∧ zNA G ad n n g X τ9 H
theorem zN9.to {G : zG} {ad : Nat → Nat} {n : Nat} {g : Nat → Int32} {X : va_W} {τ τ2 : zT} {H : Heap} (h : zN9 G ad n g X τ H) (h2 : zE9 τ τ2) : zN9 G ad n g X τ2 H := by
  obtain ⟨τ9, h1, hN⟩ := h
  exact ⟨τ9, h1.trans h2, hN⟩
theorem zCaS_9 {τ τ2 : zT} (h : zE9 τ τ2) (n : Nat) : zCa n τ = zCa n τ2 := by
  unfold zCa
  have e : zCaS τ = zCaS τ2 := by
    funext k v
    unfold zCaS
    rw [h 3 k (by decide) (by decide)]
  rw [e]
/-- rounds until none is alive or the limit is reached: how many, and the state -/
def zPfS (n : Nat) (g : Nat → Int32) (_ : Nat) (u : Nat × zT) : Nat × zT := if 0 < zCa n u.2 then (u.1 + 1, zRd n g u.2) else u
def zPf (n : Nat) (g : Nat → Int32) (lim : Nat) (τ : zT) : Nat × zT := zIt (zPfS n g) lim (0, τ)
theorem zPf_gen {n : Nat} {g : Nat → Int32} {τ : zT} (h : 0 ≤ τ 11 9) (k : Nat) : 0 ≤ (zIt (zPfS n g) k (0, τ)).2 11 9 := by
  refine zIt_inv (zPfS n g) (fun u => 0 ≤ u.2 11 9) (0, τ) h (fun k u hu => ?_) k
  show 0 ≤ (zPfS n g k u).2 11 9
  unfold zPfS
  split
  · exact zRd_gen hu
  · exact hu
theorem zPf_stop {n : Nat} {g : Nat → Int32} {τ : zT} {k : Nat} (h : ¬ 0 < zCa n (zIt (zPfS n g) k (0, τ)).2) : ∀ j, zIt (zPfS n g) (k + j) (0, τ) = zIt (zPfS n g) k (0, τ) := by
  intro j
  induction j with
  | zero => rfl
  | succ j ih =>
    rw [show k + (j + 1) = (k + j) + 1 by omega, zIt_s, ih]
    generalize zIt (zPfS n g) k (0, τ) = u at h ⊢
    unfold zPfS
    rw [if_neg h]
theorem zPf_3 (n : Nat) (g : Nat → Int32) (τ : zT) (i k : Nat) : (zIt (zPfS n g) k (0, τ)).2 3 i = τ 3 i ∨ (zIt (zPfS n g) k (0, τ)).2 3 i = 0 := by
  refine zIt_inv (zPfS n g) (fun u => u.2 3 i = τ 3 i ∨ u.2 3 i = 0) (0, τ) (Or.inl rfl) (fun k u hu => ?_) k
  show (zPfS n g k u).2 3 i = τ 3 i ∨ (zPfS n g k u).2 3 i = 0
  unfold zPfS
  split
  · show zRd n g u.2 3 i = τ 3 i ∨ zRd n g u.2 3 i = 0
    rcases zRd_3 n g u.2 i with q | q
    · rw [q]
      exact hu
    · exact Or.inr q
  · exact hu
end
section
/-! rows laid by my own program (wip/whole/gen) -/
theorem in_X2_performOne_X1 : ∀ w ∈ wsX10, w ∈ wsX2_performOne := by decide +kernel
theorem in_X2_performOne_X2 : ∀ w ∈ wsX20, w ∈ wsX2_performOne := by decide +kernel
set_option maxHeartbeats 4000000 in
set_option maxRecDepth 100000 in
theorem c_X2_performOne (l : Launch) (G : zG) (A : Nat → Prop) (ad : Nat → Nat) (n : Nat) (g : Nat → Int32) (r : Nat) (hA : zAp G ad (zX r ad) A) (hn12 : n ≤ 12) (hd3 : 0 < g 3) (hd5 : 0 < g 5) (τ : zT) (hg : 0 ≤ τ 11 9) : zMv l G A yX2_performOne wsX2_performOne 4 94 [.ref r] (zN9 G ad n g (zX r ad) τ) (zN9 G ad n g (zX r ad) (zRd n g τ)) := by
  refine z_met (cc := cX2_performOne) (maxL := 1) (ret := none) (by decide) rfl (Nat.le_of_ble_eq_true rfl) ?_
  intro p e s m below meth c ls S hr hlk hnm hN hK hl
  have S : CallFix p m c cX2_performOne 1 s _ wsX2_performOne RX2 := S
  obtain ⟨hx, hb, hml, hown, hts⟩ := id S
  obtain ⟨τ9, h9, hN⟩ := hN
  have hnN : n ≤ n := Nat.le_refl n
  have hN12 := hn12
  have hS : va_S A s.heap s.heap [] := va_S.rf
  have hl : lv_has ls 1 [(0, .ref r)] := hl
  refine lv_aload_n hx hb dX2_performOne_0 rfl (lv_at hl 0 rfl) ?_
  refine z_vv (As := []) (rest := []) (P2 := zNA G ad n n g (zX r ad) (zBg n g τ9)) S (c_X2_begin l G A ad n n g r hA hnN hN12 hd3 τ9 ) (cwV 0 hts gX2_performOne_X2_begin rfl rfl rfl (by decide +kernel) ⟨Nat.le_of_ble_eq_true rfl, Nat.le_of_ble_eq_true rfl⟩) (z_recR hK hN) hN hK hS (fun _ _ h => h) (fun _ h => h) hl.1 rfl rfl (Nat.le_of_ble_eq_true rfl) dX2_performOne_1 ⟨Nat.le_refl _, Nat.le_refl _⟩ (fun H locs hN hS _ => ?_)
  have hN := hN.to (zBg_ag h9)
  have hgb : 0 ≤ (zBg n g τ) 11 9 := zBg_gen hg
  refine lv_aload_n hx hb dX2_performOne_4 rfl (lv_at hl 0 rfl) ?_
  refine z_vv (As := []) (rest := []) (P2 := zNA G ad n n g (zX r ad) (zEl n g (zBg n g τ))) S (c_X2_elect l G A ad n n g r hA hnN hN12 hd3 (zBg n g τ) (by assumption)) (cwV 0 hts gX2_performOne_X2_elect rfl rfl rfl (by decide +kernel) ⟨Nat.le_of_ble_eq_true rfl, Nat.le_of_ble_eq_true rfl⟩) (z_recR hK hN) hN hK hS (fun _ _ h => h) (fun _ h => h) hl.1 rfl rfl (Nat.le_of_ble_eq_true rfl) dX2_performOne_5 ⟨Nat.le_refl _, Nat.le_refl _⟩ (fun H locs hN hS _ => ?_)
  refine lv_aload_n hx hb dX2_performOne_8 rfl (lv_at hl 0 rfl) ?_
  refine z_vv (As := []) (rest := []) (P2 := zNA G ad n n g (zX r ad) (zIt (zAnS g) n (zEl n g (zBg n g τ)))) S (c_X2_announce l G A ad n n g r hA hnN hN12  (zEl n g (zBg n g τ)) ) (cwV 0 hts gX2_performOne_X2_announce rfl rfl rfl (by decide +kernel) ⟨Nat.le_of_ble_eq_true rfl, Nat.le_of_ble_eq_true rfl⟩) (z_recR hK hN) hN hK hS (fun _ _ h => h) (fun _ h => h) hl.1 rfl rfl (Nat.le_of_ble_eq_true rfl) dX2_performOne_9 ⟨Nat.le_refl _, Nat.le_refl _⟩ (fun H locs hN hS _ => ?_)
  refine lv_aload_n hx hb dX2_performOne_12 rfl (lv_at hl 0 rfl) ?_
  refine z_getR hx hb hts hown in_X2_performOne_X2 hK hN (hts _ (List.mem_of_getElem? (i := 1) (by decide +kernel))) dX2_performOne_13 ?_
  refine z_getO (v := .int ((zIt (zAnS g) n (zEl n g (zBg n g τ))) 11 11)) hx hb hts hown in_X2_performOne_X1 hK hN 7 (by decide) rfl (hts _ (List.mem_of_getElem? (i := 2) (by decide +kernel))) rfl dX2_performOne_16 ?_
  refine lv_if_ne (tgt := 29) hx hb dX2_performOne_19 (by decide) (fun c_1 => ?_) (fun c_2 => ?_)
  · skip
    refine lv_aload_n hx hb dX2_performOne_29 rfl (lv_at hl 0 rfl) ?_
    refine z_vv (As := []) (rest := []) (P2 := zNA G ad n n g (zX r ad) (zJo n (zIt (zAnS g) n (zEl n g (zBg n g τ))))) S (c_X2_join l G A ad n n g r hA hnN hN12  (zIt (zAnS g) n (zEl n g (zBg n g τ))) ) (cwV 0 hts gX2_performOne_X2_join rfl rfl rfl (by decide +kernel) ⟨Nat.le_of_ble_eq_true rfl, Nat.le_of_ble_eq_true rfl⟩) (z_recR hK hN) hN hK hS (fun _ _ h => h) (fun _ h => h) hl.1 rfl rfl (Nat.le_of_ble_eq_true rfl) dX2_performOne_30 ⟨Nat.le_refl _, Nat.le_refl _⟩ (fun H locs hN hS _ => ?_)
    refine lv_aload_n hx hb dX2_performOne_33 rfl (lv_at hl 0 rfl) ?_
    refine z_vv (As := []) (rest := []) (P2 := zNA G ad n n g (zX r ad) (zIt (zRhS n g) n (zJo n (zIt (zAnS g) n (zEl n g (zBg n g τ)))))) S (c_X2_reportToHeads l G A ad n n g r hA hnN hN12 hd5 (zJo n (zIt (zAnS g) n (zEl n g (zBg n g τ)))) ) (cwV 0 hts gX2_performOne_X2_reportToHeads rfl rfl rfl (by decide +kernel) ⟨Nat.le_of_ble_eq_true rfl, Nat.le_of_ble_eq_true rfl⟩) (z_recR hK hN) hN hK hS (fun _ _ h => h) (fun _ h => h) hl.1 rfl rfl (Nat.le_of_ble_eq_true rfl) dX2_performOne_34 ⟨Nat.le_refl _, Nat.le_refl _⟩ (fun H locs hN hS _ => ?_)
    refine lv_aload_n hx hb dX2_performOne_37 rfl (lv_at hl 0 rfl) ?_
    refine z_vv (As := []) (rest := []) (P2 := zNA G ad n n g (zX r ad) (zIt (zOwS g) n (zIt (zRhS n g) n (zJo n (zIt (zAnS g) n (zEl n g (zBg n g τ))))))) S (c_X2_addOwnReadings l G A ad n n g r hA hnN hN12  (zIt (zRhS n g) n (zJo n (zIt (zAnS g) n (zEl n g (zBg n g τ))))) ) (cwV 0 hts gX2_performOne_X2_addOwnReadings rfl rfl rfl (by decide +kernel) ⟨Nat.le_of_ble_eq_true rfl, Nat.le_of_ble_eq_true rfl⟩) (z_recR hK hN) hN hK hS (fun _ _ h => h) (fun _ h => h) hl.1 rfl rfl (Nat.le_of_ble_eq_true rfl) dX2_performOne_38 ⟨Nat.le_refl _, Nat.le_refl _⟩ (fun H locs hN hS _ => ?_)
    refine lv_aload_n hx hb dX2_performOne_41 rfl (lv_at hl 0 rfl) ?_
    refine z_vv (As := []) (rest := []) (P2 := zNA G ad n n g (zX r ad) (zDv n g (zIt (zOwS g) n (zIt (zRhS n g) n (zJo n (zIt (zAnS g) n (zEl n g (zBg n g τ)))))))) S (c_X2_deliver l G A ad n n g r hA hnN hN12 hd5 (zIt (zOwS g) n (zIt (zRhS n g) n (zJo n (zIt (zAnS g) n (zEl n g (zBg n g τ)))))) ) (cwV 0 hts gX2_performOne_X2_deliver rfl rfl rfl (by decide +kernel) ⟨Nat.le_of_ble_eq_true rfl, Nat.le_of_ble_eq_true rfl⟩) (z_recR hK hN) hN hK hS (fun _ _ h => h) (fun _ h => h) hl.1 rfl rfl (Nat.le_of_ble_eq_true rfl) dX2_performOne_42 ⟨Nat.le_refl _, Nat.le_refl _⟩ (fun H locs hN hS _ => ?_)
    refine lv_aload_n hx hb dX2_performOne_45 rfl (lv_at hl 0 rfl) ?_
    refine z_getR hx hb hts hown in_X2_performOne_X2 hK hN (hts _ (List.mem_of_getElem? (i := 1) (by decide +kernel))) dX2_performOne_46 ?_
    refine lv_dup hx hb dX2_performOne_49 rfl ?_
    refine z_getO (v := .int ((zDv n g (zIt (zOwS g) n (zIt (zRhS n g) n (zJo n (zIt (zAnS g) n (zEl n g (zBg n g τ))))))) 11 13)) hx hb hts hown in_X2_performOne_X1 hK hN 9 (by decide) rfl (hts _ (List.mem_of_getElem? (i := 3) (by decide +kernel))) rfl dX2_performOne_50 ?_
    refine lv_aload_n hx hb dX2_performOne_53 rfl (lv_at hl 0 rfl) ?_
    refine z_getR hx hb hts hown in_X2_performOne_X2 hK hN (hts _ (List.mem_of_getElem? (i := 1) (by decide +kernel))) dX2_performOne_54 ?_
    refine z_getO (v := .int ((zDv n g (zIt (zOwS g) n (zIt (zRhS n g) n (zJo n (zIt (zAnS g) n (zEl n g (zBg n g τ))))))) 11 12)) hx hb hts hown in_X2_performOne_X1 hK hN 8 (by decide) rfl (hts _ (List.mem_of_getElem? (i := 4) (by decide +kernel))) rfl dX2_performOne_57 ?_
    refine lv_iadd hx hb dX2_performOne_60 ?_
    refine z_putO (w := ((zDv n g (zIt (zOwS g) n (zIt (zRhS n g) n (zJo n (zIt (zAnS g) n (zEl n g (zBg n g τ))))))) 11 13) + ((zDv n g (zIt (zOwS g) n (zIt (zRhS n g) n (zJo n (zIt (zAnS g) n (zEl n g (zBg n g τ))))))) 11 12)) hx hb hts hown in_X2_performOne_X1 hK hA hS hN 9 13 (by decide) rfl (hts _ (List.mem_of_getElem? (i := 3) (by decide +kernel))) (by decide +kernel) rfl (fun τ => zObs9 ad n g τ _) dX2_performOne_61 (fun H locs hN hS => ?_)
    refine lv_aload_n hx hb dX2_performOne_64 rfl (lv_at hl 0 rfl) ?_
    refine z_getR hx hb hts hown in_X2_performOne_X2 hK hN (hts _ (List.mem_of_getElem? (i := 1) (by decide +kernel))) dX2_performOne_65 ?_
    refine lv_dup hx hb dX2_performOne_68 rfl ?_
    refine z_getO (v := .int ((zDv n g (zIt (zOwS g) n (zIt (zRhS n g) n (zJo n (zIt (zAnS g) n (zEl n g (zBg n g τ))))))) 11 10)) hx hb hts hown in_X2_performOne_X1 hK hN 6 (by decide) rfl (hts _ (List.mem_of_getElem? (i := 5) (by decide +kernel))) rfl dX2_performOne_69 ?_
    refine lv_iconst (v := 1) hx hb dX2_performOne_72 (by decide) ?_
    refine lv_iadd hx hb dX2_performOne_73 ?_
    refine z_putO (w := ((zDv n g (zIt (zOwS g) n (zIt (zRhS n g) n (zJo n (zIt (zAnS g) n (zEl n g (zBg n g τ))))))) 11 10) + 1) hx hb hts hown in_X2_performOne_X1 hK hA hS hN 6 10 (by decide) rfl (hts _ (List.mem_of_getElem? (i := 5) (by decide +kernel))) (by decide +kernel) rfl (fun τ => zObs6 ad n g τ _) dX2_performOne_74 (fun H locs hN hS => ?_)
    exact z_vret hx hb hr hlk hK hS (⟨_, zE9.rf, hN.cast (by first | with_reducible rfl | (simp only [zRd, zR1, zR3, zR2, c_1, eq_self, ne_eq, not_true_eq_false, not_false_eq_true, and_true, true_and, and_self, and_false, false_and, true_or, or_true, false_or, or_false, reduceIte]; done) | (simp [zRd, zR1, zR3, zR2, c_1]; done) | rfl | (simp_all [zRd, zR1, zR3, zR2]; done))⟩) dX2_performOne_77
  · skip
    refine lv_aload_n hx hb dX2_performOne_22 rfl (lv_at hl 0 rfl) ?_
    refine z_vv (As := []) (rest := []) (P2 := zNA G ad n n g (zX r ad) (zIt (zRbS g) n (zIt (zAnS g) n (zEl n g (zBg n g τ))))) S (c_X2_reportToBase l G A ad n n g r hA hnN hN12 hd5 (zIt (zAnS g) n (zEl n g (zBg n g τ))) ) (cwV 0 hts gX2_performOne_X2_reportToBase rfl rfl rfl (by decide +kernel) ⟨Nat.le_of_ble_eq_true rfl, Nat.le_of_ble_eq_true rfl⟩) (z_recR hK hN) hN hK hS (fun _ _ h => h) (fun _ h => h) hl.1 rfl rfl (Nat.le_of_ble_eq_true rfl) dX2_performOne_23 ⟨Nat.le_refl _, Nat.le_refl _⟩ (fun H locs hN hS _ => ?_)
    refine lv_goto (tgt := 45) hx hb dX2_performOne_26 (by decide) ?_
    refine lv_aload_n hx hb dX2_performOne_45 rfl (lv_at hl 0 rfl) ?_
    refine z_getR hx hb hts hown in_X2_performOne_X2 hK hN (hts _ (List.mem_of_getElem? (i := 1) (by decide +kernel))) dX2_performOne_46 ?_
    refine lv_dup hx hb dX2_performOne_49 rfl ?_
    refine z_getO (v := .int ((zIt (zRbS g) n (zIt (zAnS g) n (zEl n g (zBg n g τ)))) 11 13)) hx hb hts hown in_X2_performOne_X1 hK hN 9 (by decide) rfl (hts _ (List.mem_of_getElem? (i := 3) (by decide +kernel))) rfl dX2_performOne_50 ?_
    refine lv_aload_n hx hb dX2_performOne_53 rfl (lv_at hl 0 rfl) ?_
    refine z_getR hx hb hts hown in_X2_performOne_X2 hK hN (hts _ (List.mem_of_getElem? (i := 1) (by decide +kernel))) dX2_performOne_54 ?_
    refine z_getO (v := .int ((zIt (zRbS g) n (zIt (zAnS g) n (zEl n g (zBg n g τ)))) 11 12)) hx hb hts hown in_X2_performOne_X1 hK hN 8 (by decide) rfl (hts _ (List.mem_of_getElem? (i := 4) (by decide +kernel))) rfl dX2_performOne_57 ?_
    refine lv_iadd hx hb dX2_performOne_60 ?_
    refine z_putO (w := ((zIt (zRbS g) n (zIt (zAnS g) n (zEl n g (zBg n g τ)))) 11 13) + ((zIt (zRbS g) n (zIt (zAnS g) n (zEl n g (zBg n g τ)))) 11 12)) hx hb hts hown in_X2_performOne_X1 hK hA hS hN 9 13 (by decide) rfl (hts _ (List.mem_of_getElem? (i := 3) (by decide +kernel))) (by decide +kernel) rfl (fun τ => zObs9 ad n g τ _) dX2_performOne_61 (fun H locs hN hS => ?_)
    refine lv_aload_n hx hb dX2_performOne_64 rfl (lv_at hl 0 rfl) ?_
    refine z_getR hx hb hts hown in_X2_performOne_X2 hK hN (hts _ (List.mem_of_getElem? (i := 1) (by decide +kernel))) dX2_performOne_65 ?_
    refine lv_dup hx hb dX2_performOne_68 rfl ?_
    refine z_getO (v := .int ((zIt (zRbS g) n (zIt (zAnS g) n (zEl n g (zBg n g τ)))) 11 10)) hx hb hts hown in_X2_performOne_X1 hK hN 6 (by decide) rfl (hts _ (List.mem_of_getElem? (i := 5) (by decide +kernel))) rfl dX2_performOne_69 ?_
    refine lv_iconst (v := 1) hx hb dX2_performOne_72 (by decide) ?_
    refine lv_iadd hx hb dX2_performOne_73 ?_
    refine z_putO (w := ((zIt (zRbS g) n (zIt (zAnS g) n (zEl n g (zBg n g τ)))) 11 10) + 1) hx hb hts hown in_X2_performOne_X1 hK hA hS hN 6 10 (by decide) rfl (hts _ (List.mem_of_getElem? (i := 5) (by decide +kernel))) (by decide +kernel) rfl (fun τ => zObs6 ad n g τ _) dX2_performOne_74 (fun H locs hN hS => ?_)
    exact z_vret hx hb hr hlk hK hS (⟨_, zE9.rf, hN.cast (by first | with_reducible rfl | (simp only [zRd, zR1, zR3, zR2, c_2, eq_self, ne_eq, not_true_eq_false, not_false_eq_true, and_true, true_and, and_self, and_false, false_and, true_or, or_true, false_or, or_false, reduceIte]; done) | (simp [zRd, zR1, zR3, zR2, c_2]; done) | rfl | (simp_all [zRd, zR1, zR3, zR2]; done))⟩) dX2_performOne_77
theorem in_X2_perform_X2 : ∀ w ∈ wsX20, w ∈ wsX2_perform := by decide +kernel
set_option maxHeartbeats 4000000 in
set_option maxRecDepth 100000 in
/-- rounds until none is alive, at most lim -/
theorem c_X2_perform (l : Launch) (G : zG) (A : Nat → Prop) (ad : Nat → Nat) (n : Nat) (g : Nat → Int32) (r : Nat) (hA : zAp G ad (zX r ad) A) (hn12 : n ≤ 12) (hd3 : 0 < g 3) (hd5 : 0 < g 5) (τ : zT) (hg : 0 ≤ τ 11 9) (lim : Nat) (hlim : lim ≤ 300) : zMi l G A yX2_perform wsX2_perform 5 114 [.ref r, .int (nI lim)] (zN9 G ad n g (zX r ad) τ) (nI (zPf n g lim τ).1) (zN9 G ad n g (zX r ad) (zPf n g lim τ).2) := by
  refine z_met (cc := cX2_perform) (maxL := 3) (ret := (some .int)) (by decide) rfl (Nat.le_of_ble_eq_true rfl) ?_
  intro p e s m below meth c ls S hr hlk hnm hN hK hl
  have S : CallFix p m c cX2_perform 3 s _ wsX2_perform RX2 := S
  obtain ⟨hx, hb, hml, hown, hts⟩ := id S
  have hnN : n ≤ n := Nat.le_refl n
  have hS : va_S A s.heap s.heap [] := va_S.rf
  have hl : lv_has ls 3 [(0, .ref r), (1, .int (nI lim))] := hl
  refine lv_iconst (v := 0) hx hb dX2_perform_0 (by decide) ?_
  refine lv_istore_n (lv' := [(2, .int 0), (0, .ref r), (1, .int (nI lim))]) hx hb dX2_perform_1 rfl hl (by decide) rfl (fun ls hl => ?_)
  have loop : ∀ (f k : Nat) (H : Heap) (locs : List Loc) (ls : Array Slot), k ≤ lim → lim < k + f → (zIt (zPfS n g) k (0, τ)).1 = k → zN9 G ad n g (zX r ad) (zIt (zPfS n g) k (0, τ)).2 H → va_S A s.heap H locs → lv_has ls 3 [(2, .int (nI k)), (0, .ref r), (1, .int (nI lim))] →
      W p l e ({ frames := 5, cells := 0, slots := 0, locals := 114 } : Room) s m ([.ref r, .int (nI lim)] : List Value).toArray below meth c H locs 0 0 (MQ below (zQi G (nI (zPf n g lim τ).1) (zN9 G ad n g (zX r ad) (zPf n g lim τ).2) A) ([.ref r, .int (nI lim)] : List Value).toArray s 0 0 A) (F0 m 2 ls []) := by
    intro f
    induction f with
    | zero => intro k H locs ls h1 h2; exact absurd h2 (by omega)
    | succ f ih =>
      intro k H locs ls hk hf h1 hN hS hl
      have hgk := zPf_gen hg (n := n) (g := g) k
      refine lv_iload_n hx hb dX2_perform_2 rfl (lv_at hl 0 rfl) ?_
      refine lv_iload_n hx hb dX2_perform_3 rfl (lv_at hl 2 rfl) ?_
      refine lv_icmp_ge (tgt := 27) hx hb dX2_perform_4 (by decide) (fun c_1 => ?_) (fun c_1 => ?_)
      · have c_1 := (z_leI (a := lim) (b := k) (by omega) (by omega)).mp c_1
        have hkl : k = lim := by omega
        refine lv_iload_n hx hb dX2_perform_27 rfl (lv_at hl 0 rfl) ?_
        refine z_top (x2 := nI (zPf n g lim τ).1) (by rw [← hkl]; exact congrArg nI h1.symm) ?_
        exact z_iret hx hb hr hlk hK hS (by rw [← hkl]; exact hN) dX2_perform_28
      · have c_1 := (not_congr (z_leI (a := lim) (b := k) (by omega) (by omega))).mp c_1
        refine lv_aload_n hx hb dX2_perform_7 rfl (lv_at hl 1 rfl) ?_
        obtain ⟨τ9, h9, hN9⟩ := id hN
        refine z_getR hx hb hts hown in_X2_perform_X2 hK hN9 (hts _ (List.mem_of_getElem? (i := 1) (by decide +kernel))) dX2_perform_8 ?_
        refine z_vi (As := []) (rest := []) (P2 := zNA G ad n n g (zX r ad) τ9) (r := zCa n τ9) S (c_X1_countAlive l G A ad n n g (zX r ad) hA hnN hn12 τ9) (cwV 0 hts gX2_perform_X1_countAlive rfl rfl rfl (by decide +kernel) ⟨Nat.le_of_ble_eq_true rfl, Nat.le_of_ble_eq_true rfl⟩) (z_recN hK hN9) hN9 hK hS (fun _ _ h => h) (fun _ h => h) hl.1 rfl rfl (Nat.le_of_ble_eq_true rfl) dX2_perform_11 ⟨Nat.le_refl _, Nat.le_refl _⟩ (fun H locs hN9 hS _ => ?_)
        have hN : zN9 G ad n g (zX r ad) (zIt (zPfS n g) k (0, τ)).2 H := ⟨τ9, h9, hN9⟩
        have e9 := zCaS_9 h9 n
        rw [e9]
        refine lv_if_le (tgt := 27) hx hb dX2_perform_14 (by decide) (fun c_2 => ?_) (fun c_2 => ?_)
        · have c_2 := Int32.not_lt.mpr c_2
          have hst : zPf n g lim τ = zIt (zPfS n g) k (0, τ) := by
            have := zPf_stop c_2 (lim - k)
            rw [show k + (lim - k) = lim by omega] at this
            exact this
          refine lv_iload_n hx hb dX2_perform_27 rfl (lv_at hl 0 rfl) ?_
          refine z_top (x2 := nI (zPf n g lim τ).1) (by rw [hst]; exact congrArg nI h1.symm) ?_
          exact z_iret hx hb hr hlk hK hS (by rw [hst]; exact hN) dX2_perform_28
        · have c_2 := Int32.not_le.mp c_2
          have hs : zIt (zPfS n g) (k + 1) (0, τ) = ((zIt (zPfS n g) k (0, τ)).1 + 1, zRd n g (zIt (zPfS n g) k (0, τ)).2) := by
            rw [zIt_s]
            generalize zIt (zPfS n g) k (0, τ) = u at c_2 ⊢
            unfold zPfS
            rw [if_pos c_2]
          refine lv_aload_n hx hb dX2_perform_17 rfl (lv_at hl 1 rfl) ?_
          refine z_vv (As := []) (rest := []) (P2 := zN9 G ad n g (zX r ad) (zRd n g (zIt (zPfS n g) k (0, τ)).2)) S (c_X2_performOne l G A ad n g r hA hn12 hd3 hd5 (zIt (zPfS n g) k (0, τ)).2 hgk) (cwV 0 hts gX2_perform_X2_performOne rfl rfl rfl (by decide +kernel) ⟨Nat.le_of_ble_eq_true rfl, Nat.le_of_ble_eq_true rfl⟩) (z_recR hK hN9) hN hK hS (fun _ _ h => h) (fun _ h => h) hl.1 rfl rfl (Nat.le_of_ble_eq_true rfl) dX2_perform_18 ⟨Nat.le_refl _, Nat.le_refl _⟩ (fun H locs hN hS _ => ?_)
          refine lv_iinc (v := nI (k + 1)) (lv' := [(2, .int (nI (k + 1))), (0, .ref r), (1, .int (nI lim))]) hx hb dX2_perform_21 hl (k := 0) rfl (nI_1 _) (by decide) rfl (fun ls hl => ?_)
          refine lv_goto (tgt := 2) hx hb dX2_perform_24 (by decide) ?_
          refine ih (k + 1) _ _ _ (by omega) (by omega) ?_ ?_ hS hl
          · rw [hs, h1]
          · rw [hs]; exact hN
  exact loop (lim + 1) 0 _ _ _ (by omega) (by omega) rfl hN hS (lv_sub hl [0, 1, 2] rfl)
end
section
/-! ===== rows that stood among the reference's in whole ===== -/
theorem zCell_ext {cA : ClassId} {len : Nat} {f g : Nat → Int32} (h : ∀ j, j < len → f j = g j) : vp_cell cA (len, .inl f) = vp_cell cA (len, .inl g) := by
  rw [vp_cell_i, vp_cell_i]
  unfold arrV
  congr 2
  funext j
  exact congrArg Value.int (h j.1 j.2)
def zMx (τ1 τ : zT) : zT := fun f i => if f = 9 ∨ f = 10 then τ f i else τ1 f i
theorem zMx_e9 (τ1 τ : zT) : zE9 (zMx τ1 τ) τ1 := fun f i h9 h10 => by simp [zMx, h9, h10]
/-! ===== returns with cases; ints that the caller gives ===== -/
theorem zIf_t {C : Prop} [Decidable C] {P Q : Heap → Prop} {H : Heap} (h : C) (k : P H) : (if C then P else Q) H := by
  rw [if_pos h]
  exact k
theorem zIf_n {C : Prop} [Decidable C] {P Q : Heap → Prop} {H : Heap} (h : ¬ C) (k : Q H) : (if C then P else Q) H := by
  rw [if_neg h]
  exact k
theorem zIr_t {C : Prop} [Decidable C] {v a b : Int32} (h : C) (k : v = a) : v = if C then a else b := by
  rw [if_pos h]
  exact k
theorem zIr_n {C : Prop} [Decidable C] {v a b : Int32} (h : ¬ C) (k : v = b) : v = if C then a else b := by
  rw [if_neg h]
  exact k
section ZPUB
variable {p : Program} {l : Launch} {e : Env} {R : Room} {s : State} {m : MethodId} {args : Array Value} {below : List Frame} {meth : Method} {c : Code} {H : Heap} {locs : List Loc} {cells slots : Nat}
variable {cc : ByteArray} {pc : Nat} {ls : Array Slot} {G : zG} {A : Nat → Prop} {P2 : Heap → Prop} {r v : Int32}
theorem z_iretE (hx : p.tables.exec = Jvm.exec) (hb : c.code = cc) (hr : meth.sig.returnType = some .int) (hlk : meth.locks = false) (hK : zK G s) (hS : va_S A s.heap H locs) (ev : v = r) (hP : P2 H) (hdg : decode cc pc = .ok (.ireturn, 1)) :
    W p l e R s m args below meth c H locs cells slots (MQ below (zQi G r P2 A) args s cells slots A) (F0 m pc ls [.int v]) := by
  subst ev
  exact z_iret hx hb hr hlk hK hS hP hdg
theorem z_zretE (hx : p.tables.exec = Jvm.exec) (hb : c.code = cc) (hr : meth.sig.returnType = some .boolean) (hlk : meth.locks = false) (hK : zK G s) (hS : va_S A s.heap H locs) (ev : v = r) (hn : narrow .boolean (.int v) = .int v) (hP : P2 H) (hdg : decode cc pc = .ok (.ireturn, 1)) :
    W p l e R s m args below meth c H locs cells slots (MQ below (zQi G r P2 A) args s cells slots A) (F0 m pc ls [.int v]) := by
  subst ev
  exact z_zret hx hb hr hlk hn hK hS hP hdg
end ZPUB
theorem zIn_of {n : Nat} (hn : n < 2147483648) {x : Int32} (h : ¬ x < 0 ∧ x < nI n) : ∃ k : Nat, k < n ∧ x = nI k := by
  obtain ⟨j, hj, rfl⟩ := nI_of h.1
  exact ⟨j, (nI_ltI hj hn).mp h.2, rfl⟩
theorem zLe_of {a b : Nat} (ha : a < 2147483648) (hb : b < 2147483648) {x : Int32} (h : ¬ x < nI a ∧ ¬ nI b < x) : ∃ k : Nat, a ≤ k ∧ k ≤ b ∧ x = nI k := by
  have h0 : ¬ x < 0 := by
    intro q
    apply h.1
    rw [Int32.lt_iff_toInt_lt] at q ⊢
    rw [nI_toInt ha]
    have : (0 : Int32).toInt = 0 := by decide
    omega
  obtain ⟨j, hj, rfl⟩ := nI_of h0
  refine ⟨j, ?_, ?_, rfl⟩
  · have := (not_congr (nI_ltI hj ha)).mp h.1
    omega
  · have := (not_congr (nI_ltI hb hj)).mp h.2
    omega
/-- a new sensor n -/
def zNs (τ : zT) (n : Nat) (x y b : Int32) : zT := zSt (zSt (zSt (zSt (zSt (zSt (zSt (zSt (zSt τ 0 n x) 1 n y) 2 n b) 3 n 1) 4 n 1) 5 n 0) 6 n (-9)) 7 n (-9)) 8 n (-9)
abbrev zC3 (x y b : Int32) : Prop := (¬ x < 0 ∧ ¬ 99 < x) ∧ (¬ y < 0 ∧ ¬ 99 < y) ∧ (¬ b < 0 ∧ ¬ 100000 < b)
/-- a sensor's number, or -1 -/
def zVl (n : Nat) (τ : zT) (x : Int32) (w : Nat) : Int32 := if ¬ x < 0 ∧ x < nI n then τ w x.toNatClampNeg else -1
end
section
/-! ===== two networks side by side; count, base and settings written ===== -/
theorem zNA.ex {G : zG} {ad : Nat → Nat} {n N : Nat} {g : Nat → Int32} {X : va_W} {τ : zT} {H : Heap} (h : zNA G ad n N g X τ H) : ∃ τ2, zAg N τ τ2 ∧ zNA G ad n 12 g X τ2 H := by
  obtain ⟨τ2, h1, hP⟩ := h
  exact ⟨τ2, h1, τ2, zAg.rf, hP⟩
theorem zNA.nar {G : zG} {ad : Nat → Nat} {n N M : Nat} {g : Nat → Int32} {X : va_W} {τ : zT} {H : Heap} (h : zNA G ad n N g X τ H) (hM : M ≤ N) : zNA G ad n M g X τ H := by
  obtain ⟨τ2, h1, hP⟩ := h
  exact ⟨τ2, ⟨h1.1, fun f i hf hi => h1.2 f i hf (by omega)⟩, hP⟩
theorem zNA.other {G : zG} {ad bd : Nat → Nat} {n n2 N : Nat} {g g2 : Nat → Int32} {τ τb : zT} {H : Heap} (h : zNA G ad n N g (zNet G bd n2 g2 τb) τ H) : zNA G bd n2 12 g2 [] τb H := by
  obtain ⟨τ2, h1, hP⟩ := h
  refine ⟨τb, zAg.rf, fun k q hk => ?_⟩
  rw [List.append_nil] at hk
  refine hP (15 + k) q ?_
  rw [zNet_X]
  exact hk
theorem zNA.own {G : zG} {ad : Nat → Nat} {n N : Nat} {g : Nat → Int32} {X : va_W} {τ : zT} {H : Heap} (h : zNA G ad n N g X τ H) : zNA G ad n N g [] τ H := by
  obtain ⟨τ2, h1, hP⟩ := h
  refine ⟨τ2, h1, fun k q hk => ?_⟩
  rw [List.append_nil] at hk
  refine hP k q ?_
  rw [List.getElem?_append_left (List.getElem?_eq_some_iff.mp hk).1]
  exact hk
theorem zNA.both {G : zG} {ad bd : Nat → Nat} {n n2 N : Nat} {g g2 : Nat → Int32} {τ τb : zT} {H : Heap} (h : zNA G ad n N g [] τ H) (h2 : zNA G bd n2 12 g2 [] τb H) : ∃ τb2, zAg 12 τb τb2 ∧ zNA G ad n N g (zNet G bd n2 g2 τb2) τ H := by
  obtain ⟨τ2, h1, hP⟩ := h
  obtain ⟨τb2, h3, hP2⟩ := h2
  rw [List.append_nil] at hP hP2
  exact ⟨τb2, h3, τ2, h1, hP.app hP2⟩
theorem zNet_setO2 {G : zG} {ad : Nat → Nat} {n n2 : Nat} {g g2 : Nat → Int32} {τ : zT} (X : va_W) (h2 : ∀ j, 3 ≤ j → g2 j = g j) : (zNet G ad n g τ ++ X).set 0 (ad 0, .inr (1, zObj ad n2 g2 τ)) = zNet G ad n2 g2 τ ++ X := by
  apply List.ext_getElem?
  intro j
  by_cases hj : j = 0
  · subst hj
    rw [List.getElem?_set_self (by rw [List.length_append, zNet_len]; omega), zNet_3 X (by omega)]
    rfl
  · rw [List.getElem?_set_ne (Ne.symm hj)]
    rcases zNet_cases (G := G) (ad := ad) (n := n) (g := g) (τ := τ) (X := X) (j := j) with rfl | rfl | rfl | ⟨k, hk, rfl⟩ | ⟨k, rfl⟩
    · exact absurd rfl hj
    · rw [zNet_3 X (by omega), zNet_3 X (by omega)]
      rfl
    · rw [zNet_3 X (by omega), zNet_3 X (by omega)]
      simp only [zNet, List.getElem?_cons_succ, List.getElem?_cons_zero]
      have e : (fun j => g2 (3 + j)) = (fun j => g (3 + j)) := funext fun j => h2 _ (by omega)
      rw [e]
    · rw [zNet_s X hk, zNet_s X hk]
    · rw [zNet_X, zNet_X]
theorem zNet_setG {G : zG} {ad : Nat → Nat} {n : Nat} {g g2 : Nat → Int32} {τ : zT} (X : va_W) (h1 : g2 1 = g 1) (h2 : g2 2 = g 2) : (zNet G ad n g τ ++ X).set 2 (ad 2, .inl (G.2.2.1, 6, .inl (fun j => g2 (3 + j)))) = zNet G ad n g2 τ ++ X := by
  apply List.ext_getElem?
  intro j
  by_cases hj : j = 2
  · subst hj
    rw [List.getElem?_set_self (by rw [List.length_append, zNet_len]; omega), zNet_3 X (by omega)]
    rfl
  · rw [List.getElem?_set_ne (Ne.symm hj)]
    rcases zNet_cases (G := G) (ad := ad) (n := n) (g := g) (τ := τ) (X := X) (j := j) with rfl | rfl | rfl | ⟨k, hk, rfl⟩ | ⟨k, rfl⟩
    · rw [zNet_3 X (by omega), zNet_3 X (by omega)]
      simp only [zNet, List.getElem?_cons_zero, zObj, h1, h2]
    · rw [zNet_3 X (by omega), zNet_3 X (by omega)]
      rfl
    · exact absurd rfl hj
    · rw [zNet_s X hk, zNet_s X hk]
    · rw [zNet_X, zNet_X]
/-- of g only 1 to 8 stand in the heap -/
theorem zNA.gext {G : zG} {ad : Nat → Nat} {n N : Nat} {g g2 : Nat → Int32} {X : va_W} {τ : zT} {H : Heap} (h : zNA G ad n N g X τ H) (hg : ∀ j, 1 ≤ j → j < 9 → g j = g2 j) : zNA G ad n N g2 X τ H := by
  obtain ⟨τ2, h1, hP⟩ := h
  refine ⟨τ2, h1, fun k q hk => ?_⟩
  rcases zNet_cases (G := G) (ad := ad) (n := n) (g := g) (τ := τ2) (X := X) (j := k) with rfl | rfl | rfl | ⟨i, hi, rfl⟩ | ⟨i, rfl⟩
  · cases hk
    have := hP 0 _ rfl
    rw [show zObj ad n g2 τ2 = zObj ad n g τ2 by simp [zObj, hg 1 (by decide) (by decide), hg 2 (by decide) (by decide)]]
    exact this
  · cases hk
    exact hP 1 _ rfl
  · cases hk
    have := hP 2 _ rfl
    exact this.trans (congrArg some (zCell_ext (fun j hj => hg (3 + j) (by omega) (by omega))))
  · rw [zNet_s X hi] at hk
    cases hk
    exact hP (3 + i) _ (zNet_s X hi)
  · rw [zNet_X] at hk
    exact hP (15 + i) q (by rw [zNet_X]; exact hk)
section ZCLS
variable {p : Program} {l : Launch} {e : Env} {R : Room} {s : State} {m : MethodId} {args : Array Value} {below : List Frame} {meth : Method} {c : Code} {H : Heap} {locs : List Loc} {cells slots : Nat} {Q : State → Prop}
variable {cc : ByteArray} {pc : Nat} {ls : Array Slot} {rest : List Value} {G : zG} {A : Nat → Prop} {H0 : Heap} {Ts : List Cond} {own : String} {index : Nat} {ad : Nat → Nat} {n N : Nat} {g : Nat → Int32} {X : va_W} {τ : zT} {i k : Nat} {v : Value}
/-- putfield of count, baseX or baseY -/
theorem z_putC (hx : p.tables.exec = Jvm.exec) (hb : c.code = cc) (hts : ∀ w ∈ Ts, w.before args s = true) (hown : s.vm.findClass own = some m.cls) (hin : ∀ w ∈ wsX10, w ∈ Ts) (hK : zK G s) (hA : zAp G ad X A) (hS : va_S A H0 H locs) (hN : zNA G ad n N g X τ H) (k : Nat) (hk : k < 11) (hsm : (TX1 k).1 = RX1) (hl : (Cond.fieldLink own index RX1 (TX1 k).2.1 (TX1 k).2.2.1).before args s = true) (hd : parseFieldDescriptor (TX1 k).2.2.1 = some .int) {w : Int32} (n2 : Nat) (g2 : Nat → Int32) (hg2 : ∀ j, 3 ≤ j → g2 j = g j) (hfin : (TX1 k).2.2.2 = false) (hset : ∀ τ : zT, (zObj ad n g τ).set k (.int w) = zObj ad n2 g2 τ) (hdg : decode cc pc = .ok (.putfield index, 3))
    (kk : ∀ (H1 : Heap) (locs1 : List Loc), zNA G ad n2 N g2 X τ H1 → va_S A H0 H1 locs1 → W p l e R s m args below meth c H1 locs1 cells slots Q (F0 m (pc + 3) ls rest)) : W p l e R s m args below meth c H locs cells slots Q (F0 m pc ls (.int w :: .ref (ad 0) :: rest)) := by
  obtain ⟨τ2, hg, hP⟩ := hN
  refine va_put (D := G.1) (ci := 1) (C := RX1) (T := TX1) (N := 11) (ty := .int) (v := .int w) hx hb hts hin tyX1 tyX1_ok nmX1 hown hK hP (hA n g τ2) hS 0 rfl rfl k hk hl (fun _ h => hsm ▸ h) hfin hd rfl rfl hk hdg (fun H1 locs1 hP1 hD1 hS1 => kk H1 locs1 ⟨τ2, hg, ?_⟩ hS1)
  rw [hset] at hP1
  rwa [zNet_setO2 X hg2] at hP1
/-- iastore of a setting -/
theorem z_iast (hx : p.tables.exec = Jvm.exec) (hb : c.code = cc) (hK : zK G s) (hA : zAp G ad X A) (hS : va_S A H0 H locs) (hN : zNA G ad n N g X τ H) {x w : Int32} (j : Nat) (hxi : x = nI j) (hj : j < 6) (hdg : decode cc pc = .ok (.iastore, 1))
    (kk : ∀ (H1 : Heap) (locs1 : List Loc), zNA G ad n N (upd g (3 + j) w) X τ H1 → va_S A H0 H1 locs1 → W p l e R s m args below meth c H1 locs1 cells slots Q (F0 m (pc + 1) ls rest)) : W p l e R s m args below meth c H locs cells slots Q (F0 m pc ls (.int w :: .int x :: .ref (ad 2) :: rest)) := by
  subst hxi
  obtain ⟨τ2, hg, hP⟩ := hN
  refine va_iast hx hb hK hP (hA n g τ2) hS 2 1 (cA := G.2.2.1) (n := 6) (f := fun j => g (3 + j)) rfl rfl (vp_in_nI hj (by omega)) hdg (fun H1 locs1 hP1 hD1 hS1 => kk H1 locs1 ⟨τ2, hg, ?_⟩ hS1)
  rw [nI_clamp (by omega)] at hP1
  have e : upd (fun j => g (3 + j)) j w = fun i => (upd g (3 + j) w) (3 + i) := by
    funext i
    unfold upd
    by_cases h : i = j
    · rw [if_pos h, if_pos (by omega)]
    · rw [if_neg h, if_neg (by omega)]
  rw [e, zNet_setG X (by unfold upd; rw [if_neg (by omega)]) (by unfold upd; rw [if_neg (by omega)])] at hP1
  exact hP1
/-- System.arraycopy of the settings of another network -/
theorem z_acp (hx : p.tables.exec = Jvm.exec) (hb : c.code = cc) (hml : c.maxLocals = ls.size) (hown : s.vm.findClass own = some m.cls) (hlink : (Cond.methodLink own index arraycopyName).before args s = true) (hnat : (Cond.native arraycopyName).before args s = true) (hstat : (Cond.static arraycopyName).before args s = true) (hini : (Cond.initialized "java/lang/System").before args s = true)
    (hK : zK G s) {bd : Nat → Nat} {n2 : Nat} {g2 : Nat → Int32} {τb : zT} (hA : zAp G ad (zNet G bd n2 g2 τb) A) (hS : va_S A H0 H locs) (hN : zNA G ad n N g (zNet G bd n2 g2 τb) τ H) (hframes : 1 ≤ R.frames) (hlocals : (rest.map fun v => v.category).sum + (nativeFrameWords "java/lang/System" "arraycopy" 5 + 11) ≤ R.locals) (hdg : decode cc pc = .ok (.invokestatic index, 3))
    (kk : ∀ (H1 : Heap) (locs1 : List Loc), zNA G ad n N (fun j => if 3 ≤ j ∧ j < 9 then g2 j else g j) (zNet G bd n2 g2 τb) τ H1 → va_S A H0 H1 locs1 → W p l e R s m args below meth c H1 locs1 cells slots Q (F0 m (pc + 3) ls rest)) : W p l e R s m args below meth c H locs cells slots Q (F0 m pc ls (.int 6 :: .int 0 :: .ref (ad 2) :: .int 0 :: .ref (bd 2) :: rest)) := by
  obtain ⟨τ2, hg, hP⟩ := hN
  refine va_copyi hx hb hml hown hlink hnat hstat hini hK hP (hA n g τ2) hS 17 2 1 1 (a0 := bd 2) (f := fun j => g2 (3 + j)) (g := fun j => g (3 + j)) (ty := .int) (zNet_X _ 2) rfl rfl rfl rfl (by decide) (by decide) (by decide) (Nat.le_of_ble_eq_true rfl) (Nat.le_of_ble_eq_true rfl) (fun _ _ => rfl) hframes hlocals hdg (fun H1 locs1 hP1 hD1 hS1 => kk H1 locs1 ⟨τ2, hg, ?_⟩ hS1)
  have e : va_cpy (fun j => g2 (3 + j)) (fun j => g (3 + j)) (0 : Int32).toNatClampNeg (0 : Int32).toNatClampNeg (6 : Int32).toNatClampNeg = fun j => (fun j => if 3 ≤ j ∧ j < 9 then g2 j else g j) (3 + j) := by
    funext j
    show (if 0 ≤ j ∧ j < 0 + 6 then g2 (3 + (0 + (j - 0))) else g (3 + j)) = if 3 ≤ 3 + j ∧ 3 + j < 9 then g2 (3 + j) else g (3 + j)
    by_cases h : j < 6
    · rw [if_pos (by omega), if_pos (by omega)]
      congr 1
      omega
    · rw [if_neg (by omega), if_neg (by omega)]
  rw [e] at hP1
  have e2 := zNet_setG (G := G) (ad := ad) (n := n) (g := g) (g2 := fun j => if 3 ≤ j ∧ j < 9 then g2 j else g j) (τ := τ2) (zNet G bd n2 g2 τb) (by simp) (by simp)
  rw [← e2]
  exact hP1
end ZCLS
/-- sensor i as the other has it -/
def zCpS (τb : zT) (i : Nat) (τ : zT) : zT := zSt (zSt (zSt (zSt (zSt (zSt (zSt (zSt (zSt τ 0 i (τb 0 i)) 1 i (τb 1 i)) 2 i (τb 2 i)) 3 i (τb 3 i)) 4 i (τb 4 i)) 5 i (τb 5 i)) 6 i (τb 6 i)) 7 i (τb 7 i)) 8 i (τb 8 i)
def zCpG (τb : zT) (τ : zT) : zT := zSt (zSt (zSt (zSt (zSt (zSt τ 11 9 (τb 11 9)) 11 10 (τb 11 10)) 11 11 (τb 11 11)) 11 12 (τb 11 12)) 11 13 (τb 11 13)) 11 14 (τb 11 14)
def zPlc (τ : zT) (i : Nat) (x y b : Int32) : zT := zBr (zSt (zSt (zSt (zSt (zSt (zSt (zSt τ 0 i x) 1 i y) 2 i b) 3 i 1) 4 i 1) 5 i 0) 6 i (-9)) i
theorem zGg (g g2 : Nat → Int32) : ∀ j, 1 ≤ j → j < 9 → upd (upd (fun j => if 3 ≤ j ∧ j < 9 then g2 j else g j) 1 (g2 1)) 2 (g2 2) j = g2 j := by
  intro j h1 h9
  by_cases h2 : j = 2
  · subst h2
    simp [upd]
  · by_cases h3 : j = 1
    · subst h3
      simp [upd]
    · simp only [upd, h2, h3, if_false]
      exact if_pos ⟨by omega, h9⟩
theorem zCpS_at (τb : zT) (f i : Nat) (τ : zT) : ∀ k, (zIt (zCpS τb) k τ) f i = if i < k ∧ f < 9 then τb f i else τ f i := by
  intro k
  induction k with
  | zero => simp [zIt]
  | succ k ih =>
    rw [zIt_s]
    generalize zIt (zCpS τb) k τ = t at ih ⊢
    by_cases hf : f < 9
    · by_cases hik : i = k
      · subst hik
        rw [if_pos ⟨Nat.lt_succ_self i, hf⟩]
        unfold zCpS
        have : f = 0 ∨ f = 1 ∨ f = 2 ∨ f = 3 ∨ f = 4 ∨ f = 5 ∨ f = 6 ∨ f = 7 ∨ f = 8 := by omega
        rcases this with rfl | rfl | rfl | rfl | rfl | rfl | rfl | rfl | rfl <;> simp [zSt_ap]
      · have e : zCpS τb k t f i = t f i := by
          unfold zCpS
          simp [zSt_ap, hik]
        rw [e, ih]
        by_cases hlt : i < k
        · rw [if_pos ⟨hlt, hf⟩, if_pos ⟨by omega, hf⟩]
        · rw [if_neg (fun q => hlt q.1), if_neg (fun q => by omega)]
    · have e : zCpS τb k t f i = t f i := by
        unfold zCpS
        have : f ≠ 0 ∧ f ≠ 1 ∧ f ≠ 2 ∧ f ≠ 3 ∧ f ≠ 4 ∧ f ≠ 5 ∧ f ≠ 6 ∧ f ≠ 7 ∧ f ≠ 8 := by omega
        simp [zSt_ap, this]
      rw [e, ih, if_neg (fun q => hf q.2), if_neg (fun q => hf q.2)]
/-- what was copied can't be told from what it was copied of -/
theorem zCp_ag (τb τ : zT) (n : Nat) : zAg n (zMx τb (zCpG τb (zIt (zCpS τb) n τ))) (zCpG τb (zIt (zCpS τb) n τ)) := by
  refine ⟨fun k h9 h15 => ?_, fun f i hf hi => ?_⟩
  · unfold zMx
    rw [if_neg (by decide)]
    unfold zCpG
    have : k = 9 ∨ k = 10 ∨ k = 11 ∨ k = 12 ∨ k = 13 ∨ k = 14 := by omega
    rcases this with rfl | rfl | rfl | rfl | rfl | rfl <;> simp [zSt_ap]
  · unfold zMx
    by_cases h : f = 9 ∨ f = 10
    · rw [if_pos h]
    · rw [if_neg h]
      unfold zCpG
      rw [zSt_nf _ _ _ _ (by omega), zSt_nf _ _ _ _ (by omega), zSt_nf _ _ _ _ (by omega), zSt_nf _ _ _ _ (by omega), zSt_nf _ _ _ _ (by omega), zSt_nf _ _ _ _ (by omega), zCpS_at, if_pos ⟨hi, by omega⟩]
end
section
/-! rows laid by my own program (wip/whole/gen) -/
theorem in_X3_copyFrom_X3 : ∀ w ∈ wsX30, w ∈ wsX3_copyFrom := by decide +kernel
set_option maxHeartbeats 4000000 in
set_option maxRecDepth 100000 in
theorem c_X3_copyFrom (l : Launch) (G : zG) (A : Nat → Prop) (ad bd : Nat → Nat) (n n2 N : Nat) (g g2 : Nat → Int32) (τb : zT) (hA : zAp G ad (zNet G bd n2 g2 τb) A) (hN12 : N ≤ 12) (τ : zT) (i : Nat) (hi : i < 12) : zMv l G A yX3_copyFrom wsX3_copyFrom 0 0 [.ref (ad (3 + i)), .ref (bd (3 + i))] (zNA G ad n N g (zNet G bd n2 g2 τb) τ) (zNA G ad n N g (zNet G bd n2 g2 τb) (zCpS τb i τ)) := by
  refine z_met (cc := cX3_copyFrom) (maxL := 2) (ret := none) (by decide) rfl (Nat.le_of_ble_eq_true rfl) ?_
  intro p e s m below meth c ls S hr hlk hnm hN hK hl
  have S : CallFix p m c cX3_copyFrom 2 s _ wsX3_copyFrom RX3 := S
  obtain ⟨hx, hb, hml, hown, hts⟩ := id S
  have hNb := hN.other
  have hS : va_S A s.heap s.heap [] := va_S.rf
  have hl : lv_has ls 2 [(0, .ref (ad (3 + i))), (1, .ref (bd (3 + i)))] := hl
  refine lv_aload_n hx hb dX3_copyFrom_0 rfl (lv_at hl 0 rfl) ?_
  refine lv_aload_n hx hb dX3_copyFrom_1 rfl (lv_at hl 1 rfl) ?_
  refine z_getS (v := .int (τb 0 i)) hx hb hts hown in_X3_copyFrom_X3 hK (Nat.le_refl 12) hNb (by omega) 0 (by decide) rfl (hts _ (List.mem_of_getElem? (i := 1) (by decide +kernel))) rfl dX3_copyFrom_2 ?_
  refine z_putS (v := .int (τb 0 i)) (w := τb 0 i) (ty := .int) hx hb hts hown in_X3_copyFrom_X3 hK hA hS hN (by omega) 0 0 (by decide) rfl (by decide) (hts _ (List.mem_of_getElem? (i := 1) (by decide +kernel))) (by decide +kernel) rfl rfl rfl (fun τ => zSet0 τ _ _) dX3_copyFrom_5 (fun H locs hN hS => ?_)
  have hNb := hN.other
  refine lv_aload_n hx hb dX3_copyFrom_8 rfl (lv_at hl 0 rfl) ?_
  refine lv_aload_n hx hb dX3_copyFrom_9 rfl (lv_at hl 1 rfl) ?_
  refine z_getS (v := .int (τb 1 i)) hx hb hts hown in_X3_copyFrom_X3 hK (Nat.le_refl 12) hNb (by omega) 1 (by decide) rfl (hts _ (List.mem_of_getElem? (i := 2) (by decide +kernel))) rfl dX3_copyFrom_10 ?_
  refine z_putS (v := .int (τb 1 i)) (w := τb 1 i) (ty := .int) hx hb hts hown in_X3_copyFrom_X3 hK hA hS hN (by omega) 1 1 (by decide) rfl (by decide) (hts _ (List.mem_of_getElem? (i := 2) (by decide +kernel))) (by decide +kernel) rfl rfl rfl (fun τ => zSet1 τ _ _) dX3_copyFrom_13 (fun H locs hN hS => ?_)
  have hNb := hN.other
  refine lv_aload_n hx hb dX3_copyFrom_16 rfl (lv_at hl 0 rfl) ?_
  refine lv_aload_n hx hb dX3_copyFrom_17 rfl (lv_at hl 1 rfl) ?_
  refine z_getS (v := .int (τb 2 i)) hx hb hts hown in_X3_copyFrom_X3 hK (Nat.le_refl 12) hNb (by omega) 2 (by decide) rfl (hts _ (List.mem_of_getElem? (i := 3) (by decide +kernel))) rfl dX3_copyFrom_18 ?_
  refine z_putS (v := .int (τb 2 i)) (w := τb 2 i) (ty := .int) hx hb hts hown in_X3_copyFrom_X3 hK hA hS hN (by omega) 2 2 (by decide) rfl (by decide) (hts _ (List.mem_of_getElem? (i := 3) (by decide +kernel))) (by decide +kernel) rfl rfl rfl (fun τ => zSet2 τ _ _) dX3_copyFrom_21 (fun H locs hN hS => ?_)
  have hNb := hN.other
  refine lv_aload_n hx hb dX3_copyFrom_24 rfl (lv_at hl 0 rfl) ?_
  refine lv_aload_n hx hb dX3_copyFrom_25 rfl (lv_at hl 1 rfl) ?_
  refine z_getS (v := .int (zBi (τb 3 i = 1))) hx hb hts hown in_X3_copyFrom_X3 hK (Nat.le_refl 12) hNb (by omega) 3 (by decide) rfl (hts _ (List.mem_of_getElem? (i := 4) (by decide +kernel))) rfl dX3_copyFrom_26 ?_
  refine z_putS (v := .int (zBi (τb 3 i = 1))) (w := τb 3 i) (ty := .boolean) hx hb hts hown in_X3_copyFrom_X3 hK hA hS hN (by omega) 3 3 (by decide) rfl (by decide) (hts _ (List.mem_of_getElem? (i := 4) (by decide +kernel))) (by decide +kernel) zBi_nar zBi_fit rfl (fun τ => zSet3 τ _ rfl) dX3_copyFrom_29 (fun H locs hN hS => ?_)
  have hNb := hN.other
  refine lv_aload_n hx hb dX3_copyFrom_32 rfl (lv_at hl 0 rfl) ?_
  refine lv_aload_n hx hb dX3_copyFrom_33 rfl (lv_at hl 1 rfl) ?_
  refine z_getS (v := .int (zBi (τb 4 i = 1))) hx hb hts hown in_X3_copyFrom_X3 hK (Nat.le_refl 12) hNb (by omega) 4 (by decide) rfl (hts _ (List.mem_of_getElem? (i := 5) (by decide +kernel))) rfl dX3_copyFrom_34 ?_
  refine z_putS (v := .int (zBi (τb 4 i = 1))) (w := τb 4 i) (ty := .boolean) hx hb hts hown in_X3_copyFrom_X3 hK hA hS hN (by omega) 4 4 (by decide) rfl (by decide) (hts _ (List.mem_of_getElem? (i := 5) (by decide +kernel))) (by decide +kernel) zBi_nar zBi_fit rfl (fun τ => zSet4 τ _ rfl) dX3_copyFrom_37 (fun H locs hN hS => ?_)
  have hNb := hN.other
  refine lv_aload_n hx hb dX3_copyFrom_40 rfl (lv_at hl 0 rfl) ?_
  refine lv_aload_n hx hb dX3_copyFrom_41 rfl (lv_at hl 1 rfl) ?_
  refine z_getS (v := .int (τb 5 i)) hx hb hts hown in_X3_copyFrom_X3 hK (Nat.le_refl 12) hNb (by omega) 5 (by decide) rfl (hts _ (List.mem_of_getElem? (i := 6) (by decide +kernel))) rfl dX3_copyFrom_42 ?_
  refine z_putS (v := .int (τb 5 i)) (w := τb 5 i) (ty := .int) hx hb hts hown in_X3_copyFrom_X3 hK hA hS hN (by omega) 5 5 (by decide) rfl (by decide) (hts _ (List.mem_of_getElem? (i := 6) (by decide +kernel))) (by decide +kernel) rfl rfl rfl (fun τ => zSet5 τ _ _) dX3_copyFrom_45 (fun H locs hN hS => ?_)
  have hNb := hN.other
  refine lv_aload_n hx hb dX3_copyFrom_48 rfl (lv_at hl 0 rfl) ?_
  refine lv_aload_n hx hb dX3_copyFrom_49 rfl (lv_at hl 1 rfl) ?_
  refine z_getS (v := .int (τb 6 i)) hx hb hts hown in_X3_copyFrom_X3 hK (Nat.le_refl 12) hNb (by omega) 6 (by decide) rfl (hts _ (List.mem_of_getElem? (i := 7) (by decide +kernel))) rfl dX3_copyFrom_50 ?_
  refine z_putS (v := .int (τb 6 i)) (w := τb 6 i) (ty := .int) hx hb hts hown in_X3_copyFrom_X3 hK hA hS hN (by omega) 6 6 (by decide) rfl (by decide) (hts _ (List.mem_of_getElem? (i := 7) (by decide +kernel))) (by decide +kernel) rfl rfl rfl (fun τ => zSet6 τ _ _) dX3_copyFrom_53 (fun H locs hN hS => ?_)
  have hNb := hN.other
  refine lv_aload_n hx hb dX3_copyFrom_56 rfl (lv_at hl 0 rfl) ?_
  refine lv_aload_n hx hb dX3_copyFrom_57 rfl (lv_at hl 1 rfl) ?_
  refine z_getS (v := .int (τb 7 i)) hx hb hts hown in_X3_copyFrom_X3 hK (Nat.le_refl 12) hNb (by omega) 7 (by decide) rfl (hts _ (List.mem_of_getElem? (i := 8) (by decide +kernel))) rfl dX3_copyFrom_58 ?_
  refine z_putS (v := .int (τb 7 i)) (w := τb 7 i) (ty := .int) hx hb hts hown in_X3_copyFrom_X3 hK hA hS hN (by omega) 7 7 (by decide) rfl (by decide) (hts _ (List.mem_of_getElem? (i := 8) (by decide +kernel))) (by decide +kernel) rfl rfl rfl (fun τ => zSet7 τ _ _) dX3_copyFrom_61 (fun H locs hN hS => ?_)
  have hNb := hN.other
  refine lv_aload_n hx hb dX3_copyFrom_64 rfl (lv_at hl 0 rfl) ?_
  refine lv_aload_n hx hb dX3_copyFrom_65 rfl (lv_at hl 1 rfl) ?_
  refine z_getS (v := .int (τb 8 i)) hx hb hts hown in_X3_copyFrom_X3 hK (Nat.le_refl 12) hNb (by omega) 8 (by decide) rfl (hts _ (List.mem_of_getElem? (i := 9) (by decide +kernel))) rfl dX3_copyFrom_66 ?_
  refine z_putS (v := .int (τb 8 i)) (w := τb 8 i) (ty := .int) hx hb hts hown in_X3_copyFrom_X3 hK hA hS hN (by omega) 8 8 (by decide) rfl (by decide) (hts _ (List.mem_of_getElem? (i := 9) (by decide +kernel))) (by decide +kernel) rfl rfl rfl (fun τ => zSet8 τ _ _) dX3_copyFrom_69 (fun H locs hN hS => ?_)
  have hNb := hN.other
  exact z_vret hx hb hr hlk hK hS (hN.cast (by first | with_reducible rfl | (simp only [zCpS, eq_self, ne_eq, not_true_eq_false, not_false_eq_true, and_true, true_and, and_self, and_false, false_and, true_or, or_true, false_or, or_false, reduceIte]; done) | (simp [zCpS]; done) | rfl | (simp_all [zCpS]; done))) dX3_copyFrom_72

theorem in_X3_place_X3 : ∀ w ∈ wsX30, w ∈ wsX3_place := by decide +kernel
set_option maxHeartbeats 4000000 in
set_option maxRecDepth 100000 in
theorem c_X3_place (l : Launch) (G : zG) (A : Nat → Prop) (ad : Nat → Nat) (n N : Nat) (g : Nat → Int32) (X : va_W) (hA : zAp G ad X A) (hnN : n ≤ N) (hN12 : N ≤ 12) (τ : zT) (i : Nat) (hi : i < 12) (x y b : Int32) : zMv l G A yX3_place wsX3_place 1 20 [.ref (ad (3 + i)), .int x, .int y, .int b] (zNA G ad n N g X τ) (zNA G ad n N g X (zPlc τ i x y b)) := by
  refine z_met (cc := cX3_place) (maxL := 4) (ret := none) (by decide) rfl (Nat.le_of_ble_eq_true rfl) ?_
  intro p e s m below meth c ls S hr hlk hnm hN hK hl
  have S : CallFix p m c cX3_place 4 s _ wsX3_place RX3 := S
  obtain ⟨hx, hb, hml, hown, hts⟩ := id S
  have hS : va_S A s.heap s.heap [] := va_S.rf
  have hl : lv_has ls 4 [(0, .ref (ad (3 + i))), (1, .int x), (2, .int y), (3, .int b)] := hl
  refine lv_aload_n hx hb dX3_place_0 rfl (lv_at hl 0 rfl) ?_
  refine lv_iload_n hx hb dX3_place_1 rfl (lv_at hl 1 rfl) ?_
  refine z_putS (v := .int x) (w := x) (ty := .int) hx hb hts hown in_X3_place_X3 hK hA hS hN (by omega) 0 0 (by decide) rfl (by decide) (hts _ (List.mem_of_getElem? (i := 1) (by decide +kernel))) (by decide +kernel) rfl rfl rfl (fun τ => zSet0 τ _ _) dX3_place_2 (fun H locs hN hS => ?_)
  refine lv_aload_n hx hb dX3_place_5 rfl (lv_at hl 0 rfl) ?_
  refine lv_iload_n hx hb dX3_place_6 rfl (lv_at hl 2 rfl) ?_
  refine z_putS (v := .int y) (w := y) (ty := .int) hx hb hts hown in_X3_place_X3 hK hA hS hN (by omega) 1 1 (by decide) rfl (by decide) (hts _ (List.mem_of_getElem? (i := 2) (by decide +kernel))) (by decide +kernel) rfl rfl rfl (fun τ => zSet1 τ _ _) dX3_place_7 (fun H locs hN hS => ?_)
  refine lv_aload_n hx hb dX3_place_10 rfl (lv_at hl 0 rfl) ?_
  refine lv_iload_n hx hb dX3_place_11 rfl (lv_at hl 3 rfl) ?_
  refine z_putS (v := .int b) (w := b) (ty := .int) hx hb hts hown in_X3_place_X3 hK hA hS hN (by omega) 2 2 (by decide) rfl (by decide) (hts _ (List.mem_of_getElem? (i := 3) (by decide +kernel))) (by decide +kernel) rfl rfl rfl (fun τ => zSet2 τ _ _) dX3_place_12 (fun H locs hN hS => ?_)
  refine lv_aload_n hx hb dX3_place_15 rfl (lv_at hl 0 rfl) ?_
  refine lv_iconst (v := 1) hx hb dX3_place_16 (by decide) ?_
  refine z_putS (v := .int 1) (w := 1) (ty := .boolean) hx hb hts hown in_X3_place_X3 hK hA hS hN (by omega) 3 3 (by decide) rfl (by decide) (hts _ (List.mem_of_getElem? (i := 4) (by decide +kernel))) (by decide +kernel) (by decide) (by decide) rfl (fun τ => zSet3 τ _ (by decide)) dX3_place_17 (fun H locs hN hS => ?_)
  refine lv_aload_n hx hb dX3_place_20 rfl (lv_at hl 0 rfl) ?_
  refine lv_iconst (v := 1) hx hb dX3_place_21 (by decide) ?_
  refine z_putS (v := .int 1) (w := 1) (ty := .boolean) hx hb hts hown in_X3_place_X3 hK hA hS hN (by omega) 4 4 (by decide) rfl (by decide) (hts _ (List.mem_of_getElem? (i := 5) (by decide +kernel))) (by decide +kernel) (by decide) (by decide) rfl (fun τ => zSet4 τ _ (by decide)) dX3_place_22 (fun H locs hN hS => ?_)
  refine lv_aload_n hx hb dX3_place_25 rfl (lv_at hl 0 rfl) ?_
  refine lv_iconst (v := 0) hx hb dX3_place_26 (by decide) ?_
  refine z_putS (v := .int 0) (w := 0) (ty := .int) hx hb hts hown in_X3_place_X3 hK hA hS hN (by omega) 5 5 (by decide) rfl (by decide) (hts _ (List.mem_of_getElem? (i := 6) (by decide +kernel))) (by decide +kernel) rfl rfl rfl (fun τ => zSet5 τ _ _) dX3_place_27 (fun H locs hN hS => ?_)
  refine lv_aload_n hx hb dX3_place_30 rfl (lv_at hl 0 rfl) ?_
  refine lv_bipush (v := -9) hx hb dX3_place_31 (by decide) ?_
  refine z_putS (v := .int (-9)) (w := -9) (ty := .int) hx hb hts hown in_X3_place_X3 hK hA hS hN (by omega) 6 6 (by decide) rfl (by decide) (hts _ (List.mem_of_getElem? (i := 7) (by decide +kernel))) (by decide +kernel) rfl rfl rfl (fun τ => zSet6 τ _ _) dX3_place_33 (fun H locs hN hS => ?_)
  refine lv_aload_n hx hb dX3_place_36 rfl (lv_at hl 0 rfl) ?_
  refine z_vv (As := []) (rest := []) (P2 := zNA G ad n N g X (zBr (zSt (zSt (zSt (zSt (zSt (zSt (zSt τ 0 i x) 1 i y) 2 i b) 3 i 1) 4 i 1) 5 i 0) 6 i (-9)) i)) S (c_X3_beginRound l G A ad n N g X hA hnN hN12  (zSt (zSt (zSt (zSt (zSt (zSt (zSt τ 0 i x) 1 i y) 2 i b) 3 i 1) 4 i 1) 5 i 0) 6 i (-9)) i (by omega)) (cwV 0 hts gX3_place_X3_beginRound rfl rfl rfl (by decide +kernel) ⟨Nat.le_of_ble_eq_true rfl, Nat.le_of_ble_eq_true rfl⟩) (z_recS hK hN (by omega)) hN hK hS (fun _ _ h => h) (fun _ h => h) hl.1 rfl rfl (Nat.le_of_ble_eq_true rfl) dX3_place_37 ⟨Nat.le_refl _, Nat.le_refl _⟩ (fun H locs hN hS _ => ?_)
  exact z_vret hx hb hr hlk hK hS (hN.cast (by first | with_reducible rfl | (simp only [zPlc, eq_self, ne_eq, not_true_eq_false, not_false_eq_true, and_true, true_and, and_self, and_false, false_and, true_or, or_true, false_or, or_false, reduceIte]; done) | (simp [zPlc]; done) | rfl | (simp_all [zPlc]; done))) dX3_place_40

theorem in_X1_copyFrom_X1 : ∀ w ∈ wsX10, w ∈ wsX1_copyFrom := by decide +kernel
set_option maxHeartbeats 4000000 in
set_option maxRecDepth 100000 in
theorem c_X1_copyFrom (l : Launch) (G : zG) (A : Nat → Prop) (ad bd : Nat → Nat) (n n2 N : Nat) (g g2 : Nat → Int32) (τb : zT) (hA : zAp G ad (zNet G bd n2 g2 τb) A) (hn2 : n2 ≤ 12) (hN12 : N ≤ 12) (τ : zT) : zMv l G A yX1_copyFrom wsX1_copyFrom 1 21 [.ref (ad 0), .ref (bd 0)] (zNA G ad n N g (zNet G bd n2 g2 τb) τ) (zNA G ad n2 N g2 (zNet G bd n2 g2 τb) (zCpG τb (zIt (zCpS τb) n2 τ))) := by
  refine z_met (cc := cX1_copyFrom) (maxL := 3) (ret := none) (by decide) rfl (Nat.le_of_ble_eq_true rfl) ?_
  intro p e s m below meth c ls S hr hlk hnm hN hK hl
  have S : CallFix p m c cX1_copyFrom 3 s _ wsX1_copyFrom RX1 := S
  obtain ⟨hx, hb, hml, hown, hts⟩ := id S
  have hNb := hN.other
  have hS : va_S A s.heap s.heap [] := va_S.rf
  have hl : lv_has ls 3 [(0, .ref (ad 0)), (1, .ref (bd 0))] := hl
  refine lv_aload_n hx hb dX1_copyFrom_0 rfl (lv_at hl 0 rfl) ?_
  refine lv_aload_n hx hb dX1_copyFrom_1 rfl (lv_at hl 1 rfl) ?_
  refine z_getO (v := .int (nI n2)) hx hb hts hown in_X1_copyFrom_X1 hK hNb 2 (by decide) rfl (hts _ (List.mem_of_getElem? (i := 1) (by decide +kernel))) rfl dX1_copyFrom_2 ?_
  refine z_putC (w := nI n2) hx hb hts hown in_X1_copyFrom_X1 hK hA hS hN 2 (by decide) rfl (hts _ (List.mem_of_getElem? (i := 1) (by decide +kernel))) (by decide +kernel) n2 g (by intro j hj; first | rfl | (unfold upd; rw [if_neg (by omega)])) rfl (by intro τ; first | rfl | simp [zObj, upd]) dX1_copyFrom_5 (fun H locs hN hS => ?_)
  have hNb := hN.other
  refine lv_iconst (v := 0) hx hb dX1_copyFrom_8 (by decide) ?_
  refine lv_istore_n (lv' := [(2, .int 0), (0, .ref (ad 0)), (1, .ref (bd 0))]) hx hb dX1_copyFrom_9 rfl hl (by decide) rfl (fun ls hl => ?_)
  have loop1 : ∀ (f1 k : Nat) (H : Heap) (locs : List Loc) (ls : Array Slot), k ≤ n2 → n2 < k + f1 → zNA G ad n2 N g (zNet G bd n2 g2 τb) (zIt (zCpS τb) k τ) H → va_S A s.heap H locs → lv_has ls 3 [(2, .int (nI k)), (0, .ref (ad 0)), (1, .ref (bd 0))] → W p l e ({ frames := 1, cells := 0, slots := 0, locals := 21 } : Room) s m ([.ref (ad 0), .ref (bd 0)] : List Value).toArray below meth c H locs 0 0 (MQ below (zQv G (zNA G ad n2 N g2 (zNet G bd n2 g2 τb) (zCpG τb (zIt (zCpS τb) n2 τ))) A) ([.ref (ad 0), .ref (bd 0)] : List Value).toArray s 0 0 A) (F0 m 10 ls []) := by
    intro f1
    induction f1 with
    | zero => intro k H locs ls h1 h2; exact absurd h2 (by omega)
    | succ f1 ih1 =>
      intro k H locs ls hk1 hf1 hN hS hl
      have hNb := hN.other
      generalize hF_τk : zIt (zCpS τb) k τ = τk at hN hl 
      refine lv_iload_n hx hb dX1_copyFrom_10 rfl (lv_at hl 0 rfl) ?_
      refine lv_aload_n hx hb dX1_copyFrom_11 rfl (lv_at hl 1 rfl) ?_
      refine z_getO (v := .int (nI n2)) hx hb hts hown in_X1_copyFrom_X1 hK hN 2 (by decide) rfl (hts _ (List.mem_of_getElem? (i := 1) (by decide +kernel))) rfl dX1_copyFrom_12 ?_
      refine lv_icmp_ge (tgt := 39) hx hb dX1_copyFrom_15 (by decide) (fun c_1 => ?_) (fun c_2 => ?_)
      · skip
        have c_1 := (z_leI (a := n2) (b := k) (by omega) (by omega)).mp c_1
        have hkn1 : k = n2 := by omega
        rw [hkn1] at hF_τk
        subst hF_τk
        refine lv_aload_n hx hb dX1_copyFrom_39 rfl (lv_at hl 2 rfl) ?_
        refine z_getO (v := .ref (bd 2)) hx hb hts hown in_X1_copyFrom_X1 hK hNb 1 (by decide) rfl (hts _ (List.mem_of_getElem? (i := 3) (by decide +kernel))) rfl dX1_copyFrom_40 ?_
        refine lv_iconst (v := 0) hx hb dX1_copyFrom_43 (by decide) ?_
        refine lv_aload_n hx hb dX1_copyFrom_44 rfl (lv_at hl 1 rfl) ?_
        refine z_getO (v := .ref (ad 2)) hx hb hts hown in_X1_copyFrom_X1 hK hN 1 (by decide) rfl (hts _ (List.mem_of_getElem? (i := 3) (by decide +kernel))) rfl dX1_copyFrom_45 ?_
        refine lv_iconst (v := 0) hx hb dX1_copyFrom_48 (by decide) ?_
        refine lv_bipush (v := 6) hx hb dX1_copyFrom_49 (by decide) ?_
        refine z_acp hx hb (hml.trans hl.1.symm) hown (hts _ (List.mem_of_getElem? (i := 4) (by decide +kernel))) (hts _ (List.mem_of_getElem? (i := 5) (by decide +kernel))) (hts _ (List.mem_of_getElem? (i := 6) (by decide +kernel))) (hts _ (List.mem_of_getElem? (i := 7) (by decide +kernel))) hK hA hS hN (Nat.le_of_ble_eq_true rfl) (Nat.le_of_ble_eq_true rfl) dX1_copyFrom_51 (fun H locs hN hS => ?_)
        have hNb := hN.other
        refine lv_aload_n hx hb dX1_copyFrom_54 rfl (lv_at hl 1 rfl) ?_
        refine lv_aload_n hx hb dX1_copyFrom_55 rfl (lv_at hl 2 rfl) ?_
        refine z_getO (v := .int (g2 1)) hx hb hts hown in_X1_copyFrom_X1 hK hNb 3 (by decide) rfl (hts _ (List.mem_of_getElem? (i := 8) (by decide +kernel))) rfl dX1_copyFrom_56 ?_
        refine z_putC (w := g2 1) hx hb hts hown in_X1_copyFrom_X1 hK hA hS hN 3 (by decide) rfl (hts _ (List.mem_of_getElem? (i := 8) (by decide +kernel))) (by decide +kernel) n2 (upd (fun j => if 3 ≤ j ∧ j < 9 then g2 j else g j) 1 (g2 1)) (by intro j hj; first | rfl | (unfold upd; rw [if_neg (by omega)])) rfl (by intro τ; first | rfl | simp [zObj, upd]) dX1_copyFrom_59 (fun H locs hN hS => ?_)
        have hNb := hN.other
        refine lv_aload_n hx hb dX1_copyFrom_62 rfl (lv_at hl 1 rfl) ?_
        refine lv_aload_n hx hb dX1_copyFrom_63 rfl (lv_at hl 2 rfl) ?_
        refine z_getO (v := .int (g2 2)) hx hb hts hown in_X1_copyFrom_X1 hK hNb 4 (by decide) rfl (hts _ (List.mem_of_getElem? (i := 9) (by decide +kernel))) rfl dX1_copyFrom_64 ?_
        refine z_putC (w := g2 2) hx hb hts hown in_X1_copyFrom_X1 hK hA hS hN 4 (by decide) rfl (hts _ (List.mem_of_getElem? (i := 9) (by decide +kernel))) (by decide +kernel) n2 (upd (upd (fun j => if 3 ≤ j ∧ j < 9 then g2 j else g j) 1 (g2 1)) 2 (g2 2)) (by intro j hj; first | rfl | (unfold upd; rw [if_neg (by omega)])) rfl (by intro τ; first | rfl | simp [zObj, upd]) dX1_copyFrom_67 (fun H locs hN hS => ?_)
        have hNb := hN.other
        refine lv_aload_n hx hb dX1_copyFrom_70 rfl (lv_at hl 1 rfl) ?_
        refine lv_aload_n hx hb dX1_copyFrom_71 rfl (lv_at hl 2 rfl) ?_
        refine z_getO (v := .int (τb 11 9)) hx hb hts hown in_X1_copyFrom_X1 hK hNb 5 (by decide) rfl (hts _ (List.mem_of_getElem? (i := 10) (by decide +kernel))) rfl dX1_copyFrom_72 ?_
        refine z_putO (w := τb 11 9) hx hb hts hown in_X1_copyFrom_X1 hK hA hS hN 5 9 (by decide) rfl (hts _ (List.mem_of_getElem? (i := 10) (by decide +kernel))) (by decide +kernel) rfl (fun τ => zObs5 ad _ _ τ _) dX1_copyFrom_75 (fun H locs hN hS => ?_)
        have hNb := hN.other
        refine lv_aload_n hx hb dX1_copyFrom_78 rfl (lv_at hl 1 rfl) ?_
        refine lv_aload_n hx hb dX1_copyFrom_79 rfl (lv_at hl 2 rfl) ?_
        refine z_getO (v := .int (τb 11 10)) hx hb hts hown in_X1_copyFrom_X1 hK hNb 6 (by decide) rfl (hts _ (List.mem_of_getElem? (i := 11) (by decide +kernel))) rfl dX1_copyFrom_80 ?_
        refine z_putO (w := τb 11 10) hx hb hts hown in_X1_copyFrom_X1 hK hA hS hN 6 10 (by decide) rfl (hts _ (List.mem_of_getElem? (i := 11) (by decide +kernel))) (by decide +kernel) rfl (fun τ => zObs6 ad _ _ τ _) dX1_copyFrom_83 (fun H locs hN hS => ?_)
        have hNb := hN.other
        refine lv_aload_n hx hb dX1_copyFrom_86 rfl (lv_at hl 1 rfl) ?_
        refine lv_aload_n hx hb dX1_copyFrom_87 rfl (lv_at hl 2 rfl) ?_
        refine z_getO (v := .int (τb 11 11)) hx hb hts hown in_X1_copyFrom_X1 hK hNb 7 (by decide) rfl (hts _ (List.mem_of_getElem? (i := 12) (by decide +kernel))) rfl dX1_copyFrom_88 ?_
        refine z_putO (w := τb 11 11) hx hb hts hown in_X1_copyFrom_X1 hK hA hS hN 7 11 (by decide) rfl (hts _ (List.mem_of_getElem? (i := 12) (by decide +kernel))) (by decide +kernel) rfl (fun τ => zObs7 ad _ _ τ _) dX1_copyFrom_91 (fun H locs hN hS => ?_)
        have hNb := hN.other
        refine lv_aload_n hx hb dX1_copyFrom_94 rfl (lv_at hl 1 rfl) ?_
        refine lv_aload_n hx hb dX1_copyFrom_95 rfl (lv_at hl 2 rfl) ?_
        refine z_getO (v := .int (τb 11 12)) hx hb hts hown in_X1_copyFrom_X1 hK hNb 8 (by decide) rfl (hts _ (List.mem_of_getElem? (i := 13) (by decide +kernel))) rfl dX1_copyFrom_96 ?_
        refine z_putO (w := τb 11 12) hx hb hts hown in_X1_copyFrom_X1 hK hA hS hN 8 12 (by decide) rfl (hts _ (List.mem_of_getElem? (i := 13) (by decide +kernel))) (by decide +kernel) rfl (fun τ => zObs8 ad _ _ τ _) dX1_copyFrom_99 (fun H locs hN hS => ?_)
        have hNb := hN.other
        refine lv_aload_n hx hb dX1_copyFrom_102 rfl (lv_at hl 1 rfl) ?_
        refine lv_aload_n hx hb dX1_copyFrom_103 rfl (lv_at hl 2 rfl) ?_
        refine z_getO (v := .int (τb 11 13)) hx hb hts hown in_X1_copyFrom_X1 hK hNb 9 (by decide) rfl (hts _ (List.mem_of_getElem? (i := 14) (by decide +kernel))) rfl dX1_copyFrom_104 ?_
        refine z_putO (w := τb 11 13) hx hb hts hown in_X1_copyFrom_X1 hK hA hS hN 9 13 (by decide) rfl (hts _ (List.mem_of_getElem? (i := 14) (by decide +kernel))) (by decide +kernel) rfl (fun τ => zObs9 ad _ _ τ _) dX1_copyFrom_107 (fun H locs hN hS => ?_)
        have hNb := hN.other
        refine lv_aload_n hx hb dX1_copyFrom_110 rfl (lv_at hl 1 rfl) ?_
        refine lv_aload_n hx hb dX1_copyFrom_111 rfl (lv_at hl 2 rfl) ?_
        refine z_getO (v := .int (τb 11 14)) hx hb hts hown in_X1_copyFrom_X1 hK hNb 10 (by decide) rfl (hts _ (List.mem_of_getElem? (i := 15) (by decide +kernel))) rfl dX1_copyFrom_112 ?_
        refine z_putO (w := τb 11 14) hx hb hts hown in_X1_copyFrom_X1 hK hA hS hN 10 14 (by decide) rfl (hts _ (List.mem_of_getElem? (i := 15) (by decide +kernel))) (by decide +kernel) rfl (fun τ => zObs10 ad _ _ τ _) dX1_copyFrom_115 (fun H locs hN hS => ?_)
        have hNb := hN.other
        exact z_vret hx hb hr hlk hK hS ((hN.cast (by first | with_reducible rfl | (simp only [zCpG, c_1, eq_self, ne_eq, not_true_eq_false, not_false_eq_true, and_true, true_and, and_self, and_false, false_and, true_or, or_true, false_or, or_false, reduceIte]; done) | (simp [zCpG, c_1]; done) | rfl | (simp_all [zCpG]; done))).gext (zGg g g2)) dX1_copyFrom_118
      · skip
        have c_2 := (not_congr (z_leI (a := n2) (b := k) (by omega) (by omega))).mp c_2
        refine lv_aload_n hx hb dX1_copyFrom_18 rfl (lv_at hl 1 rfl) ?_
        refine z_getO (v := .ref (ad 1)) hx hb hts hown in_X1_copyFrom_X1 hK hN 0 (by decide) rfl (hts _ (List.mem_of_getElem? (i := 2) (by decide +kernel))) rfl dX1_copyFrom_19 ?_
        refine lv_iload_n hx hb dX1_copyFrom_22 rfl (lv_at hl 0 rfl) ?_
        refine z_aald (i := k) hx hb hK hN rfl (by omega) dX1_copyFrom_23 ?_
        refine lv_aload_n hx hb dX1_copyFrom_24 rfl (lv_at hl 2 rfl) ?_
        refine z_getO (v := .ref (bd 1)) hx hb hts hown in_X1_copyFrom_X1 hK hNb 0 (by decide) rfl (hts _ (List.mem_of_getElem? (i := 2) (by decide +kernel))) rfl dX1_copyFrom_25 ?_
        refine lv_iload_n hx hb dX1_copyFrom_28 rfl (lv_at hl 0 rfl) ?_
        refine z_aald (i := k) hx hb hK hNb rfl (by omega) dX1_copyFrom_29 ?_
        refine z_vv (As := [.ref (bd (3 + k))]) (rest := []) (P2 := zNA G ad n2 N g (zNet G bd n2 g2 τb) (zCpS τb k τk)) S (c_X3_copyFrom l G A ad bd n2 n2 N g g2 τb hA hN12 τk k (by omega)) (cwV 1 hts gX1_copyFrom_X3_copyFrom rfl rfl rfl (by decide +kernel) ⟨Nat.le_of_ble_eq_true rfl, Nat.le_of_ble_eq_true rfl⟩) (z_recS hK hN (by omega)) hN hK hS (fun _ _ h => h) (fun _ h => h) hl.1 rfl rfl (Nat.le_of_ble_eq_true rfl) dX1_copyFrom_30 ⟨Nat.le_refl _, Nat.le_refl _⟩ (fun H locs hN hS _ => ?_)
        have hNb := hN.other
        refine lv_iinc (v := nI (k + 1)) (lv' := [(2, .int (nI (k + 1))), (0, .ref (ad 0)), (1, .ref (bd 0))]) hx hb dX1_copyFrom_33 hl (k := 0) rfl (nI_1 _) (by decide) rfl (fun ls hl => ?_)
        refine lv_goto (tgt := 10) hx hb dX1_copyFrom_36 (by decide) ?_
        have e_3 : zIt (zCpS τb) (k + 1) τ = zCpS τb k τk := by
          rw [zIt_s, hF_τk] <;> (first | with_reducible rfl | (simp only [c_2, eq_self, ne_eq, not_true_eq_false, not_false_eq_true, and_true, true_and, and_self, and_false, false_and, true_or, or_true, false_or, or_false, reduceIte]; done) | (simp [c_2]; done) | rfl | (simp_all []; done))
        refine ih1 (k + 1) _ _ _ (by omega) (by omega) ?_ hS ?_
        · first | exact hN | (rw [e_3]; exact hN)
        · first | exact lv_sub hl [0, 1, 2] rfl | (rw [e_3]; exact lv_sub hl [0, 1, 2] rfl)
  exact loop1 (n2 + 1) 0 _ _ _ (by omega) (by omega) hN hS (lv_sub hl [0, 1, 2] rfl)
end
section
set_option maxRecDepth 20000 in
theorem ggX4_init_X1_init : GoodIn wsX4_init wsX1_init := goodIn_r _ [23, 24, 2, 3, 25, 26, 27, 28, 29, 30, 31, 32, 33, 34, 35, 36, 37, 38, 39, 40, 41, 54, 55, 56, 57, 58, 59, 60, 61, 62, 63, 64, 75, 76, 77, 78, 79, 80, 81, 82, 83, 84, 85] (by decide +kernel) (by decide +kernel)
set_option maxRecDepth 20000 in
theorem gX4_init_X1_init : GoodIn wsX4_init (wsX1_init) := ggX4_init_X1_init
set_option maxRecDepth 20000 in
theorem ggX4_init_X2_init : GoodIn wsX4_init wsX2_init := goodIn_r _ [44, 45, 2, 3, 46, 72] (by decide +kernel) (by decide +kernel)
set_option maxRecDepth 20000 in
theorem gX4_init_X2_init : GoodIn wsX4_init (wsX2_init) := ggX4_init_X2_init
set_option maxRecDepth 20000 in
theorem ggX4_init_X0_init : GoodIn wsX4_init wsX0_init := goodIn_r _ [49, 50, 2, 3, 51, 52, 5, 6, 53, 22, 23, 24, 25, 26, 27, 28, 29, 30, 31, 32, 33, 34, 35, 36, 37, 38, 39, 40, 41, 73, 74, 54, 55, 56, 57, 58, 59, 60, 61, 62, 63, 64, 75, 76, 77, 78, 79, 80, 81, 82, 83, 84, 85] (by decide +kernel) (by decide +kernel)
set_option maxRecDepth 20000 in
theorem gX4_init_X0_init : GoodIn wsX4_init (wsX0_init) := ggX4_init_X0_init
theorem dX4_init_0 : decode cX4_init 0 = .ok (.aload_n 0, 1) := by decide +kernel
theorem dX4_init_1 : decode cX4_init 1 = .ok (.invokespecial 1, 3) := by decide +kernel
theorem dX4_init_4 : decode cX4_init 4 = .ok (.aload_n 0, 1) := by decide +kernel
theorem dX4_init_5 : decode cX4_init 5 = .ok (.new 7, 3) := by decide +kernel
theorem dX4_init_8 : decode cX4_init 8 = .ok (.dup, 1) := by decide +kernel
theorem dX4_init_9 : decode cX4_init 9 = .ok (.invokespecial 9, 3) := by decide +kernel
theorem dX4_init_12 : decode cX4_init 12 = .ok (.putfield 10, 3) := by decide +kernel
theorem dX4_init_15 : decode cX4_init 15 = .ok (.aload_n 0, 1) := by decide +kernel
theorem dX4_init_16 : decode cX4_init 16 = .ok (.new 16, 3) := by decide +kernel
theorem dX4_init_19 : decode cX4_init 19 = .ok (.dup, 1) := by decide +kernel
theorem dX4_init_20 : decode cX4_init 20 = .ok (.aload_n 0, 1) := by decide +kernel
theorem dX4_init_21 : decode cX4_init 21 = .ok (.getfield 10, 3) := by decide +kernel
theorem dX4_init_24 : decode cX4_init 24 = .ok (.invokespecial 18, 3) := by decide +kernel
theorem dX4_init_27 : decode cX4_init 27 = .ok (.putfield 21, 3) := by decide +kernel
theorem dX4_init_30 : decode cX4_init 30 = .ok (.aload_n 0, 1) := by decide +kernel
theorem dX4_init_31 : decode cX4_init 31 = .ok (.new 7, 3) := by decide +kernel
theorem dX4_init_34 : decode cX4_init 34 = .ok (.dup, 1) := by decide +kernel
theorem dX4_init_35 : decode cX4_init 35 = .ok (.invokespecial 9, 3) := by decide +kernel
theorem dX4_init_38 : decode cX4_init 38 = .ok (.putfield 25, 3) := by decide +kernel
theorem dX4_init_41 : decode cX4_init 41 = .ok (.aload_n 0, 1) := by decide +kernel
theorem dX4_init_42 : decode cX4_init 42 = .ok (.new 16, 3) := by decide +kernel
theorem dX4_init_45 : decode cX4_init 45 = .ok (.dup, 1) := by decide +kernel
theorem dX4_init_46 : decode cX4_init 46 = .ok (.aload_n 0, 1) := by decide +kernel
theorem dX4_init_47 : decode cX4_init 47 = .ok (.getfield 25, 3) := by decide +kernel
theorem dX4_init_50 : decode cX4_init 50 = .ok (.invokespecial 18, 3) := by decide +kernel
theorem dX4_init_53 : decode cX4_init 53 = .ok (.putfield 28, 3) := by decide +kernel
theorem dX4_init_56 : decode cX4_init 56 = .ok (.aload_n 0, 1) := by decide +kernel
theorem dX4_init_57 : decode cX4_init 57 = .ok (.new 31, 3) := by decide +kernel
theorem dX4_init_60 : decode cX4_init 60 = .ok (.dup, 1) := by decide +kernel
theorem dX4_init_61 : decode cX4_init 61 = .ok (.invokespecial 33, 3) := by decide +kernel
theorem dX4_init_64 : decode cX4_init 64 = .ok (.putfield 34, 3) := by decide +kernel
theorem dX4_init_67 : decode cX4_init 67 = .ok (.aload_n 0, 1) := by decide +kernel
theorem dX4_init_68 : decode cX4_init 68 = .ok (.iconst 2, 1) := by decide +kernel
theorem dX4_init_69 : decode cX4_init 69 = .ok (.anewarray 7, 3) := by decide +kernel
theorem dX4_init_72 : decode cX4_init 72 = .ok (.putfield 38, 3) := by decide +kernel
theorem dX4_init_75 : decode cX4_init 75 = .ok (.iconst 0, 1) := by decide +kernel
theorem dX4_init_76 : decode cX4_init 76 = .ok (.istore_n 1, 1) := by decide +kernel
theorem dX4_init_77 : decode cX4_init 77 = .ok (.iload_n 1, 1) := by decide +kernel
theorem dX4_init_78 : decode cX4_init 78 = .ok (.iconst 2, 1) := by decide +kernel
theorem dX4_init_79 : decode cX4_init 79 = .ok (.if_icmp .ge 22, 3) := by decide +kernel
theorem dX4_init_82 : decode cX4_init 82 = .ok (.aload_n 0, 1) := by decide +kernel
theorem dX4_init_83 : decode cX4_init 83 = .ok (.getfield 38, 3) := by decide +kernel
theorem dX4_init_86 : decode cX4_init 86 = .ok (.iload_n 1, 1) := by decide +kernel
theorem dX4_init_87 : decode cX4_init 87 = .ok (.new 7, 3) := by decide +kernel
theorem dX4_init_90 : decode cX4_init 90 = .ok (.dup, 1) := by decide +kernel
theorem dX4_init_91 : decode cX4_init 91 = .ok (.invokespecial 9, 3) := by decide +kernel
theorem dX4_init_94 : decode cX4_init 94 = .ok (.aastore, 1) := by decide +kernel
theorem dX4_init_95 : decode cX4_init 95 = .ok (.iinc 1 1, 3) := by decide +kernel
theorem dX4_init_98 : decode cX4_init 98 = .ok (.goto (-21), 3) := by decide +kernel
theorem dX4_init_101 : decode cX4_init 101 = .ok (.aload_n 0, 1) := by decide +kernel
theorem dX4_init_102 : decode cX4_init 102 = .ok (.iconst 2, 1) := by decide +kernel
theorem dX4_init_103 : decode cX4_init 103 = .ok (.newarray .boolean, 2) := by decide +kernel
theorem dX4_init_105 : decode cX4_init 105 = .ok (.putfield 42, 3) := by decide +kernel
theorem dX4_init_108 : decode cX4_init 108 = .ok (.return_, 1) := by decide +kernel
set_option maxRecDepth 20000 in
theorem ggX4_addSensor_X4_inRange : GoodIn wsX4_addSensor wsX4_inRange := goodIn_r _ [9] (by decide +kernel) (by decide +kernel)
set_option maxRecDepth 20000 in
theorem gX4_addSensor_X4_inRange : GoodIn wsX4_addSensor (va_wsS RX4 46 yX4_inRange wsX4_inRange) := goodIn_app (goodIn_of _ (by decide +kernel)) ggX4_addSensor_X4_inRange
set_option maxRecDepth 20000 in
theorem ggX4_addSensor_X0_push : GoodIn wsX4_addSensor wsX0_push := goodIn_r _ [14, 15, 16, 17, 18, 19, 13, 20, 21, 22, 23, 24, 25, 26, 27, 28, 29, 30, 31, 32, 33, 34, 35, 36, 37, 38, 39, 40, 41, 42, 43, 44, 45, 46, 47, 48, 49, 50, 51, 52, 53, 54, 83, 84, 72, 73, 74, 75, 76, 77, 78, 79, 80, 81, 82, 85, 86, 87, 88, 89, 90, 91, 92, 93, 94, 95] (by decide +kernel) (by decide +kernel)
set_option maxRecDepth 20000 in
theorem gX4_addSensor_X0_push : GoodIn wsX4_addSensor (wsV RX4 55 RX0 yX0_push wsX0_push) := goodIn_app (goodIn_of _ (by decide +kernel)) ggX4_addSensor_X0_push
set_option maxRecDepth 20000 in
theorem ggX4_addSensor_X3_place : GoodIn wsX4_addSensor wsX3_place := goodIn_r _ [58, 46, 47, 48, 49, 50, 51, 52, 59, 60, 61, 44, 62, 53, 54, 63, 64, 85, 86, 87, 88, 89, 90, 91, 92, 93, 94, 95] (by decide +kernel) (by decide +kernel)
set_option maxRecDepth 20000 in
theorem gX4_addSensor_X3_place : GoodIn wsX4_addSensor (wsV RX4 62 RX3 yX3_place wsX3_place) := goodIn_app (goodIn_of _ (by decide +kernel)) ggX4_addSensor_X3_place
theorem dX4_addSensor_0 : decode cX4_addSensor 0 = .ok (.iload_n 1, 1) := by decide +kernel
theorem dX4_addSensor_1 : decode cX4_addSensor 1 = .ok (.iconst 0, 1) := by decide +kernel
theorem dX4_addSensor_2 : decode cX4_addSensor 2 = .ok (.bipush 99, 2) := by decide +kernel
theorem dX4_addSensor_4 : decode cX4_addSensor 4 = .ok (.invokestatic 46, 3) := by decide +kernel
theorem dX4_addSensor_7 : decode cX4_addSensor 7 = .ok (.ifCond .eq 23, 3) := by decide +kernel
theorem dX4_addSensor_10 : decode cX4_addSensor 10 = .ok (.iload_n 2, 1) := by decide +kernel
theorem dX4_addSensor_11 : decode cX4_addSensor 11 = .ok (.iconst 0, 1) := by decide +kernel
theorem dX4_addSensor_12 : decode cX4_addSensor 12 = .ok (.bipush 99, 2) := by decide +kernel
theorem dX4_addSensor_14 : decode cX4_addSensor 14 = .ok (.invokestatic 46, 3) := by decide +kernel
theorem dX4_addSensor_17 : decode cX4_addSensor 17 = .ok (.ifCond .eq 13, 3) := by decide +kernel
theorem dX4_addSensor_20 : decode cX4_addSensor 20 = .ok (.iload_n 3, 1) := by decide +kernel
theorem dX4_addSensor_21 : decode cX4_addSensor 21 = .ok (.iconst 0, 1) := by decide +kernel
theorem dX4_addSensor_22 : decode cX4_addSensor 22 = .ok (.ldc 50, 2) := by decide +kernel
theorem dX4_addSensor_24 : decode cX4_addSensor 24 = .ok (.invokestatic 46, 3) := by decide +kernel
theorem dX4_addSensor_27 : decode cX4_addSensor 27 = .ok (.ifCond .ne 5, 3) := by decide +kernel
theorem dX4_addSensor_30 : decode cX4_addSensor 30 = .ok (.iconst (-1), 1) := by decide +kernel
theorem dX4_addSensor_31 : decode cX4_addSensor 31 = .ok (.ireturn, 1) := by decide +kernel
theorem dX4_addSensor_32 : decode cX4_addSensor 32 = .ok (.aload_n 0, 1) := by decide +kernel
theorem dX4_addSensor_33 : decode cX4_addSensor 33 = .ok (.getfield 10, 3) := by decide +kernel
theorem dX4_addSensor_36 : decode cX4_addSensor 36 = .ok (.getfield 51, 3) := by decide +kernel
theorem dX4_addSensor_39 : decode cX4_addSensor 39 = .ok (.bipush 12, 2) := by decide +kernel
theorem dX4_addSensor_41 : decode cX4_addSensor 41 = .ok (.if_icmp .lt 6, 3) := by decide +kernel
theorem dX4_addSensor_44 : decode cX4_addSensor 44 = .ok (.bipush (-3), 2) := by decide +kernel
theorem dX4_addSensor_46 : decode cX4_addSensor 46 = .ok (.ireturn, 1) := by decide +kernel
theorem dX4_addSensor_47 : decode cX4_addSensor 47 = .ok (.aload_n 0, 1) := by decide +kernel
theorem dX4_addSensor_48 : decode cX4_addSensor 48 = .ok (.getfield 34, 3) := by decide +kernel
theorem dX4_addSensor_51 : decode cX4_addSensor 51 = .ok (.aload_n 0, 1) := by decide +kernel
theorem dX4_addSensor_52 : decode cX4_addSensor 52 = .ok (.getfield 10, 3) := by decide +kernel
theorem dX4_addSensor_55 : decode cX4_addSensor 55 = .ok (.invokevirtual 55, 3) := by decide +kernel
theorem dX4_addSensor_58 : decode cX4_addSensor 58 = .ok (.aload_n 0, 1) := by decide +kernel
theorem dX4_addSensor_59 : decode cX4_addSensor 59 = .ok (.getfield 10, 3) := by decide +kernel
theorem dX4_addSensor_62 : decode cX4_addSensor 62 = .ok (.getfield 58, 3) := by decide +kernel
theorem dX4_addSensor_65 : decode cX4_addSensor 65 = .ok (.aload_n 0, 1) := by decide +kernel
theorem dX4_addSensor_66 : decode cX4_addSensor 66 = .ok (.getfield 10, 3) := by decide +kernel
theorem dX4_addSensor_69 : decode cX4_addSensor 69 = .ok (.getfield 51, 3) := by decide +kernel
theorem dX4_addSensor_72 : decode cX4_addSensor 72 = .ok (.aaload, 1) := by decide +kernel
theorem dX4_addSensor_73 : decode cX4_addSensor 73 = .ok (.iload_n 1, 1) := by decide +kernel
theorem dX4_addSensor_74 : decode cX4_addSensor 74 = .ok (.iload_n 2, 1) := by decide +kernel
theorem dX4_addSensor_75 : decode cX4_addSensor 75 = .ok (.iload_n 3, 1) := by decide +kernel
theorem dX4_addSensor_76 : decode cX4_addSensor 76 = .ok (.invokevirtual 62, 3) := by decide +kernel
theorem dX4_addSensor_79 : decode cX4_addSensor 79 = .ok (.aload_n 0, 1) := by decide +kernel
theorem dX4_addSensor_80 : decode cX4_addSensor 80 = .ok (.getfield 10, 3) := by decide +kernel
theorem dX4_addSensor_83 : decode cX4_addSensor 83 = .ok (.dup, 1) := by decide +kernel
theorem dX4_addSensor_84 : decode cX4_addSensor 84 = .ok (.getfield 51, 3) := by decide +kernel
theorem dX4_addSensor_87 : decode cX4_addSensor 87 = .ok (.iconst 1, 1) := by decide +kernel
theorem dX4_addSensor_88 : decode cX4_addSensor 88 = .ok (.iadd, 1) := by decide +kernel
theorem dX4_addSensor_89 : decode cX4_addSensor 89 = .ok (.putfield 51, 3) := by decide +kernel
theorem dX4_addSensor_92 : decode cX4_addSensor 92 = .ok (.aload_n 0, 1) := by decide +kernel
theorem dX4_addSensor_93 : decode cX4_addSensor 93 = .ok (.getfield 10, 3) := by decide +kernel
theorem dX4_addSensor_96 : decode cX4_addSensor 96 = .ok (.getfield 51, 3) := by decide +kernel
theorem dX4_addSensor_99 : decode cX4_addSensor 99 = .ok (.iconst 1, 1) := by decide +kernel
theorem dX4_addSensor_100 : decode cX4_addSensor 100 = .ok (.isub, 1) := by decide +kernel
theorem dX4_addSensor_101 : decode cX4_addSensor 101 = .ok (.ireturn, 1) := by decide +kernel
set_option maxRecDepth 20000 in
theorem ggX4_setSetting_X4_inRange : GoodIn wsX4_setSetting wsX4_inRange := goodIn_r _ [9] (by decide +kernel) (by decide +kernel)
set_option maxRecDepth 20000 in
theorem gX4_setSetting_X4_inRange : GoodIn wsX4_setSetting (va_wsS RX4 46 yX4_inRange wsX4_inRange) := goodIn_app (goodIn_of _ (by decide +kernel)) ggX4_setSetting_X4_inRange
set_option maxRecDepth 20000 in
theorem ggX4_setSetting_X0_push : GoodIn wsX4_setSetting wsX0_push := goodIn_r _ [14, 15, 16, 17, 18, 19, 13, 20, 21, 22, 23, 24, 25, 26, 27, 28, 29, 30, 31, 32, 33, 34, 35, 36, 37, 38, 39, 40, 41, 42, 43, 44, 45, 46, 47, 48, 49, 50, 51, 52, 53, 54, 73, 74, 62, 63, 64, 65, 66, 67, 68, 69, 70, 71, 72, 75, 76, 77, 78, 79, 80, 81, 82, 83, 84, 85] (by decide +kernel) (by decide +kernel)
set_option maxRecDepth 20000 in
theorem gX4_setSetting_X0_push : GoodIn wsX4_setSetting (wsV RX4 55 RX0 yX0_push wsX0_push) := goodIn_app (goodIn_of _ (by decide +kernel)) ggX4_setSetting_X0_push
theorem dX4_setSetting_0 : decode cX4_setSetting 0 = .ok (.iload_n 1, 1) := by decide +kernel
theorem dX4_setSetting_1 : decode cX4_setSetting 1 = .ok (.iconst 0, 1) := by decide +kernel
theorem dX4_setSetting_2 : decode cX4_setSetting 2 = .ok (.iconst 5, 1) := by decide +kernel
theorem dX4_setSetting_3 : decode cX4_setSetting 3 = .ok (.invokestatic 46, 3) := by decide +kernel
theorem dX4_setSetting_6 : decode cX4_setSetting 6 = .ok (.ifCond .eq 20, 3) := by decide +kernel
theorem dX4_setSetting_9 : decode cX4_setSetting 9 = .ok (.iload_n 2, 1) := by decide +kernel
theorem dX4_setSetting_10 : decode cX4_setSetting 10 = .ok (.getstatic 74, 3) := by decide +kernel
theorem dX4_setSetting_13 : decode cX4_setSetting 13 = .ok (.iload_n 1, 1) := by decide +kernel
theorem dX4_setSetting_14 : decode cX4_setSetting 14 = .ok (.iaload, 1) := by decide +kernel
theorem dX4_setSetting_15 : decode cX4_setSetting 15 = .ok (.getstatic 78, 3) := by decide +kernel
theorem dX4_setSetting_18 : decode cX4_setSetting 18 = .ok (.iload_n 1, 1) := by decide +kernel
theorem dX4_setSetting_19 : decode cX4_setSetting 19 = .ok (.iaload, 1) := by decide +kernel
theorem dX4_setSetting_20 : decode cX4_setSetting 20 = .ok (.invokestatic 46, 3) := by decide +kernel
theorem dX4_setSetting_23 : decode cX4_setSetting 23 = .ok (.ifCond .ne 5, 3) := by decide +kernel
theorem dX4_setSetting_26 : decode cX4_setSetting 26 = .ok (.iconst (-1), 1) := by decide +kernel
theorem dX4_setSetting_27 : decode cX4_setSetting 27 = .ok (.ireturn, 1) := by decide +kernel
theorem dX4_setSetting_28 : decode cX4_setSetting 28 = .ok (.aload_n 0, 1) := by decide +kernel
theorem dX4_setSetting_29 : decode cX4_setSetting 29 = .ok (.getfield 10, 3) := by decide +kernel
theorem dX4_setSetting_32 : decode cX4_setSetting 32 = .ok (.getfield 81, 3) := by decide +kernel
theorem dX4_setSetting_35 : decode cX4_setSetting 35 = .ok (.iload_n 1, 1) := by decide +kernel
theorem dX4_setSetting_36 : decode cX4_setSetting 36 = .ok (.iaload, 1) := by decide +kernel
theorem dX4_setSetting_37 : decode cX4_setSetting 37 = .ok (.istore_n 3, 1) := by decide +kernel
theorem dX4_setSetting_38 : decode cX4_setSetting 38 = .ok (.iload_n 2, 1) := by decide +kernel
theorem dX4_setSetting_39 : decode cX4_setSetting 39 = .ok (.iload_n 3, 1) := by decide +kernel
theorem dX4_setSetting_40 : decode cX4_setSetting 40 = .ok (.if_icmp .ne 6, 3) := by decide +kernel
theorem dX4_setSetting_43 : decode cX4_setSetting 43 = .ok (.bipush (-2), 2) := by decide +kernel
theorem dX4_setSetting_45 : decode cX4_setSetting 45 = .ok (.ireturn, 1) := by decide +kernel
theorem dX4_setSetting_46 : decode cX4_setSetting 46 = .ok (.aload_n 0, 1) := by decide +kernel
theorem dX4_setSetting_47 : decode cX4_setSetting 47 = .ok (.getfield 34, 3) := by decide +kernel
theorem dX4_setSetting_50 : decode cX4_setSetting 50 = .ok (.aload_n 0, 1) := by decide +kernel
theorem dX4_setSetting_51 : decode cX4_setSetting 51 = .ok (.getfield 10, 3) := by decide +kernel
theorem dX4_setSetting_54 : decode cX4_setSetting 54 = .ok (.invokevirtual 55, 3) := by decide +kernel
theorem dX4_setSetting_57 : decode cX4_setSetting 57 = .ok (.aload_n 0, 1) := by decide +kernel
theorem dX4_setSetting_58 : decode cX4_setSetting 58 = .ok (.getfield 10, 3) := by decide +kernel
theorem dX4_setSetting_61 : decode cX4_setSetting 61 = .ok (.getfield 81, 3) := by decide +kernel
theorem dX4_setSetting_64 : decode cX4_setSetting 64 = .ok (.iload_n 1, 1) := by decide +kernel
theorem dX4_setSetting_65 : decode cX4_setSetting 65 = .ok (.iload_n 2, 1) := by decide +kernel
theorem dX4_setSetting_66 : decode cX4_setSetting 66 = .ok (.iastore, 1) := by decide +kernel
theorem dX4_setSetting_67 : decode cX4_setSetting 67 = .ok (.iload_n 3, 1) := by decide +kernel
theorem dX4_setSetting_68 : decode cX4_setSetting 68 = .ok (.ireturn, 1) := by decide +kernel
set_option maxRecDepth 20000 in
theorem ggX4_setGenerator_X0_push : GoodIn wsX4_setGenerator wsX0_push := goodIn_r _ [9, 10, 11, 12, 13, 14, 8, 15, 16, 17, 18, 19, 20, 21, 22, 23, 24, 25, 26, 27, 28, 29, 30, 31, 32, 33, 34, 35, 36, 37, 38, 39, 40, 41, 42, 43, 44, 45, 46, 47, 48, 49, 68, 69, 57, 58, 59, 60, 61, 62, 63, 64, 65, 66, 67, 70, 71, 72, 73, 74, 75, 76, 77, 78, 79, 80] (by decide +kernel) (by decide +kernel)
set_option maxRecDepth 20000 in
theorem gX4_setGenerator_X0_push : GoodIn wsX4_setGenerator (wsV RX4 55 RX0 yX0_push wsX0_push) := goodIn_app (goodIn_of _ (by decide +kernel)) ggX4_setGenerator_X0_push
theorem dX4_setGenerator_0 : decode cX4_setGenerator 0 = .ok (.iload_n 1, 1) := by decide +kernel
theorem dX4_setGenerator_1 : decode cX4_setGenerator 1 = .ok (.ifCond .ge 5, 3) := by decide +kernel
theorem dX4_setGenerator_4 : decode cX4_setGenerator 4 = .ok (.iconst (-1), 1) := by decide +kernel
theorem dX4_setGenerator_5 : decode cX4_setGenerator 5 = .ok (.ireturn, 1) := by decide +kernel
theorem dX4_setGenerator_6 : decode cX4_setGenerator 6 = .ok (.aload_n 0, 1) := by decide +kernel
theorem dX4_setGenerator_7 : decode cX4_setGenerator 7 = .ok (.getfield 34, 3) := by decide +kernel
theorem dX4_setGenerator_10 : decode cX4_setGenerator 10 = .ok (.aload_n 0, 1) := by decide +kernel
theorem dX4_setGenerator_11 : decode cX4_setGenerator 11 = .ok (.getfield 10, 3) := by decide +kernel
theorem dX4_setGenerator_14 : decode cX4_setGenerator 14 = .ok (.invokevirtual 55, 3) := by decide +kernel
theorem dX4_setGenerator_17 : decode cX4_setGenerator 17 = .ok (.aload_n 0, 1) := by decide +kernel
theorem dX4_setGenerator_18 : decode cX4_setGenerator 18 = .ok (.getfield 10, 3) := by decide +kernel
theorem dX4_setGenerator_21 : decode cX4_setGenerator 21 = .ok (.iload_n 1, 1) := by decide +kernel
theorem dX4_setGenerator_22 : decode cX4_setGenerator 22 = .ok (.putfield 84, 3) := by decide +kernel
theorem dX4_setGenerator_25 : decode cX4_setGenerator 25 = .ok (.aload_n 0, 1) := by decide +kernel
theorem dX4_setGenerator_26 : decode cX4_setGenerator 26 = .ok (.getfield 10, 3) := by decide +kernel
theorem dX4_setGenerator_29 : decode cX4_setGenerator 29 = .ok (.getfield 87, 3) := by decide +kernel
theorem dX4_setGenerator_32 : decode cX4_setGenerator 32 = .ok (.ireturn, 1) := by decide +kernel
set_option maxRecDepth 20000 in
theorem ggX4_charge_X1_has : GoodIn wsX4_charge wsX1_has := goodIn_r _ [12, 13, 68, 69, 70, 71, 72, 73, 74, 75, 76, 77, 78] (by decide +kernel) (by decide +kernel)
set_option maxRecDepth 20000 in
theorem gX4_charge_X1_has : GoodIn wsX4_charge (wsV RX4 90 RX1 yX1_has wsX1_has) := goodIn_app (goodIn_of _ (by decide +kernel)) ggX4_charge_X1_has
set_option maxRecDepth 20000 in
theorem ggX4_charge_X4_inRange : GoodIn wsX4_charge wsX4_inRange := goodIn_r _ [17] (by decide +kernel) (by decide +kernel)
set_option maxRecDepth 20000 in
theorem gX4_charge_X4_inRange : GoodIn wsX4_charge (va_wsS RX4 46 yX4_inRange wsX4_inRange) := goodIn_app (goodIn_of _ (by decide +kernel)) ggX4_charge_X4_inRange
set_option maxRecDepth 20000 in
theorem ggX4_charge_X0_push : GoodIn wsX4_charge wsX0_push := goodIn_r _ [22, 23, 24, 25, 26, 27, 21, 28, 29, 30, 31, 11, 32, 13, 33, 34, 35, 36, 37, 38, 39, 40, 41, 42, 43, 44, 45, 46, 47, 48, 49, 50, 51, 52, 53, 54, 55, 56, 57, 58, 59, 60, 90, 91, 68, 69, 70, 71, 72, 73, 74, 75, 76, 77, 78, 79, 80, 81, 82, 83, 84, 85, 86, 87, 88, 89] (by decide +kernel) (by decide +kernel)
set_option maxRecDepth 20000 in
theorem gX4_charge_X0_push : GoodIn wsX4_charge (wsV RX4 55 RX0 yX0_push wsX0_push) := goodIn_app (goodIn_of _ (by decide +kernel)) ggX4_charge_X0_push
theorem dX4_charge_0 : decode cX4_charge 0 = .ok (.aload_n 0, 1) := by decide +kernel
theorem dX4_charge_1 : decode cX4_charge 1 = .ok (.getfield 10, 3) := by decide +kernel
theorem dX4_charge_4 : decode cX4_charge 4 = .ok (.iload_n 1, 1) := by decide +kernel
theorem dX4_charge_5 : decode cX4_charge 5 = .ok (.invokevirtual 90, 3) := by decide +kernel
theorem dX4_charge_8 : decode cX4_charge 8 = .ok (.ifCond .eq 13, 3) := by decide +kernel
theorem dX4_charge_11 : decode cX4_charge 11 = .ok (.iload_n 2, 1) := by decide +kernel
theorem dX4_charge_12 : decode cX4_charge 12 = .ok (.iconst 1, 1) := by decide +kernel
theorem dX4_charge_13 : decode cX4_charge 13 = .ok (.ldc 50, 2) := by decide +kernel
theorem dX4_charge_15 : decode cX4_charge 15 = .ok (.invokestatic 46, 3) := by decide +kernel
theorem dX4_charge_18 : decode cX4_charge 18 = .ok (.ifCond .ne 5, 3) := by decide +kernel
theorem dX4_charge_21 : decode cX4_charge 21 = .ok (.iconst (-1), 1) := by decide +kernel
theorem dX4_charge_22 : decode cX4_charge 22 = .ok (.ireturn, 1) := by decide +kernel
theorem dX4_charge_23 : decode cX4_charge 23 = .ok (.aload_n 0, 1) := by decide +kernel
theorem dX4_charge_24 : decode cX4_charge 24 = .ok (.getfield 10, 3) := by decide +kernel
theorem dX4_charge_27 : decode cX4_charge 27 = .ok (.getfield 58, 3) := by decide +kernel
theorem dX4_charge_30 : decode cX4_charge 30 = .ok (.iload_n 1, 1) := by decide +kernel
theorem dX4_charge_31 : decode cX4_charge 31 = .ok (.aaload, 1) := by decide +kernel
theorem dX4_charge_32 : decode cX4_charge 32 = .ok (.astore_n 3, 1) := by decide +kernel
theorem dX4_charge_33 : decode cX4_charge 33 = .ok (.aload_n 3, 1) := by decide +kernel
theorem dX4_charge_34 : decode cX4_charge 34 = .ok (.getfield 94, 3) := by decide +kernel
theorem dX4_charge_37 : decode cX4_charge 37 = .ok (.ifCond .eq 14, 3) := by decide +kernel
theorem dX4_charge_40 : decode cX4_charge 40 = .ok (.aload_n 3, 1) := by decide +kernel
theorem dX4_charge_41 : decode cX4_charge 41 = .ok (.getfield 98, 3) := by decide +kernel
theorem dX4_charge_44 : decode cX4_charge 44 = .ok (.iload_n 2, 1) := by decide +kernel
theorem dX4_charge_45 : decode cX4_charge 45 = .ok (.iadd, 1) := by decide +kernel
theorem dX4_charge_46 : decode cX4_charge 46 = .ok (.ldc 101, 2) := by decide +kernel
theorem dX4_charge_48 : decode cX4_charge 48 = .ok (.if_icmp .le 6, 3) := by decide +kernel
theorem dX4_charge_51 : decode cX4_charge 51 = .ok (.bipush (-2), 2) := by decide +kernel
theorem dX4_charge_53 : decode cX4_charge 53 = .ok (.ireturn, 1) := by decide +kernel
theorem dX4_charge_54 : decode cX4_charge 54 = .ok (.aload_n 0, 1) := by decide +kernel
theorem dX4_charge_55 : decode cX4_charge 55 = .ok (.getfield 34, 3) := by decide +kernel
theorem dX4_charge_58 : decode cX4_charge 58 = .ok (.aload_n 0, 1) := by decide +kernel
theorem dX4_charge_59 : decode cX4_charge 59 = .ok (.getfield 10, 3) := by decide +kernel
theorem dX4_charge_62 : decode cX4_charge 62 = .ok (.invokevirtual 55, 3) := by decide +kernel
theorem dX4_charge_65 : decode cX4_charge 65 = .ok (.aload_n 3, 1) := by decide +kernel
theorem dX4_charge_66 : decode cX4_charge 66 = .ok (.dup, 1) := by decide +kernel
theorem dX4_charge_67 : decode cX4_charge 67 = .ok (.getfield 98, 3) := by decide +kernel
theorem dX4_charge_70 : decode cX4_charge 70 = .ok (.iload_n 2, 1) := by decide +kernel
theorem dX4_charge_71 : decode cX4_charge 71 = .ok (.iadd, 1) := by decide +kernel
theorem dX4_charge_72 : decode cX4_charge 72 = .ok (.putfield 98, 3) := by decide +kernel
theorem dX4_charge_75 : decode cX4_charge 75 = .ok (.aload_n 3, 1) := by decide +kernel
theorem dX4_charge_76 : decode cX4_charge 76 = .ok (.getfield 98, 3) := by decide +kernel
theorem dX4_charge_79 : decode cX4_charge 79 = .ok (.ireturn, 1) := by decide +kernel
set_option maxRecDepth 20000 in
theorem ggX4_run_X4_inRange : GoodIn wsX4_run wsX4_inRange := goodIn_r _ [7] (by decide +kernel) (by decide +kernel)
set_option maxRecDepth 20000 in
theorem gX4_run_X4_inRange : GoodIn wsX4_run (va_wsS RX4 46 yX4_inRange wsX4_inRange) := goodIn_app (goodIn_of _ (by decide +kernel)) ggX4_run_X4_inRange
set_option maxRecDepth 20000 in
theorem ggX4_run_X1_countAlive : GoodIn wsX4_run wsX1_countAlive := goodIn_r _ [12, 13, 14, 15, 204, 205, 206, 207, 208, 209, 210, 211, 212, 213, 214, 215, 216, 217, 218, 219, 220, 221, 222, 223, 224, 225] (by decide +kernel) (by decide +kernel)
set_option maxRecDepth 20000 in
theorem gX4_run_X1_countAlive : GoodIn wsX4_run (wsV RX4 102 RX1 yX1_countAlive wsX1_countAlive) := goodIn_app (goodIn_of _ (by decide +kernel)) ggX4_run_X1_countAlive
set_option maxRecDepth 20000 in
theorem ggX4_run_X0_push : GoodIn wsX4_run wsX0_push := goodIn_r _ [20, 21, 22, 23, 24, 25, 19, 26, 27, 28, 29, 11, 30, 13, 14, 31, 32, 33, 34, 35, 36, 37, 38, 39, 40, 41, 42, 43, 44, 45, 46, 47, 48, 49, 50, 51, 52, 53, 54, 55, 56, 57, 226, 227, 204, 205, 206, 207, 208, 209, 210, 211, 212, 213, 214, 215, 216, 217, 218, 219, 220, 221, 222, 223, 224, 225] (by decide +kernel) (by decide +kernel)
set_option maxRecDepth 20000 in
theorem gX4_run_X0_push : GoodIn wsX4_run (wsV RX4 55 RX0 yX0_push wsX0_push) := goodIn_app (goodIn_of _ (by decide +kernel)) ggX4_run_X0_push
set_option maxRecDepth 20000 in
theorem ggX4_run_X2_perform : GoodIn wsX4_run wsX2_perform := goodIn_r _ [62, 63, 64, 9, 10, 11, 12, 13, 14, 15, 65, 66, 67, 61, 68, 69, 70, 71, 72, 73, 74, 75, 76, 77, 78, 79, 80, 81, 82, 83, 31, 39, 84, 85, 86, 47, 87, 56, 57, 88, 89, 90, 91, 92, 93, 94, 95, 96, 97, 98, 99, 100, 101, 102, 103, 104, 105, 106, 107, 108, 109, 110, 111, 112, 113, 114, 115, 116, 117, 118, 119, 120, 121, 122, 123, 124, 125, 126, 127, 128, 129, 130, 131, 132, 49, 50, 133, 134, 135, 136, 137, 138, 139, 140, 141, 142, 143, 144, 145, 146, 147, 148, 149, 150, 151, 152, 153, 154, 155, 156, 157, 158, 159, 160, 161, 162, 163, 164, 165, 166, 167, 168, 169, 170, 171, 172, 173, 174, 175, 176, 177, 178, 179, 180, 181, 182, 183, 184, 185, 186, 187, 188, 189, 190, 191, 192, 193, 194, 195, 196, 228, 204, 205, 206, 207, 208, 209, 210, 211, 212, 213, 214, 215, 216, 217, 218, 219, 220, 221, 222, 223, 224, 225] (by decide +kernel) (by decide +kernel)
set_option maxRecDepth 20000 in
theorem gX4_run_X2_perform : GoodIn wsX4_run (wsV RX4 106 RX2 yX2_perform wsX2_perform) := goodIn_app (goodIn_of _ (by decide +kernel)) ggX4_run_X2_perform
theorem dX4_run_0 : decode cX4_run 0 = .ok (.iload_n 1, 1) := by decide +kernel
theorem dX4_run_1 : decode cX4_run 1 = .ok (.iconst 1, 1) := by decide +kernel
theorem dX4_run_2 : decode cX4_run 2 = .ok (.bipush 50, 2) := by decide +kernel
theorem dX4_run_4 : decode cX4_run 4 = .ok (.invokestatic 46, 3) := by decide +kernel
theorem dX4_run_7 : decode cX4_run 7 = .ok (.ifCond .ne 5, 3) := by decide +kernel
theorem dX4_run_10 : decode cX4_run 10 = .ok (.iconst (-1), 1) := by decide +kernel
theorem dX4_run_11 : decode cX4_run 11 = .ok (.ireturn, 1) := by decide +kernel
theorem dX4_run_12 : decode cX4_run 12 = .ok (.aload_n 0, 1) := by decide +kernel
theorem dX4_run_13 : decode cX4_run 13 = .ok (.getfield 10, 3) := by decide +kernel
theorem dX4_run_16 : decode cX4_run 16 = .ok (.invokevirtual 102, 3) := by decide +kernel
theorem dX4_run_19 : decode cX4_run 19 = .ok (.ifCond .ne 6, 3) := by decide +kernel
theorem dX4_run_22 : decode cX4_run 22 = .ok (.bipush (-2), 2) := by decide +kernel
theorem dX4_run_24 : decode cX4_run 24 = .ok (.ireturn, 1) := by decide +kernel
theorem dX4_run_25 : decode cX4_run 25 = .ok (.aload_n 0, 1) := by decide +kernel
theorem dX4_run_26 : decode cX4_run 26 = .ok (.getfield 34, 3) := by decide +kernel
theorem dX4_run_29 : decode cX4_run 29 = .ok (.aload_n 0, 1) := by decide +kernel
theorem dX4_run_30 : decode cX4_run 30 = .ok (.getfield 10, 3) := by decide +kernel
theorem dX4_run_33 : decode cX4_run 33 = .ok (.invokevirtual 55, 3) := by decide +kernel
theorem dX4_run_36 : decode cX4_run 36 = .ok (.aload_n 0, 1) := by decide +kernel
theorem dX4_run_37 : decode cX4_run 37 = .ok (.getfield 21, 3) := by decide +kernel
theorem dX4_run_40 : decode cX4_run 40 = .ok (.iload_n 1, 1) := by decide +kernel
theorem dX4_run_41 : decode cX4_run 41 = .ok (.invokevirtual 106, 3) := by decide +kernel
theorem dX4_run_44 : decode cX4_run 44 = .ok (.ireturn, 1) := by decide +kernel
theorem dX4_roundNumber_0 : decode cX4_roundNumber 0 = .ok (.aload_n 0, 1) := by decide +kernel
theorem dX4_roundNumber_1 : decode cX4_roundNumber 1 = .ok (.getfield 10, 3) := by decide +kernel
theorem dX4_roundNumber_4 : decode cX4_roundNumber 4 = .ok (.getfield 87, 3) := by decide +kernel
theorem dX4_roundNumber_7 : decode cX4_roundNumber 7 = .ok (.ireturn, 1) := by decide +kernel
set_option maxRecDepth 20000 in
theorem ggX4_aliveCount_X1_countAlive : GoodIn wsX4_aliveCount wsX1_countAlive := goodIn_r _ [6, 7, 8, 9, 17, 18, 19, 20, 21, 22, 23, 24, 25, 26, 27, 28, 29, 30, 31, 32, 33, 34, 35, 36, 37, 38] (by decide +kernel) (by decide +kernel)
set_option maxRecDepth 20000 in
theorem gX4_aliveCount_X1_countAlive : GoodIn wsX4_aliveCount (wsV RX4 102 RX1 yX1_countAlive wsX1_countAlive) := goodIn_app (goodIn_of _ (by decide +kernel)) ggX4_aliveCount_X1_countAlive
theorem dX4_aliveCount_0 : decode cX4_aliveCount 0 = .ok (.aload_n 0, 1) := by decide +kernel
theorem dX4_aliveCount_1 : decode cX4_aliveCount 1 = .ok (.getfield 10, 3) := by decide +kernel
theorem dX4_aliveCount_4 : decode cX4_aliveCount 4 = .ok (.invokevirtual 102, 3) := by decide +kernel
theorem dX4_aliveCount_7 : decode cX4_aliveCount 7 = .ok (.ireturn, 1) := by decide +kernel
set_option maxRecDepth 20000 in
theorem ggX4_isAlive_X1_has : GoodIn wsX4_isAlive wsX1_has := goodIn_r _ [8, 9, 17, 18, 19, 20, 21, 22, 23, 24, 25, 26, 27] (by decide +kernel) (by decide +kernel)
set_option maxRecDepth 20000 in
theorem gX4_isAlive_X1_has : GoodIn wsX4_isAlive (wsV RX4 90 RX1 yX1_has wsX1_has) := goodIn_app (goodIn_of _ (by decide +kernel)) ggX4_isAlive_X1_has
theorem dX4_isAlive_0 : decode cX4_isAlive 0 = .ok (.aload_n 0, 1) := by decide +kernel
theorem dX4_isAlive_1 : decode cX4_isAlive 1 = .ok (.getfield 10, 3) := by decide +kernel
theorem dX4_isAlive_4 : decode cX4_isAlive 4 = .ok (.iload_n 1, 1) := by decide +kernel
theorem dX4_isAlive_5 : decode cX4_isAlive 5 = .ok (.invokevirtual 90, 3) := by decide +kernel
theorem dX4_isAlive_8 : decode cX4_isAlive 8 = .ok (.ifCond .ne 5, 3) := by decide +kernel
theorem dX4_isAlive_11 : decode cX4_isAlive 11 = .ok (.iconst (-1), 1) := by decide +kernel
theorem dX4_isAlive_12 : decode cX4_isAlive 12 = .ok (.ireturn, 1) := by decide +kernel
theorem dX4_isAlive_13 : decode cX4_isAlive 13 = .ok (.aload_n 0, 1) := by decide +kernel
theorem dX4_isAlive_14 : decode cX4_isAlive 14 = .ok (.getfield 10, 3) := by decide +kernel
theorem dX4_isAlive_17 : decode cX4_isAlive 17 = .ok (.getfield 58, 3) := by decide +kernel
theorem dX4_isAlive_20 : decode cX4_isAlive 20 = .ok (.iload_n 1, 1) := by decide +kernel
theorem dX4_isAlive_21 : decode cX4_isAlive 21 = .ok (.aaload, 1) := by decide +kernel
theorem dX4_isAlive_22 : decode cX4_isAlive 22 = .ok (.getfield 94, 3) := by decide +kernel
theorem dX4_isAlive_25 : decode cX4_isAlive 25 = .ok (.ifCond .eq 7, 3) := by decide +kernel
theorem dX4_isAlive_28 : decode cX4_isAlive 28 = .ok (.iconst 1, 1) := by decide +kernel
theorem dX4_isAlive_29 : decode cX4_isAlive 29 = .ok (.goto 4, 3) := by decide +kernel
theorem dX4_isAlive_32 : decode cX4_isAlive 32 = .ok (.iconst 0, 1) := by decide +kernel
theorem dX4_isAlive_33 : decode cX4_isAlive 33 = .ok (.ireturn, 1) := by decide +kernel
set_option maxRecDepth 20000 in
theorem ggX4_battery_X1_has : GoodIn wsX4_battery wsX1_has := goodIn_r _ [8, 9, 17, 18, 19, 20, 21, 22, 23, 24, 25, 26, 27] (by decide +kernel) (by decide +kernel)
set_option maxRecDepth 20000 in
theorem gX4_battery_X1_has : GoodIn wsX4_battery (wsV RX4 90 RX1 yX1_has wsX1_has) := goodIn_app (goodIn_of _ (by decide +kernel)) ggX4_battery_X1_has
theorem dX4_battery_0 : decode cX4_battery 0 = .ok (.aload_n 0, 1) := by decide +kernel
theorem dX4_battery_1 : decode cX4_battery 1 = .ok (.getfield 10, 3) := by decide +kernel
theorem dX4_battery_4 : decode cX4_battery 4 = .ok (.iload_n 1, 1) := by decide +kernel
theorem dX4_battery_5 : decode cX4_battery 5 = .ok (.invokevirtual 90, 3) := by decide +kernel
theorem dX4_battery_8 : decode cX4_battery 8 = .ok (.ifCond .ne 5, 3) := by decide +kernel
theorem dX4_battery_11 : decode cX4_battery 11 = .ok (.iconst (-1), 1) := by decide +kernel
theorem dX4_battery_12 : decode cX4_battery 12 = .ok (.ireturn, 1) := by decide +kernel
theorem dX4_battery_13 : decode cX4_battery 13 = .ok (.aload_n 0, 1) := by decide +kernel
theorem dX4_battery_14 : decode cX4_battery 14 = .ok (.getfield 10, 3) := by decide +kernel
theorem dX4_battery_17 : decode cX4_battery 17 = .ok (.getfield 58, 3) := by decide +kernel
theorem dX4_battery_20 : decode cX4_battery 20 = .ok (.iload_n 1, 1) := by decide +kernel
theorem dX4_battery_21 : decode cX4_battery 21 = .ok (.aaload, 1) := by decide +kernel
theorem dX4_battery_22 : decode cX4_battery 22 = .ok (.getfield 98, 3) := by decide +kernel
theorem dX4_battery_25 : decode cX4_battery 25 = .ok (.ireturn, 1) := by decide +kernel
set_option maxRecDepth 20000 in
theorem ggX4_isEligible_X1_has : GoodIn wsX4_isEligible wsX1_has := goodIn_r _ [9, 10, 24, 25, 26, 27, 28, 29, 30, 31, 32, 33, 34] (by decide +kernel) (by decide +kernel)
set_option maxRecDepth 20000 in
theorem gX4_isEligible_X1_has : GoodIn wsX4_isEligible (wsV RX4 90 RX1 yX1_has wsX1_has) := goodIn_app (goodIn_of _ (by decide +kernel)) ggX4_isEligible_X1_has
set_option maxRecDepth 20000 in
theorem ggX4_isEligible_X1_phase : GoodIn wsX4_isEligible wsX1_phase := goodIn_r _ [14, 15, 16, 24, 25, 26, 27, 28, 29, 30, 31, 32, 33, 34] (by decide +kernel) (by decide +kernel)
set_option maxRecDepth 20000 in
theorem gX4_isEligible_X1_phase : GoodIn wsX4_isEligible (wsV RX4 113 RX1 yX1_phase wsX1_phase) := goodIn_app (goodIn_of _ (by decide +kernel)) ggX4_isEligible_X1_phase
theorem dX4_isEligible_0 : decode cX4_isEligible 0 = .ok (.aload_n 0, 1) := by decide +kernel
theorem dX4_isEligible_1 : decode cX4_isEligible 1 = .ok (.getfield 10, 3) := by decide +kernel
theorem dX4_isEligible_4 : decode cX4_isEligible 4 = .ok (.iload_n 1, 1) := by decide +kernel
theorem dX4_isEligible_5 : decode cX4_isEligible 5 = .ok (.invokevirtual 90, 3) := by decide +kernel
theorem dX4_isEligible_8 : decode cX4_isEligible 8 = .ok (.ifCond .ne 5, 3) := by decide +kernel
theorem dX4_isEligible_11 : decode cX4_isEligible 11 = .ok (.iconst (-1), 1) := by decide +kernel
theorem dX4_isEligible_12 : decode cX4_isEligible 12 = .ok (.ireturn, 1) := by decide +kernel
theorem dX4_isEligible_13 : decode cX4_isEligible 13 = .ok (.aload_n 0, 1) := by decide +kernel
theorem dX4_isEligible_14 : decode cX4_isEligible 14 = .ok (.getfield 10, 3) := by decide +kernel
theorem dX4_isEligible_17 : decode cX4_isEligible 17 = .ok (.getfield 58, 3) := by decide +kernel
theorem dX4_isEligible_20 : decode cX4_isEligible 20 = .ok (.iload_n 1, 1) := by decide +kernel
theorem dX4_isEligible_21 : decode cX4_isEligible 21 = .ok (.aaload, 1) := by decide +kernel
theorem dX4_isEligible_22 : decode cX4_isEligible 22 = .ok (.astore_n 2, 1) := by decide +kernel
theorem dX4_isEligible_23 : decode cX4_isEligible 23 = .ok (.aload_n 2, 1) := by decide +kernel
theorem dX4_isEligible_24 : decode cX4_isEligible 24 = .ok (.getfield 94, 3) := by decide +kernel
theorem dX4_isEligible_27 : decode cX4_isEligible 27 = .ok (.ifCond .eq 24, 3) := by decide +kernel
theorem dX4_isEligible_30 : decode cX4_isEligible 30 = .ok (.aload_n 2, 1) := by decide +kernel
theorem dX4_isEligible_31 : decode cX4_isEligible 31 = .ok (.getfield 110, 3) := by decide +kernel
theorem dX4_isEligible_34 : decode cX4_isEligible 34 = .ok (.ifCond .ne 13, 3) := by decide +kernel
theorem dX4_isEligible_37 : decode cX4_isEligible 37 = .ok (.aload_n 0, 1) := by decide +kernel
theorem dX4_isEligible_38 : decode cX4_isEligible 38 = .ok (.getfield 10, 3) := by decide +kernel
theorem dX4_isEligible_41 : decode cX4_isEligible 41 = .ok (.invokevirtual 113, 3) := by decide +kernel
theorem dX4_isEligible_44 : decode cX4_isEligible 44 = .ok (.ifCond .ne 7, 3) := by decide +kernel
theorem dX4_isEligible_47 : decode cX4_isEligible 47 = .ok (.iconst 1, 1) := by decide +kernel
theorem dX4_isEligible_48 : decode cX4_isEligible 48 = .ok (.goto 4, 3) := by decide +kernel
theorem dX4_isEligible_51 : decode cX4_isEligible 51 = .ok (.iconst 0, 1) := by decide +kernel
theorem dX4_isEligible_52 : decode cX4_isEligible 52 = .ok (.ireturn, 1) := by decide +kernel
set_option maxRecDepth 20000 in
theorem ggX4_deathRound_X1_has : GoodIn wsX4_deathRound wsX1_has := goodIn_r _ [8, 9, 17, 18, 19, 20, 21, 22, 23, 24, 25, 26, 27] (by decide +kernel) (by decide +kernel)
set_option maxRecDepth 20000 in
theorem gX4_deathRound_X1_has : GoodIn wsX4_deathRound (wsV RX4 90 RX1 yX1_has wsX1_has) := goodIn_app (goodIn_of _ (by decide +kernel)) ggX4_deathRound_X1_has
theorem dX4_deathRound_0 : decode cX4_deathRound 0 = .ok (.aload_n 0, 1) := by decide +kernel
theorem dX4_deathRound_1 : decode cX4_deathRound 1 = .ok (.getfield 10, 3) := by decide +kernel
theorem dX4_deathRound_4 : decode cX4_deathRound 4 = .ok (.iload_n 1, 1) := by decide +kernel
theorem dX4_deathRound_5 : decode cX4_deathRound 5 = .ok (.invokevirtual 90, 3) := by decide +kernel
theorem dX4_deathRound_8 : decode cX4_deathRound 8 = .ok (.ifCond .ne 5, 3) := by decide +kernel
theorem dX4_deathRound_11 : decode cX4_deathRound 11 = .ok (.iconst (-1), 1) := by decide +kernel
theorem dX4_deathRound_12 : decode cX4_deathRound 12 = .ok (.ireturn, 1) := by decide +kernel
theorem dX4_deathRound_13 : decode cX4_deathRound 13 = .ok (.aload_n 0, 1) := by decide +kernel
theorem dX4_deathRound_14 : decode cX4_deathRound 14 = .ok (.getfield 10, 3) := by decide +kernel
theorem dX4_deathRound_17 : decode cX4_deathRound 17 = .ok (.getfield 58, 3) := by decide +kernel
theorem dX4_deathRound_20 : decode cX4_deathRound 20 = .ok (.iload_n 1, 1) := by decide +kernel
theorem dX4_deathRound_21 : decode cX4_deathRound 21 = .ok (.aaload, 1) := by decide +kernel
theorem dX4_deathRound_22 : decode cX4_deathRound 22 = .ok (.getfield 119, 3) := by decide +kernel
theorem dX4_deathRound_25 : decode cX4_deathRound 25 = .ok (.ireturn, 1) := by decide +kernel
set_option maxRecDepth 20000 in
theorem ggX4_headOf_X1_has : GoodIn wsX4_headOf wsX1_has := goodIn_r _ [8, 9, 17, 18, 19, 20, 21, 22, 23, 24, 25, 26, 27] (by decide +kernel) (by decide +kernel)
set_option maxRecDepth 20000 in
theorem gX4_headOf_X1_has : GoodIn wsX4_headOf (wsV RX4 90 RX1 yX1_has wsX1_has) := goodIn_app (goodIn_of _ (by decide +kernel)) ggX4_headOf_X1_has
theorem dX4_headOf_0 : decode cX4_headOf 0 = .ok (.aload_n 0, 1) := by decide +kernel
theorem dX4_headOf_1 : decode cX4_headOf 1 = .ok (.getfield 10, 3) := by decide +kernel
theorem dX4_headOf_4 : decode cX4_headOf 4 = .ok (.iload_n 1, 1) := by decide +kernel
theorem dX4_headOf_5 : decode cX4_headOf 5 = .ok (.invokevirtual 90, 3) := by decide +kernel
theorem dX4_headOf_8 : decode cX4_headOf 8 = .ok (.ifCond .ne 5, 3) := by decide +kernel
theorem dX4_headOf_11 : decode cX4_headOf 11 = .ok (.iconst (-1), 1) := by decide +kernel
theorem dX4_headOf_12 : decode cX4_headOf 12 = .ok (.ireturn, 1) := by decide +kernel
theorem dX4_headOf_13 : decode cX4_headOf 13 = .ok (.aload_n 0, 1) := by decide +kernel
theorem dX4_headOf_14 : decode cX4_headOf 14 = .ok (.getfield 10, 3) := by decide +kernel
theorem dX4_headOf_17 : decode cX4_headOf 17 = .ok (.getfield 58, 3) := by decide +kernel
theorem dX4_headOf_20 : decode cX4_headOf 20 = .ok (.iload_n 1, 1) := by decide +kernel
theorem dX4_headOf_21 : decode cX4_headOf 21 = .ok (.aaload, 1) := by decide +kernel
theorem dX4_headOf_22 : decode cX4_headOf 22 = .ok (.getfield 122, 3) := by decide +kernel
theorem dX4_headOf_25 : decode cX4_headOf 25 = .ok (.ireturn, 1) := by decide +kernel
set_option maxRecDepth 20000 in
theorem ggX4_slotOf_X1_has : GoodIn wsX4_slotOf wsX1_has := goodIn_r _ [8, 9, 17, 18, 19, 20, 21, 22, 23, 24, 25, 26, 27] (by decide +kernel) (by decide +kernel)
set_option maxRecDepth 20000 in
theorem gX4_slotOf_X1_has : GoodIn wsX4_slotOf (wsV RX4 90 RX1 yX1_has wsX1_has) := goodIn_app (goodIn_of _ (by decide +kernel)) ggX4_slotOf_X1_has
theorem dX4_slotOf_0 : decode cX4_slotOf 0 = .ok (.aload_n 0, 1) := by decide +kernel
theorem dX4_slotOf_1 : decode cX4_slotOf 1 = .ok (.getfield 10, 3) := by decide +kernel
theorem dX4_slotOf_4 : decode cX4_slotOf 4 = .ok (.iload_n 1, 1) := by decide +kernel
theorem dX4_slotOf_5 : decode cX4_slotOf 5 = .ok (.invokevirtual 90, 3) := by decide +kernel
theorem dX4_slotOf_8 : decode cX4_slotOf 8 = .ok (.ifCond .ne 5, 3) := by decide +kernel
theorem dX4_slotOf_11 : decode cX4_slotOf 11 = .ok (.iconst (-1), 1) := by decide +kernel
theorem dX4_slotOf_12 : decode cX4_slotOf 12 = .ok (.ireturn, 1) := by decide +kernel
theorem dX4_slotOf_13 : decode cX4_slotOf 13 = .ok (.aload_n 0, 1) := by decide +kernel
theorem dX4_slotOf_14 : decode cX4_slotOf 14 = .ok (.getfield 10, 3) := by decide +kernel
theorem dX4_slotOf_17 : decode cX4_slotOf 17 = .ok (.getfield 58, 3) := by decide +kernel
theorem dX4_slotOf_20 : decode cX4_slotOf 20 = .ok (.iload_n 1, 1) := by decide +kernel
theorem dX4_slotOf_21 : decode cX4_slotOf 21 = .ok (.aaload, 1) := by decide +kernel
theorem dX4_slotOf_22 : decode cX4_slotOf 22 = .ok (.getfield 125, 3) := by decide +kernel
theorem dX4_slotOf_25 : decode cX4_slotOf 25 = .ok (.ireturn, 1) := by decide +kernel
theorem dX4_headCount_0 : decode cX4_headCount 0 = .ok (.aload_n 0, 1) := by decide +kernel
theorem dX4_headCount_1 : decode cX4_headCount 1 = .ok (.getfield 10, 3) := by decide +kernel
theorem dX4_headCount_4 : decode cX4_headCount 4 = .ok (.getfield 128, 3) := by decide +kernel
theorem dX4_headCount_7 : decode cX4_headCount 7 = .ok (.ireturn, 1) := by decide +kernel
theorem dX4_lastDelivered_0 : decode cX4_lastDelivered 0 = .ok (.aload_n 0, 1) := by decide +kernel
theorem dX4_lastDelivered_1 : decode cX4_lastDelivered 1 = .ok (.getfield 10, 3) := by decide +kernel
theorem dX4_lastDelivered_4 : decode cX4_lastDelivered 4 = .ok (.getfield 131, 3) := by decide +kernel
theorem dX4_lastDelivered_7 : decode cX4_lastDelivered 7 = .ok (.ireturn, 1) := by decide +kernel
theorem dX4_deliveredTotal_0 : decode cX4_deliveredTotal 0 = .ok (.aload_n 0, 1) := by decide +kernel
theorem dX4_deliveredTotal_1 : decode cX4_deliveredTotal 1 = .ok (.getfield 10, 3) := by decide +kernel
theorem dX4_deliveredTotal_4 : decode cX4_deliveredTotal 4 = .ok (.getfield 134, 3) := by decide +kernel
theorem dX4_deliveredTotal_7 : decode cX4_deliveredTotal 7 = .ok (.ireturn, 1) := by decide +kernel
theorem dX4_energyPaid_0 : decode cX4_energyPaid 0 = .ok (.aload_n 0, 1) := by decide +kernel
theorem dX4_energyPaid_1 : decode cX4_energyPaid 1 = .ok (.getfield 10, 3) := by decide +kernel
theorem dX4_energyPaid_4 : decode cX4_energyPaid 4 = .ok (.getfield 137, 3) := by decide +kernel
theorem dX4_energyPaid_7 : decode cX4_energyPaid 7 = .ok (.ireturn, 1) := by decide +kernel
set_option maxRecDepth 20000 in
theorem ggX4_undo_X0_popInto : GoodIn wsX4_undo wsX0_popInto := goodIn_r _ [8, 9, 10, 11, 12, 13, 14, 15, 16, 17, 18, 19, 20, 21, 22, 23, 24, 25, 26, 27, 28, 29, 30, 31, 32, 33, 34, 35, 36, 37, 38, 39, 40, 41, 42, 43, 44, 52, 53, 54, 55, 56, 57, 58, 59, 60, 61, 62, 63, 64, 65, 66, 67, 68, 69, 70, 71, 72, 73, 74, 75] (by decide +kernel) (by decide +kernel)
set_option maxRecDepth 20000 in
theorem gX4_undo_X0_popInto : GoodIn wsX4_undo (wsV RX4 159 RX0 yX0_popInto wsX0_popInto) := goodIn_app (goodIn_of _ (by decide +kernel)) ggX4_undo_X0_popInto
theorem dX4_undo_0 : decode cX4_undo 0 = .ok (.aload_n 0, 1) := by decide +kernel
theorem dX4_undo_1 : decode cX4_undo 1 = .ok (.getfield 34, 3) := by decide +kernel
theorem dX4_undo_4 : decode cX4_undo 4 = .ok (.getfield 156, 3) := by decide +kernel
theorem dX4_undo_7 : decode cX4_undo 7 = .ok (.ifCond .ne 6, 3) := by decide +kernel
theorem dX4_undo_10 : decode cX4_undo 10 = .ok (.bipush (-2), 2) := by decide +kernel
theorem dX4_undo_12 : decode cX4_undo 12 = .ok (.ireturn, 1) := by decide +kernel
theorem dX4_undo_13 : decode cX4_undo 13 = .ok (.aload_n 0, 1) := by decide +kernel
theorem dX4_undo_14 : decode cX4_undo 14 = .ok (.getfield 34, 3) := by decide +kernel
theorem dX4_undo_17 : decode cX4_undo 17 = .ok (.aload_n 0, 1) := by decide +kernel
theorem dX4_undo_18 : decode cX4_undo 18 = .ok (.getfield 10, 3) := by decide +kernel
theorem dX4_undo_21 : decode cX4_undo 21 = .ok (.invokevirtual 159, 3) := by decide +kernel
theorem dX4_undo_24 : decode cX4_undo 24 = .ok (.aload_n 0, 1) := by decide +kernel
theorem dX4_undo_25 : decode cX4_undo 25 = .ok (.getfield 34, 3) := by decide +kernel
theorem dX4_undo_28 : decode cX4_undo 28 = .ok (.getfield 156, 3) := by decide +kernel
theorem dX4_undo_31 : decode cX4_undo 31 = .ok (.ireturn, 1) := by decide +kernel
theorem dX4_inRange_0 : decode cX4_inRange 0 = .ok (.iload_n 0, 1) := by decide +kernel
theorem dX4_inRange_1 : decode cX4_inRange 1 = .ok (.iload_n 1, 1) := by decide +kernel
theorem dX4_inRange_2 : decode cX4_inRange 2 = .ok (.if_icmp .lt 12, 3) := by decide +kernel
theorem dX4_inRange_5 : decode cX4_inRange 5 = .ok (.iload_n 0, 1) := by decide +kernel
theorem dX4_inRange_6 : decode cX4_inRange 6 = .ok (.iload_n 2, 1) := by decide +kernel
theorem dX4_inRange_7 : decode cX4_inRange 7 = .ok (.if_icmp .gt 7, 3) := by decide +kernel
theorem dX4_inRange_10 : decode cX4_inRange 10 = .ok (.iconst 1, 1) := by decide +kernel
theorem dX4_inRange_11 : decode cX4_inRange 11 = .ok (.goto 4, 3) := by decide +kernel
theorem dX4_inRange_14 : decode cX4_inRange 14 = .ok (.iconst 0, 1) := by decide +kernel
theorem dX4_inRange_15 : decode cX4_inRange 15 = .ok (.ireturn, 1) := by decide +kernel
end
section
/-! ===== the whole class: its object, two players, the history, the snapshots; nine networks beside the live one ===== -/
/-- a network: how many sensors, the fixed numbers, the state -/
abbrev zS3 : Type := Nat × (Nat → Int32) × zT
/-- cell c of a network -/
def zNc (G : zG) (ad : Nat → Nat) (t : zS3) (c : Nat) : Nat × va_E := if c = 0 then (ad 0, .inr (1, zObj ad t.1 t.2.1 t.2.2)) else if c = 1 then (ad 1, .inl (G.2.1, 12, .inr (.inr (.inr (.inr (fun i => some (ad (3 + i)))))))) else if c = 2 then (ad 2, .inl (G.2.2.1, 6, .inl (fun j => t.2.1 (3 + j)))) else zSenC ad t.2.2 (c - 3)
theorem zNc_at (G : zG) (ad : Nat → Nat) (t : zS3) {c : Nat} (hc : c < 15) : (zNet G ad t.1 t.2.1 t.2.2)[c]? = some (zNc G ad t c) := by
  have h := zNet_cases (G := G) (ad := ad) (n := t.1) (g := t.2.1) (τ := t.2.2) (X := []) (j := c)
  rcases h with rfl | rfl | rfl | ⟨i, hi, rfl⟩ | ⟨i, rfl⟩
  · rfl
  · rfl
  · rfl
  · have := zNet_s (G := G) (ad := ad) (n := t.1) (g := t.2.1) (τ := t.2.2) [] hi
    rw [List.append_nil] at this
    rw [this]
    unfold zNc
    rw [if_neg (by omega), if_neg (by omega), if_neg (by omega), show 3 + i - 3 = i by omega]
  · omega
theorem zNc_ad (G : zG) (ad : Nat → Nat) (t : zS3) {c : Nat} (hc : c < 15) : (zNc G ad t c).1 = ad c := by
  unfold zNc
  by_cases h0 : c = 0
  · rw [if_pos h0, h0]
  · by_cases h1 : c = 1
    · rw [if_neg h0, if_pos h1, h1]
    · by_cases h2 : c = 2
      · rw [if_neg h0, if_neg h1, if_pos h2, h2]
      · rw [if_neg h0, if_neg h1, if_neg h2]
        unfold zSenC
        show ad (3 + (c - 3)) = ad c
        rw [show 3 + (c - 3) = c by omega]
def zMis (G : zG) (ad : Nat → Nat) (na : Nat → Nat → Nat) (ma π : Nat → Nat) (dep : Nat) (fl : Nat → Int32) : va_W :=
  [(ma 0, .inr (4, [.ref (ad 0), .ref (ma 1), .ref (na 1 0), .ref (ma 2), .ref (ma 3), .ref (ma 5), .ref (ma 6)])), (ma 1, .inr (2, [.ref (ad 0)])), (ma 2, .inr (2, [.ref (na 1 0)])), (ma 3, .inr (0, [.ref (ma 4), .int (nI dep)])), (ma 4, .inl (G.2.2.2.1, 6, .inr (.inr (.inr (.inr (fun i => some (na (π i) 0))))))), (ma 5, .inl (G.2.2.2.1, 2, .inr (.inr (.inr (.inr (fun i => some (na (8 + i) 0))))))), (ma 6, .inl (G.2.2.2.2, 2, .inl fl))]
def zOth (G : zG) (na : Nat → Nat → Nat) (T : Nat → zS3) : va_W := (List.range 135).map (fun k => zNc G (na (k / 15 + 1)) (T (k / 15 + 1)) (k % 15))
def zRest (G : zG) (ad : Nat → Nat) (na : Nat → Nat → Nat) (ma π : Nat → Nat) (dep : Nat) (fl : Nat → Int32) (T : Nat → zS3) : va_W := zMis G ad na ma π dep fl ++ zOth G na T
theorem zOth_at (G : zG) (na : Nat → Nat → Nat) (T : Nat → zS3) {k : Nat} (hk : k < 135) : (zOth G na T)[k]? = some (zNc G (na (k / 15 + 1)) (T (k / 15 + 1)) (k % 15)) := by simp [zOth, hk]
theorem zOth_lt {G : zG} {na : Nat → Nat → Nat} {T : Nat → zS3} {k : Nat} {q : Nat × va_E} (h : (zOth G na T)[k]? = some q) : k < 135 := by
  have := (List.getElem?_eq_some_iff.mp h).1
  simpa [zOth] using this
theorem zRest_m {G : zG} {ad : Nat → Nat} {na : Nat → Nat → Nat} {ma π : Nat → Nat} {dep : Nat} {fl : Nat → Int32} {T : Nat → zS3} {k : Nat} (hk : k < 7) : (zRest G ad na ma π dep fl T)[k]? = (zMis G ad na ma π dep fl)[k]? := List.getElem?_append_left (by simpa [zMis] using hk)
theorem zRest_o {G : zG} {ad : Nat → Nat} {na : Nat → Nat → Nat} {ma π : Nat → Nat} {dep : Nat} {fl : Nat → Int32} {T : Nat → zS3} (k : Nat) : (zRest G ad na ma π dep fl T)[7 + k]? = (zOth G na T)[k]? := by
  unfold zRest
  rw [List.getElem?_append_right (by simp [zMis])]
  congr 1
  simp [zMis]
theorem zRest_j {G : zG} {ad : Nat → Nat} {na : Nat → Nat → Nat} {ma π : Nat → Nat} {dep : Nat} {fl : Nat → Int32} {T : Nat → zS3} {j c : Nat} (hj : 1 ≤ j) (hj2 : j < 10) (hc : c < 15) : (zRest G ad na ma π dep fl T)[7 + (15 * (j - 1) + c)]? = some (zNc G (na j) (T j) c) := by
  rw [zRest_o, zOth_at _ _ _ (by omega), show (15 * (j - 1) + c) / 15 + 1 = j by omega, show (15 * (j - 1) + c) % 15 = c by omega]
/-- the class's heap, cell by cell: T 0 is the live network -/
def zBig (G : zG) (ad : Nat → Nat) (na : Nat → Nat → Nat) (ma π : Nat → Nat) (dep : Nat) (fl : Nat → Int32) (T : Nat → zS3) (H : Heap) : Prop := va_P G.1 vwCl (zMis G ad na ma π dep fl) H ∧ (∀ c, c < 15 → va_at G.1 vwCl (zNc G ad (T 0) c) H) ∧ ∀ j c, 1 ≤ j → j < 10 → c < 15 → va_at G.1 vwCl (zNc G (na j) (T j) c) H
theorem zNc_ext {G : zG} {ad : Nat → Nat} {n : Nat} {g : Nat → Int32} {τ τ2 : zT} (h : zAg 12 τ τ2) {c : Nat} (hc : c < 15) : zNc G ad (n, g, τ2) c = zNc G ad (n, g, τ) c := by
  unfold zNc
  by_cases h0 : c = 0
  · rw [if_pos h0, if_pos h0]
    have : zObj ad n g τ2 = zObj ad n g τ := by
      unfold zObj
      rw [h.1 9 (by decide) (by decide), h.1 10 (by decide) (by decide), h.1 11 (by decide) (by decide), h.1 12 (by decide) (by decide), h.1 13 (by decide) (by decide), h.1 14 (by decide) (by decide)]
    show (ad 0, _) = (ad 0, _)
    rw [this]
  · rw [if_neg h0, if_neg h0]
    by_cases h1 : c = 1
    · rw [if_pos h1, if_pos h1]
    · rw [if_neg h1, if_neg h1]
      by_cases h2 : c = 2
      · rw [if_pos h2, if_pos h2]
      · rw [if_neg h2, if_neg h2]
        have hi : c - 3 < 12 := by omega
        generalize c - 3 = i at hi
        unfold zSenC
        have : zSen τ2 i = zSen τ i := by
          unfold zSen
          rw [h.2 0 i (by decide) hi, h.2 1 i (by decide) hi, h.2 2 i (by decide) hi, h.2 3 i (by decide) hi, h.2 4 i (by decide) hi, h.2 5 i (by decide) hi, h.2 6 i (by decide) hi, h.2 7 i (by decide) hi, h.2 8 i (by decide) hi, h.2 9 i (by decide) hi, h.2 10 i (by decide) hi]
        rw [this]
theorem zBig.toN {G : zG} {ad : Nat → Nat} {na : Nat → Nat → Nat} {ma π : Nat → Nat} {dep : Nat} {fl : Nat → Int32} {T : Nat → zS3} {H : Heap} (h : zBig G ad na ma π dep fl T H) : zNA G ad (T 0).1 12 (T 0).2.1 (zRest G ad na ma π dep fl T) (T 0).2.2 H := by
  refine ⟨(T 0).2.2, zAg.rf, va_P.app (fun k q hk => ?_) (va_P.app h.1 (fun k q hk => ?_))⟩
  · have hl : k < 15 := by
      have := (List.getElem?_eq_some_iff.mp hk).1
      rwa [zNet_len] at this
    rw [zNc_at G ad (T 0) hl] at hk
    cases hk
    exact h.2.1 k hl
  · have hl := zOth_lt hk
    rw [zOth_at _ _ _ hl] at hk
    cases hk
    exact h.2.2 _ _ (by omega) (by omega) (by omega)
theorem zBig.ofN {G : zG} {ad : Nat → Nat} {na : Nat → Nat → Nat} {ma π : Nat → Nat} {dep : Nat} {fl : Nat → Int32} {T : Nat → zS3} {n : Nat} {g : Nat → Int32} {τ : zT} {H : Heap} (h : zNA G ad n 12 g (zRest G ad na ma π dep fl T) τ H) : zBig G ad na ma π dep fl (va_up T 0 (n, g, τ)) H := by
  obtain ⟨τ2, h1, hP⟩ := h
  refine ⟨fun k q hk => hP (15 + k) q ?_, fun c hc => ?_, fun j c h1j hj hc => ?_⟩
  · rw [zNet_X, zRest_m (by simpa [zMis] using (List.getElem?_eq_some_iff.mp hk).1)]
    exact hk
  · rw [va_up_self, ← zNc_ext h1 hc]
    refine hP c _ ?_
    rw [List.getElem?_append_left (by rw [zNet_len]; exact hc)]
    exact zNc_at G ad (n, g, τ2) hc
  · rw [va_up_ne _ _ (by omega)]
    exact hP (15 + (7 + (15 * (j - 1) + c))) _ (by rw [zNet_X]; exact zRest_j h1j hj hc)
theorem zRest_up {G : zG} {ad : Nat → Nat} {na : Nat → Nat → Nat} {ma π : Nat → Nat} {dep : Nat} {fl : Nat → Int32} {T : Nat → zS3} (t : zS3) : zRest G ad na ma π dep fl (va_up T 0 t) = zRest G ad na ma π dep fl T := by
  unfold zRest zOth
  congr 1
/-- all addresses differ -/
def zTd (ad : Nat → Nat) (na : Nat → Nat → Nat) (ma : Nat → Nat) : Prop := ∀ i j : Nat, i < 157 → j < 157 → (if i < 15 then ad i else if i < 22 then ma (i - 15) else na ((i - 22) / 15 + 1) ((i - 22) % 15)) = (if j < 15 then ad j else if j < 22 then ma (j - 15) else na ((j - 22) / 15 + 1) ((j - 22) % 15)) → i = j
/-- the class's cells -/
def zAll (ad : Nat → Nat) (na : Nat → Nat → Nat) (ma : Nat → Nat) : Nat → Prop := fun q => (∃ c, c < 15 ∧ q = ad c) ∨ (∃ i, i < 7 ∧ q = ma i) ∨ ∃ j c, 1 ≤ j ∧ j < 10 ∧ c < 15 ∧ q = na j c
theorem zAdr {G : zG} {ad : Nat → Nat} {na : Nat → Nat → Nat} {ma π : Nat → Nat} {dep : Nat} {fl : Nat → Int32} {T : Nat → zS3} {n : Nat} {g : Nat → Int32} {τ : zT} {k : Nat} {q : Nat × va_E} (h : (zNet G ad n g τ ++ zRest G ad na ma π dep fl T)[k]? = some q) : k < 157 ∧ q.1 = if k < 15 then ad k else if k < 22 then ma (k - 15) else na ((k - 22) / 15 + 1) ((k - 22) % 15) := by
  by_cases h1 : k < 15
  · rw [List.getElem?_append_left (by rw [zNet_len]; exact h1), zNc_at G ad (n, g, τ) h1] at h
    cases h
    rw [if_pos h1]
    exact ⟨by omega, zNc_ad G ad _ h1⟩
  · rw [show k = 15 + (k - 15) by omega, zNet_X] at h
    rw [if_neg h1]
    by_cases h2 : k < 22
    · rw [zRest_m (by omega)] at h
      rw [if_pos h2]
      refine ⟨by omega, ?_⟩
      have : k - 15 = 0 ∨ k - 15 = 1 ∨ k - 15 = 2 ∨ k - 15 = 3 ∨ k - 15 = 4 ∨ k - 15 = 5 ∨ k - 15 = 6 := by omega
      rcases this with e | e | e | e | e | e | e <;> (rw [e] at h ⊢; cases h; rfl)
    · rw [if_neg h2]
      rw [show k - 15 = 7 + (k - 22) by omega, zRest_o] at h
      have hl := zOth_lt h
      rw [zOth_at _ _ _ hl] at h
      cases h
      exact ⟨by omega, zNc_ad _ _ _ (by omega)⟩
theorem zAp_top {G : zG} {ad : Nat → Nat} {na : Nat → Nat → Nat} {ma : Nat → Nat} (hd : zTd ad na ma) (π : Nat → Nat) (dep : Nat) (fl : Nat → Int32) (T : Nat → zS3) : zAp G ad (zRest G ad na ma π dep fl T) (zAll ad na ma) := by
  intro n g τ
  refine ⟨fun i j p q hi hj hpq => ?_, fun k q hk => ?_⟩
  · obtain ⟨a1, a2⟩ := zAdr hi
    obtain ⟨b1, b2⟩ := zAdr hj
    exact hd i j a1 b1 (a2.symm.trans (hpq.trans b2))
  · obtain ⟨a1, a2⟩ := zAdr hk
    rw [a2]
    by_cases h1 : k < 15
    · rw [if_pos h1]
      exact Or.inl ⟨k, h1, rfl⟩
    · rw [if_neg h1]
      by_cases h2 : k < 22
      · rw [if_pos h2]
        exact Or.inr (Or.inl ⟨k - 15, by omega, rfl⟩)
      · rw [if_neg h2]
        exact Or.inr (Or.inr ⟨_, _, by omega, by omega, by omega, rfl⟩)
end
section
/-! ===== contracts under other words; rows of the class's own cells ===== -/
theorem z_lift {l : Launch} {G : zG} {A A2 : Nat → Prop} {y : MethodName} {ws : List Cond} {fr lo : Nat} {av : List Value} {r : Int32} {P' P2' : Heap → Prop} (h : ∀ H : Heap, P' H → ∃ P P2 : Heap → Prop, P H ∧ zMi l G A y ws fr lo av P r P2 ∧ ∀ H1 : Heap, H.size ≤ H1.size → (∀ q, q < H.size → ¬ A q → H1[q]? = H[q]?) → P2 H1 → P2' H1) (hA : ∀ q, A q → A2 q) : zMi l G A2 y ws fr lo av P' r P2' := by
  intro p e ha hc hk s m args below hf happ hp hk'
  obtain ⟨hav, hP, hK⟩ := hp
  obtain ⟨P, P2, h1, h2, h3⟩ := h s.heap hP
  obtain ⟨n, o, w1, w2, w3, ⟨⟨r1, u, e1, e2, hB⟩, hF⟩, L, hL, hfr⟩ := h2 p e ha hc hk s m args below hf happ ⟨hav, h1, hK⟩ hk'
  exact ⟨n, o, w1, w2, w3, ⟨⟨r1, u, e1, e2, h3 _ hF.1 hF.2 hB.1, hB.2⟩, hF.1, fun q hq hn => hF.2 q hq (fun z => hn (hA q z))⟩, L, hL, fun q hq => hA _ (hfr q hq)⟩
theorem z_liftv {l : Launch} {G : zG} {A A2 : Nat → Prop} {y : MethodName} {ws : List Cond} {fr lo : Nat} {av : List Value} {P' P2' : Heap → Prop} (h : ∀ H : Heap, P' H → ∃ P P2 : Heap → Prop, P H ∧ zMv l G A y ws fr lo av P P2 ∧ ∀ H1 : Heap, H.size ≤ H1.size → (∀ q, q < H.size → ¬ A q → H1[q]? = H[q]?) → P2 H1 → P2' H1) (hA : ∀ q, A q → A2 q) : zMv l G A2 y ws fr lo av P' P2' := by
  intro p e ha hc hk s m args below hf happ hp hk'
  obtain ⟨hav, hP, hK⟩ := hp
  obtain ⟨P, P2, h1, h2, h3⟩ := h s.heap hP
  obtain ⟨n, o, w1, w2, w3, ⟨⟨u, e1, e2, hB⟩, hF⟩, L, hL, hfr⟩ := h2 p e ha hc hk s m args below hf happ ⟨hav, h1, hK⟩ hk'
  exact ⟨n, o, w1, w2, w3, ⟨⟨u, e1, e2, h3 _ hF.1 hF.2 hB.1, hB.2⟩, hF.1, fun q hq hn => hF.2 q hq (fun z => hn (hA q z))⟩, L, hL, fun q hq => hA _ (hfr q hq)⟩
section ZTOP
variable {p : Program} {l : Launch} {e : Env} {R : Room} {s : State} {m : MethodId} {args : Array Value} {below : List Frame} {meth : Method} {c : Code} {H : Heap} {locs : List Loc} {cells slots : Nat} {Q : State → Prop}
variable {cc : ByteArray} {pc : Nat} {ls : Array Slot} {rest : List Value} {G : zG} {A : Nat → Prop} {H0 : Heap} {Ts : List Cond} {own : String} {index : Nat} {ad : Nat → Nat} {n N : Nat} {g : Nat → Int32} {τ : zT} {v : Value}
variable {na : Nat → Nat → Nat} {ma π : Nat → Nat} {dep : Nat} {fl : Nat → Int32} {T : Nat → zS3}
theorem zRest_at (X : va_W) (hX : X = zRest G ad na ma π dep fl T) {k : Nat} (hk : k < 7) : (zNet G ad n g τ ++ X)[15 + k]? = (zMis G ad na ma π dep fl)[k]? := by
  rw [zNet_X, hX]
  exact zRest_m hk
theorem zMis_p (hN : zNA G ad n N g (zRest G ad na ma π dep fl T) τ H) : va_P G.1 vwCl (zMis G ad na ma π dep fl) H := by
  obtain ⟨τ2, -, hP⟩ := hN
  intro k q hk
  refine hP (15 + k) q ?_
  rw [zNet_X, zRest_m (by simpa [zMis] using (List.getElem?_eq_some_iff.mp hk).1)]
  exact hk
theorem z_recF (hK : zK G s) (hN : zNA G ad n N g (zRest G ad na ma π dep fl T) τ H) : ∃ cell : Cell, H[ma 0]? = some cell ∧ cell.vm.isStatics = false ∧ s.vm.findClass RX4 = some cell.cls := va_recv hK (zMis_p hN) (ci := 4) (q0 := 0) rfl rfl
theorem z_recP1 (hK : zK G s) (hN : zNA G ad n N g (zRest G ad na ma π dep fl T) τ H) : ∃ cell : Cell, H[ma 1]? = some cell ∧ cell.vm.isStatics = false ∧ s.vm.findClass RX2 = some cell.cls := va_recv hK (zMis_p hN) (ci := 2) (q0 := 1) rfl rfl
theorem z_recP2 (hK : zK G s) (hN : zNA G ad n N g (zRest G ad na ma π dep fl T) τ H) : ∃ cell : Cell, H[ma 2]? = some cell ∧ cell.vm.isStatics = false ∧ s.vm.findClass RX2 = some cell.cls := va_recv hK (zMis_p hN) (ci := 2) (q0 := 2) rfl rfl
theorem z_recH (hK : zK G s) (hN : zNA G ad n N g (zRest G ad na ma π dep fl T) τ H) : ∃ cell : Cell, H[ma 3]? = some cell ∧ cell.vm.isStatics = false ∧ s.vm.findClass RX0 = some cell.cls := va_recv hK (zMis_p hN) (ci := 0) (q0 := 3) rfl rfl
theorem z_recJ (hK : zK G s) (hN : zNA G ad n N g (zRest G ad na ma π dep fl T) τ H) {j : Nat} (h1 : 1 ≤ j) (h10 : j < 10) : ∃ cell : Cell, H[na j 0]? = some cell ∧ cell.vm.isStatics = false ∧ s.vm.findClass RX1 = some cell.cls := by
  obtain ⟨τ2, -, hP⟩ := hN
  exact va_recv hK hP (ci := 1) (q0 := 15 + (7 + (15 * (j - 1) + 0))) rfl (by rw [zNet_X]; exact zRest_j h1 h10 (by decide))
/-- getfield of the class's object -/
theorem z_getF (hx : p.tables.exec = Jvm.exec) (hb : c.code = cc) (hts : ∀ w ∈ Ts, w.before args s = true) (hown : s.vm.findClass own = some m.cls) (hin : ∀ w ∈ wsX40, w ∈ Ts) (hK : zK G s) (hN : zNA G ad n N g (zRest G ad na ma π dep fl T) τ H) (k : Nat) (hk : k < 7) (hsm : (TX4 k).1 = RX4) (hl : (Cond.fieldLink own index RX4 (TX4 k).2.1 (TX4 k).2.2.1).before args s = true) (hv : ([.ref (ad 0), .ref (ma 1), .ref (na 1 0), .ref (ma 2), .ref (ma 3), .ref (ma 5), .ref (ma 6)] : List Value)[k]? = some v) (hdg : decode cc pc = .ok (.getfield index, 3))
    (kk : W p l e R s m args below meth c H locs cells slots Q (F0 m (pc + 3) ls (v :: rest))) : W p l e R s m args below meth c H locs cells slots Q (F0 m pc ls (.ref (ma 0) :: rest)) :=
  va_get (D := G.1) (ci := 4) (C := RX4) (T := TX4) (N := 7) hx hb hts hin hown hK (zMis_p hN) 0 rfl rfl k hk hl (fun _ h => hsm ▸ h) hv hdg kk
/-- getfield of the history -/
theorem z_getH (hx : p.tables.exec = Jvm.exec) (hb : c.code = cc) (hts : ∀ w ∈ Ts, w.before args s = true) (hown : s.vm.findClass own = some m.cls) (hin : ∀ w ∈ wsX00, w ∈ Ts) (hK : zK G s) (hN : zNA G ad n N g (zRest G ad na ma π dep fl T) τ H) (k : Nat) (hk : k < 2) (hsm : (TX0 k).1 = RX0) (hl : (Cond.fieldLink own index RX0 (TX0 k).2.1 (TX0 k).2.2.1).before args s = true) (hv : ([.ref (ma 4), .int (nI dep)] : List Value)[k]? = some v) (hdg : decode cc pc = .ok (.getfield index, 3))
    (kk : W p l e R s m args below meth c H locs cells slots Q (F0 m (pc + 3) ls (v :: rest))) : W p l e R s m args below meth c H locs cells slots Q (F0 m pc ls (.ref (ma 3) :: rest)) :=
  va_get (D := G.1) (ci := 0) (C := RX0) (T := TX0) (N := 2) hx hb hts hin hown hK (zMis_p hN) 3 rfl rfl k hk hl (fun _ h => hsm ▸ h) hv hdg kk
/-- aaload of the saved networks, of the snapshots -/
theorem z_aaldV (hx : p.tables.exec = Jvm.exec) (hb : c.code = cc) (hK : zK G s) (hN : zNA G ad n N g (zRest G ad na ma π dep fl T) τ H) {x : Int32} {i : Nat} (hxi : x = nI i) (hi : i < 6) (hdg : decode cc pc = .ok (.aaload, 1))
    (kk : W p l e R s m args below meth c H locs cells slots Q (F0 m (pc + 1) ls (.ref (na (π i) 0) :: rest))) : W p l e R s m args below meth c H locs cells slots Q (F0 m pc ls (.int x :: .ref (ma 4) :: rest)) := by
  subst hxi
  refine va_aldq hx hb hK (zMis_p hN) 4 2 (cA := G.2.2.2.1) (C := RX1) (n := 6) (f := fun i => some (na (π i) 0)) rfl rfl (vp_in_nI hi (by omega)) hdg ?_
  rw [nI_clamp (by omega)]
  exact kk
theorem z_aaldP (hx : p.tables.exec = Jvm.exec) (hb : c.code = cc) (hK : zK G s) (hN : zNA G ad n N g (zRest G ad na ma π dep fl T) τ H) {x : Int32} {i : Nat} (hxi : x = nI i) (hi : i < 2) (hdg : decode cc pc = .ok (.aaload, 1))
    (kk : W p l e R s m args below meth c H locs cells slots Q (F0 m (pc + 1) ls (.ref (na (8 + i) 0) :: rest))) : W p l e R s m args below meth c H locs cells slots Q (F0 m pc ls (.int x :: .ref (ma 5) :: rest)) := by
  subst hxi
  refine va_aldq hx hb hK (zMis_p hN) 5 2 (cA := G.2.2.2.1) (C := RX1) (n := 2) (f := fun i => some (na (8 + i) 0)) rfl rfl (vp_in_nI hi (by omega)) hdg ?_
  rw [nI_clamp (by omega)]
  exact kk
theorem z_zaldF (hx : p.tables.exec = Jvm.exec) (hb : c.code = cc) (hK : zK G s) (hN : zNA G ad n N g (zRest G ad na ma π dep fl T) τ H) {x : Int32} {i : Nat} (hxi : x = nI i) (hi : i < 2) (hdg : decode cc pc = .ok (.baload, 1))
    (kk : W p l e R s m args below meth c H locs cells slots Q (F0 m (pc + 1) ls (.int (fl i) :: rest))) : W p l e R s m args below meth c H locs cells slots Q (F0 m pc ls (.int x :: .ref (ma 6) :: rest)) := by
  subst hxi
  refine va_zald hx hb hK (zMis_p hN) 6 3 (cA := G.2.2.2.2) (n := 2) (f := fl) rfl rfl (vp_in_nI hi (by omega)) hdg ?_
  rw [nI_clamp (by omega)]
  exact kk
/-- a store into one of the class's own cells -/
theorem zMis_set {π2 : Nat → Nat} {dep2 : Nat} {fl2 : Nat → Int32} {k : Nat} (hk : k < 7) {x : Nat × va_E} (h : (zMis G ad na ma π dep fl).set k x = zMis G ad na ma π2 dep2 fl2) : (zNet G ad n g τ ++ zRest G ad na ma π dep fl T).set (15 + k) x = zNet G ad n g τ ++ zRest G ad na ma π2 dep2 fl2 T := by
  rw [List.set_append_right _ _ (by rw [zNet_len]; omega), zNet_len, show 15 + k - 15 = k by omega]
  unfold zRest
  rw [List.set_append_left _ _ (by simpa [zMis] using hk), h]
theorem z_putH (hx : p.tables.exec = Jvm.exec) (hb : c.code = cc) (hts : ∀ w ∈ Ts, w.before args s = true) (hown : s.vm.findClass own = some m.cls) (hin : ∀ w ∈ wsX00, w ∈ Ts) (hK : zK G s) (hA : zAp G ad (zRest G ad na ma π dep fl T) A) (hS : va_S A H0 H locs) (hN : zNA G ad n N g (zRest G ad na ma π dep fl T) τ H) (hl : (Cond.fieldLink own index RX0 (TX0 1).2.1 (TX0 1).2.2.1).before args s = true) {w : Int32} (dep2 : Nat) (hw : w = nI dep2) (hdg : decode cc pc = .ok (.putfield index, 3))
    (kk : ∀ (H1 : Heap) (locs1 : List Loc), zNA G ad n N g (zRest G ad na ma π dep2 fl T) τ H1 → va_S A H0 H1 locs1 → W p l e R s m args below meth c H1 locs1 cells slots Q (F0 m (pc + 3) ls rest)) : W p l e R s m args below meth c H locs cells slots Q (F0 m pc ls (.int w :: .ref (ma 3) :: rest)) := by
  subst hw
  obtain ⟨τ2, hg, hP⟩ := hN
  refine va_put (D := G.1) (ci := 0) (C := RX0) (T := TX0) (N := 2) (ty := .int) (v := .int (nI dep2)) hx hb hts hin tyX0 tyX0_ok nmX0 hown hK hP (hA n g τ2) hS (15 + 3) (zRest_at _ rfl (by decide)) rfl 1 (by decide) hl (fun _ h => h) rfl (by decide +kernel) rfl rfl (Nat.le_of_ble_eq_true rfl) hdg (fun H1 locs1 hP1 hD1 hS1 => kk H1 locs1 ⟨τ2, hg, ?_⟩ hS1)
  rwa [zMis_set (π2 := π) (dep2 := dep2) (fl2 := fl) (by decide) rfl] at hP1
theorem z_zastF (hx : p.tables.exec = Jvm.exec) (hb : c.code = cc) (hK : zK G s) (hA : zAp G ad (zRest G ad na ma π dep fl T) A) (hS : va_S A H0 H locs) (hN : zNA G ad n N g (zRest G ad na ma π dep fl T) τ H) {x w : Int32} {i : Nat} (hw : vp_nar .boolean w = w) (hxi : x = nI i) (hi : i < 2) (hdg : decode cc pc = .ok (.bastore, 1))
    (kk : ∀ (H1 : Heap) (locs1 : List Loc), zNA G ad n N g (zRest G ad na ma π dep (upd fl i w) T) τ H1 → va_S A H0 H1 locs1 → W p l e R s m args below meth c H1 locs1 cells slots Q (F0 m (pc + 1) ls rest)) : W p l e R s m args below meth c H locs cells slots Q (F0 m pc ls (.int w :: .int x :: .ref (ma 6) :: rest)) := by
  subst hxi
  obtain ⟨τ2, hg, hP⟩ := hN
  refine va_zast hx hb hK hP (hA n g τ2) hS (15 + 6) 3 (cA := G.2.2.2.2) (n := 2) (f := fl) (zRest_at _ rfl (by decide)) rfl (vp_in_nI hi (by omega)) hdg (fun H1 locs1 hP1 hD1 hS1 => kk H1 locs1 ⟨τ2, hg, ?_⟩ hS1)
  rw [nI_clamp (by omega), hw] at hP1
  rwa [zMis_set (π2 := π) (dep2 := dep) (fl2 := upd fl i w) (by decide) rfl] at hP1
theorem z_aastV (hx : p.tables.exec = Jvm.exec) (hb : c.code = cc) (hK : zK G s) (hA : zAp G ad (zRest G ad na ma π dep fl T) A) (hS : va_S A H0 H locs) (hN : zNA G ad n N g (zRest G ad na ma π dep fl T) τ H) {x : Int32} {i j : Nat} (hxi : x = nI i) (hi : i < 6) (hj1 : 1 ≤ j) (hj : j < 10) (hdg : decode cc pc = .ok (.aastore, 1))
    (kk : ∀ (H1 : Heap) (locs1 : List Loc), zNA G ad n N g (zRest G ad na ma (va_up π i j) dep fl T) τ H1 → va_S A H0 H1 locs1 → W p l e R s m args below meth c H1 locs1 cells slots Q (F0 m (pc + 1) ls rest)) : W p l e R s m args below meth c H locs cells slots Q (F0 m pc ls (.ref (na j 0) :: .int x :: .ref (ma 4) :: rest)) := by
  subst hxi
  obtain ⟨τ2, hg, hP⟩ := hN
  refine va_astq hx hb hK hP (hA n g τ2) hS (15 + 4) 2 (15 + (7 + (15 * (j - 1) + 0))) 1 (cA := G.2.2.2.1) (r := (RX1, TX1, 11)) (n := 6) (f := fun i => some (na (π i) 0)) (zRest_at _ rfl (by decide)) rfl (by rw [zNet_X]; exact zRest_j hj1 hj (by decide)) rfl (vp_in_nI hi (by omega)) hdg (fun H1 locs1 hP1 hD1 hS1 => kk H1 locs1 ⟨τ2, hg, ?_⟩ hS1)
  rw [nI_clamp (by omega)] at hP1
  have e : va_up (fun i => some (na (π i) 0)) i (some (na j 0)) = fun k => some (na ((va_up π i j) k) 0) := by
    funext k
    unfold va_up
    by_cases h : k = i
    · rw [if_pos h, if_pos h]
    · rw [if_neg h, if_neg h]
  rw [e] at hP1
  rwa [zMis_set (π2 := va_up π i j) (dep2 := dep) (fl2 := fl) (by decide) rfl] at hP1
end ZTOP
end
section
/-! ===== one network's contracts over the whole class ===== -/
def zTwo (a b : Nat → Nat) : Prop := (∀ c d : Nat, c < 15 → d < 15 → a c = a d → c = d) ∧ (∀ c d : Nat, c < 15 → d < 15 → b c = b d → c = d) ∧ ∀ c d : Nat, c < 15 → d < 15 → a c ≠ b d
theorem zTwo.symm {a b : Nat → Nat} (h : zTwo a b) : zTwo b a := ⟨h.2.1, h.1, fun c d hc hd e => h.2.2 d c hd hc e.symm⟩
def zA1 (a : Nat → Nat) : Nat → Prop := fun q => ∃ c, c < 15 ∧ q = a c
def zA2 (a b : Nat → Nat) : Nat → Prop := fun q => zA1 a q ∨ zA1 b q
theorem zNet_adr {G : zG} {ad : Nat → Nat} {n : Nat} {g : Nat → Int32} {τ : zT} {X : va_W} {k : Nat} {q : Nat × va_E} (hk : k < 15) (h : (zNet G ad n g τ ++ X)[k]? = some q) : q.1 = ad k := by
  rw [List.getElem?_append_left (by rw [zNet_len]; exact hk), zNc_at G ad (n, g, τ) hk] at h
  cases h
  exact zNc_ad G ad _ hk
theorem zAp_two {G : zG} {a b : Nat → Nat} (h : zTwo a b) (n2 : Nat) (g2 : Nat → Int32) (τ2 : zT) : zAp G a (zNet G b n2 g2 τ2) (zA2 a b) := by
  intro n g τ
  have key : ∀ (k : Nat) (q : Nat × va_E), (zNet G a n g τ ++ zNet G b n2 g2 τ2)[k]? = some q → (k < 15 ∧ q.1 = a k) ∨ (15 ≤ k ∧ k < 30 ∧ q.1 = b (k - 15)) := by
    intro k q hk
    by_cases h1 : k < 15
    · exact Or.inl ⟨h1, zNet_adr h1 hk⟩
    · rw [show k = 15 + (k - 15) by omega, zNet_X] at hk
      have hl := (List.getElem?_eq_some_iff.mp hk).1
      rw [zNet_len] at hl
      exact Or.inr ⟨by omega, by omega, zNet_adr (X := []) hl (by rw [List.append_nil]; exact hk)⟩
  refine ⟨fun i j p q hi hj hpq => ?_, fun k q hk => ?_⟩
  · rcases key i p hi with ⟨i1, i2⟩ | ⟨i1, i2, i3⟩ <;> rcases key j q hj with ⟨j1, j2⟩ | ⟨j1, j2, j3⟩
    · exact h.1 i j i1 j1 (i2.symm.trans (hpq.trans j2))
    · exact absurd (i2.symm.trans (hpq.trans j3)) (h.2.2 i (j - 15) i1 (by omega))
    · exact absurd (j2.symm.trans (hpq.symm.trans i3)) (h.2.2 j (i - 15) j1 (by omega))
    · have := h.2.1 (i - 15) (j - 15) (by omega) (by omega) (i3.symm.trans (hpq.trans j3))
      omega
  · rcases key k q hk with ⟨i1, i2⟩ | ⟨i1, i2, i3⟩
    · exact Or.inl ⟨k, i1, i2⟩
    · exact Or.inr ⟨k - 15, by omega, i3⟩
section ZL
variable {ad : Nat → Nat} {na : Nat → Nat → Nat} {ma : Nat → Nat}
theorem zTd.aa (h : zTd ad na ma) {c d : Nat} (hc : c < 15) (hd : d < 15) (e : ad c = ad d) : c = d := h c d (by omega) (by omega) (by rw [if_pos hc, if_pos hd]; exact e)
theorem zTd.mm (h : zTd ad na ma) {i j : Nat} (hi : i < 7) (hj : j < 7) (e : ma i = ma j) : i = j := by
  have := h (15 + i) (15 + j) (by omega) (by omega) (by rw [if_neg (by omega), if_pos (by omega), if_neg (by omega), if_pos (by omega), show 15 + i - 15 = i by omega, show 15 + j - 15 = j by omega]; exact e)
  omega
theorem zTd.nn (h : zTd ad na ma) {j c k d : Nat} (hj : 1 ≤ j) (hj2 : j < 10) (hc : c < 15) (hk : 1 ≤ k) (hk2 : k < 10) (hd : d < 15) (e : na j c = na k d) : j = k ∧ c = d := by
  have := h (22 + (15 * (j - 1) + c)) (22 + (15 * (k - 1) + d)) (by omega) (by omega) (by rw [if_neg (by omega), if_neg (by omega), if_neg (by omega), if_neg (by omega), show (22 + (15 * (j - 1) + c) - 22) / 15 + 1 = j by omega, show (22 + (15 * (j - 1) + c) - 22) % 15 = c by omega, show (22 + (15 * (k - 1) + d) - 22) / 15 + 1 = k by omega, show (22 + (15 * (k - 1) + d) - 22) % 15 = d by omega]; exact e)
  omega
theorem zTd.am (h : zTd ad na ma) {c i : Nat} (hc : c < 15) (hi : i < 7) : ad c ≠ ma i := fun e => by
  have := h c (15 + i) (by omega) (by omega) (by rw [if_pos hc, if_neg (by omega), if_pos (by omega), show 15 + i - 15 = i by omega]; exact e)
  omega
theorem zTd.an (h : zTd ad na ma) {c j d : Nat} (hc : c < 15) (hj : 1 ≤ j) (hj2 : j < 10) (hd : d < 15) : ad c ≠ na j d := fun e => by
  have := h c (22 + (15 * (j - 1) + d)) (by omega) (by omega) (by rw [if_pos hc, if_neg (by omega), if_neg (by omega), show (22 + (15 * (j - 1) + d) - 22) / 15 + 1 = j by omega, show (22 + (15 * (j - 1) + d) - 22) % 15 = d by omega]; exact e)
  omega
theorem zTd.mn (h : zTd ad na ma) {i j d : Nat} (hi : i < 7) (hj : 1 ≤ j) (hj2 : j < 10) (hd : d < 15) : ma i ≠ na j d := fun e => by
  have := h (15 + i) (22 + (15 * (j - 1) + d)) (by omega) (by omega) (by rw [if_neg (by omega), if_pos (by omega), if_neg (by omega), if_neg (by omega), show 15 + i - 15 = i by omega, show (22 + (15 * (j - 1) + d) - 22) / 15 + 1 = j by omega, show (22 + (15 * (j - 1) + d) - 22) % 15 = d by omega]; exact e)
  omega
theorem zTd.two (h : zTd ad na ma) {j : Nat} (hj : 1 ≤ j) (hj2 : j < 10) : zTwo ad (na j) := ⟨fun _ _ hc hd e => h.aa hc hd e, fun _ _ hc hd e => (h.nn hj hj2 hc hj hj2 hd e).2, fun _ _ hc hd => h.an hc hj hj2 hd⟩
variable {G : zG} {π : Nat → Nat} {dep : Nat} {fl : Nat → Int32} {T : Nat → zS3} {H H1 : Heap}
theorem zRest_congr {T2 : Nat → zS3} (h : ∀ j, 1 ≤ j → j < 10 → T j = T2 j) : zRest G ad na ma π dep fl T = zRest G ad na ma π dep fl T2 := by
  unfold zRest zOth
  congr 1
  apply List.map_congr_left
  intro k hk
  have := List.mem_range.mp hk
  rw [h (k / 15 + 1) (by omega) (by omega)]
theorem zMis_adr {k : Nat} {q : Nat × va_E} (hk : (zMis G ad na ma π dep fl)[k]? = some q) : k < 7 ∧ q.1 = ma k := by
  have hl : k < 7 := by simpa [zMis] using (List.getElem?_eq_some_iff.mp hk).1
  have : k = 0 ∨ k = 1 ∨ k = 2 ∨ k = 3 ∨ k = 4 ∨ k = 5 ∨ k = 6 := by omega
  rcases this with rfl | rfl | rfl | rfl | rfl | rfl | rfl <;> (cases hk; exact ⟨by decide, rfl⟩)
/-- two networks changed: the rest stays -/
theorem zBig.keep (hd : zTd ad na ma) (hB : zBig G ad na ma π dep fl T H) {j : Nat} (hj : 1 ≤ j) (hj2 : j < 10) {t0 tj : zS3} (h0 : ∀ c, c < 15 → va_at G.1 vwCl (zNc G ad t0 c) H1) (h1 : ∀ c, c < 15 → va_at G.1 vwCl (zNc G (na j) tj c) H1) (hk : ∀ q, q < H.size → ¬ zA2 ad (na j) q → H1[q]? = H[q]?) : zBig G ad na ma π dep fl (va_up (va_up T 0 t0) j tj) H1 := by
  refine ⟨fun k q hq => ?_, fun c hc => ?_, fun i c hi hi2 hc => ?_⟩
  · obtain ⟨a1, a2⟩ := zMis_adr hq
    refine (hB.1 k q hq).kept (hk _ (hB.1 k q hq).lt (fun z => ?_))
    rcases z with ⟨c, hc, e⟩ | ⟨c, hc, e⟩
    · exact hd.am hc a1 (e.symm.trans a2)
    · exact hd.mn a1 hj hj2 hc (a2.symm.trans e)
  · rw [va_up_ne _ _ (by omega), va_up_self]
    exact h0 c hc
  · by_cases hij : i = j
    · subst hij
      rw [va_up_self]
      exact h1 c hc
    · rw [va_up_ne _ _ hij, va_up_ne _ _ (by omega)]
      have hx := hB.2.2 i c hi hi2 hc
      refine hx.kept (hk _ hx.lt (fun z => ?_))
      rw [zNc_ad G (na i) (T i) hc] at z
      rcases z with ⟨d, hd2, e⟩ | ⟨d, hd2, e⟩
      · exact hd.an hd2 hi hi2 hc e.symm
      · exact hij (hd.nn hi hi2 hc hj hj2 hd2 e).1
/-- the live network changed, and a cell of the class's own kept -/
theorem zBig.keep0 (hd : zTd ad na ma) (hB : zBig G ad na ma π dep fl T H) {t0 : zS3} {r : Nat} (hr : r < 7) (h0 : ∀ c, c < 15 → va_at G.1 vwCl (zNc G ad t0 c) H1) (h1 : ∀ q, (zMis G ad na ma π dep fl)[r]? = some q → va_at G.1 vwCl q H1) (hk : ∀ q, q < H.size → ¬ (zA1 ad q ∨ q = ma r) → H1[q]? = H[q]?) : zBig G ad na ma π dep fl (va_up T 0 t0) H1 := by
  refine ⟨fun k q hq => ?_, fun c hc => ?_, fun i c hi hi2 hc => ?_⟩
  · obtain ⟨a1, a2⟩ := zMis_adr hq
    by_cases hkr : k = r
    · subst hkr
      exact h1 q hq
    · refine (hB.1 k q hq).kept (hk _ (hB.1 k q hq).lt (fun z => ?_))
      rcases z with ⟨c, hc, e⟩ | e
      · exact hd.am hc a1 (e.symm.trans a2)
      · exact hkr (hd.mm a1 hr (a2.symm.trans e))
  · rw [va_up_self]
    exact h0 c hc
  · rw [va_up_ne _ _ (by omega)]
    have hx := hB.2.2 i c hi hi2 hc
    refine hx.kept (hk _ hx.lt (fun z => ?_))
    rw [zNc_ad G (na i) (T i) hc] at z
    rcases z with ⟨d, hd2, e⟩ | e
    · exact hd.an hd2 hi hi2 hc e.symm
    · exact hd.mn hr hi hi2 hc e.symm
theorem zBig.keepj (hd : zTd ad na ma) (hB : zBig G ad na ma π dep fl T H) {j : Nat} (hj : 1 ≤ j) (hj2 : j < 10) {tj : zS3} {r : Nat} (hr : r < 7) (h1 : ∀ c, c < 15 → va_at G.1 vwCl (zNc G (na j) tj c) H1) (h2 : ∀ q, (zMis G ad na ma π dep fl)[r]? = some q → va_at G.1 vwCl q H1) (hk : ∀ q, q < H.size → ¬ (zA1 (na j) q ∨ q = ma r) → H1[q]? = H[q]?) : zBig G ad na ma π dep fl (va_up T j tj) H1 := by
  refine ⟨fun k q hq => ?_, fun c hc => ?_, fun i c hi hi2 hc => ?_⟩
  · obtain ⟨a1, a2⟩ := zMis_adr hq
    by_cases hkr : k = r
    · subst hkr
      exact h2 q hq
    · refine (hB.1 k q hq).kept (hk _ (hB.1 k q hq).lt (fun z => ?_))
      rcases z with ⟨c, hc, e⟩ | e
      · exact hd.mn a1 hj hj2 hc (a2.symm.trans e)
      · exact hkr (hd.mm a1 hr (a2.symm.trans e))
  · rw [va_up_ne _ _ (by omega)]
    have hx := hB.2.1 c hc
    refine hx.kept (hk _ hx.lt (fun z => ?_))
    rw [zNc_ad G ad (T 0) hc] at z
    rcases z with ⟨d, hd2, e⟩ | e
    · exact hd.an hc hj hj2 hd2 e
    · exact hd.am hc hr e
  · by_cases hij : i = j
    · subst hij
      rw [va_up_self]
      exact h1 c hc
    · rw [va_up_ne _ _ hij]
      have hx := hB.2.2 i c hi hi2 hc
      refine hx.kept (hk _ hx.lt (fun z => ?_))
      rw [zNc_ad G (na i) (T i) hc] at z
      rcases z with ⟨d, hd2, e⟩ | e
      · exact hij (hd.nn hi hi2 hc hj hj2 hd2 e).1
      · exact hd.mn hr hi hi2 hc e.symm
end ZL
theorem zNA.cell {G : zG} {ad : Nat → Nat} {n : Nat} {g : Nat → Int32} {X : va_W} {τ : zT} {H : Heap} (h : zNA G ad n 12 g X τ H) {c : Nat} (hc : c < 15) : va_at G.1 vwCl (zNc G ad (n, g, τ) c) H := by
  obtain ⟨τ2, h1, hP⟩ := h
  rw [← zNc_ext h1 hc]
  refine hP c _ ?_
  rw [List.getElem?_append_left (by rw [zNet_len]; exact hc)]
  exact zNc_at G ad (n, g, τ2) hc
theorem zCells {G : zG} {ad : Nat → Nat} {t : zS3} {H : Heap} (h : ∀ c, c < 15 → va_at G.1 vwCl (zNc G ad t c) H) : va_P G.1 vwCl (zNet G ad t.1 t.2.1 t.2.2) H := by
  intro k q hk
  have hl : k < 15 := by
    have := (List.getElem?_eq_some_iff.mp hk).1
    rwa [zNet_len] at this
  rw [zNc_at G ad t hl] at hk
  cases hk
  exact h k hl
theorem zRest.net {G : zG} {ad : Nat → Nat} {na : Nat → Nat → Nat} {ma π : Nat → Nat} {dep : Nat} {fl : Nat → Int32} {T : Nat → zS3} {n N : Nat} {g : Nat → Int32} {τ : zT} {H : Heap} (h : zNA G ad n N g (zRest G ad na ma π dep fl T) τ H) {j : Nat} (hj : 1 ≤ j) (hj2 : j < 10) : zNA G (na j) (T j).1 12 (T j).2.1 [] (T j).2.2 H := by
  obtain ⟨τ2, -, hP⟩ := h
  refine ⟨(T j).2.2, zAg.rf, ?_⟩
  rw [List.append_nil]
  exact zCells (fun c hc => hP (15 + (7 + (15 * (j - 1) + c))) _ (by rw [zNet_X]; exact zRest_j hj hj2 hc))
/-- copyFrom into network j of the live one -/
theorem t_copy_j {l : Launch} {G : zG} {ad : Nat → Nat} {na : Nat → Nat → Nat} {ma : Nat → Nat} (hd : zTd ad na ma) (π : Nat → Nat) (dep : Nat) (fl : Nat → Int32) (T : Nat → zS3) (n : Nat) (hn : n ≤ 12) (g : Nat → Int32) (τ : zT) {j : Nat} (hj : 1 ≤ j) (hj2 : j < 10) : zMv l G (zAll ad na ma) yX1_copyFrom wsX1_copyFrom 1 21 [.ref (na j 0), .ref (ad 0)] (zNA G ad n 12 g (zRest G ad na ma π dep fl T) τ) (zNA G ad n 12 g (zRest G ad na ma π dep fl (va_up T j (n, g, zCpG τ (zIt (zCpS τ) n (T j).2.2)))) τ) := by
  refine z_liftv (A := zA2 (na j) ad) (fun H hN => ?_) (fun q hq => ?_)
  · have hB := zBig.ofN hN
    refine ⟨zNA G (na j) (T j).1 12 (T j).2.1 (zNet G ad n g τ) (T j).2.2, _, ⟨(T j).2.2, zAg.rf, ?_⟩, c_X1_copyFrom l G (zA2 (na j) ad) (na j) ad (T j).1 n 12 (T j).2.1 g τ (zAp_two (hd.two hj hj2).symm n g τ) hn (Nat.le_refl 12) (T j).2.2, fun H1 hz hk h2 => ?_⟩
    · refine va_P.app (zCells (t := T j) (fun c hc => ?_)) (zCells (t := (n, g, τ)) (fun c hc => ?_))
      · have := hB.2.2 j c hj hj2 hc
        rwa [va_up_ne _ _ (by omega)] at this
      · have := hB.2.1 c hc
        rwa [va_up_self] at this
    · have hb := h2.other
      have hr := hB.keep hd hj hj2 (t0 := (n, g, τ)) (fun c hc => hb.cell hc) (fun c hc => h2.cell hc) (fun q hq hA => hk q hq (fun z => hA (z.elim Or.inr Or.inl)))
      have hN2 := hr.toN
      rw [va_up_ne _ _ (by omega : (0 : Nat) ≠ j), va_up_self] at hN2
      rw [zRest_congr (T := va_up T j _) (T2 := va_up (va_up (va_up T 0 (n, g, τ)) 0 (n, g, τ)) j (n, g, zCpG τ (zIt (zCpS τ) n (T j).2.2)))]
      · exact hN2
      · intro i hi hi2
        by_cases hij : i = j
        · subst hij
          rw [va_up_self, va_up_self]
        · rw [va_up_ne _ _ hij, va_up_ne _ _ hij, va_up_ne _ _ (by omega), va_up_ne _ _ (by omega)]
  · rcases hq with ⟨c, hc, e⟩ | ⟨c, hc, e⟩
    · exact Or.inr (Or.inr ⟨j, c, hj, hj2, hc, e⟩)
    · exact Or.inl ⟨c, hc, e⟩
/-- copyFrom into the live network of network j -/
theorem t_copy_0 {l : Launch} {G : zG} {ad : Nat → Nat} {na : Nat → Nat → Nat} {ma : Nat → Nat} (hd : zTd ad na ma) (π : Nat → Nat) (dep : Nat) (fl : Nat → Int32) (T : Nat → zS3) (n : Nat) (g : Nat → Int32) (τ : zT) {j : Nat} (hj : 1 ≤ j) (hj2 : j < 10) (hn : (T j).1 ≤ 12) : zMv l G (zAll ad na ma) yX1_copyFrom wsX1_copyFrom 1 21 [.ref (ad 0), .ref (na j 0)] (zNA G ad n 12 g (zRest G ad na ma π dep fl T) τ) (zNA G ad (T j).1 12 (T j).2.1 (zRest G ad na ma π dep fl T) (zCpG (T j).2.2 (zIt (zCpS (T j).2.2) (T j).1 τ))) := by
  refine z_liftv (A := zA2 ad (na j)) (fun H hN => ?_) (fun q hq => ?_)
  · have hB := zBig.ofN hN
    refine ⟨zNA G ad n 12 g (zNet G (na j) (T j).1 (T j).2.1 (T j).2.2) τ, _, ⟨τ, zAg.rf, ?_⟩, c_X1_copyFrom l G (zA2 ad (na j)) ad (na j) n (T j).1 12 g (T j).2.1 (T j).2.2 (zAp_two (hd.two hj hj2) _ _ _) hn (Nat.le_refl 12) τ, fun H1 hz hk h2 => ?_⟩
    · refine va_P.app (zCells (t := (n, g, τ)) (fun c hc => ?_)) (zCells (t := T j) (fun c hc => ?_))
      · have := hB.2.1 c hc
        rwa [va_up_self] at this
      · have := hB.2.2 j c hj hj2 hc
        rwa [va_up_ne _ _ (by omega)] at this
    · have hb := h2.other
      have hr := hB.keep hd hj hj2 (tj := T j) (fun c hc => h2.cell hc) (fun c hc => hb.cell hc) (fun q hq hA => hk q hq hA)
      have hN2 := hr.toN
      rw [va_up_ne _ _ (by omega : (0 : Nat) ≠ j), va_up_self] at hN2
      rw [zRest_congr (T2 := T)] at hN2
      · exact hN2
      · intro i hi hi2
        by_cases hij : i = j
        · subst hij
          rw [va_up_self]
        · rw [va_up_ne _ _ hij, va_up_ne _ _ (by omega), va_up_ne _ _ (by omega)]
  · rcases hq with ⟨c, hc, e⟩ | ⟨c, hc, e⟩
    · exact Or.inl ⟨c, hc, e⟩
    · exact Or.inr (Or.inr ⟨j, c, hj, hj2, hc, e⟩)
end
section
/-! ===== the history's row, turned by one ===== -/
def zRo (π : Nat → Nat) (i : Nat) : Nat → Nat := fun x => if x + 1 < i then π (x + 1) else π x
def zRot (π : Nat → Nat) : Nat → Nat := va_up (zRo π 6) 5 (π 0)
theorem zRo_1 (π : Nat → Nat) : zRo π 1 = π := by
  funext x
  unfold zRo
  rw [if_neg (by omega)]
theorem zRo_s (π : Nat → Nat) {i : Nat} (hi : 1 ≤ i) : va_up (zRo π i) (i - 1) ((zRo π i) i) = zRo π (i + 1) := by
  funext x
  unfold va_up zRo
  by_cases h : x = i - 1
  · rw [if_pos h, if_neg (by omega), if_pos (by omega), h, show i - 1 + 1 = i by omega]
  · rw [if_neg h]
    by_cases h2 : x + 1 < i
    · rw [if_pos h2, if_pos (by omega)]
    · rw [if_neg h2, if_neg (by omega)]
def zPi (π : Nat → Nat) : Prop := (∀ i, i < 6 → 2 ≤ π i ∧ π i < 8) ∧ ∀ i j, i < 6 → j < 6 → π i = π j → i = j
theorem zRo_b {π : Nat → Nat} (h : zPi π) {i : Nat} (hi : i < 6) : 1 ≤ zRo π i i ∧ zRo π i i < 10 := by
  unfold zRo
  rw [if_neg (by omega)]
  have := h.1 i hi
  omega
theorem zRot_at (π : Nat → Nat) {i : Nat} (hi : i < 6) : zRot π i = if i < 5 then π (i + 1) else π 0 := by
  unfold zRot va_up zRo
  by_cases h : i = 5
  · rw [if_pos h, if_neg (by omega)]
  · rw [if_neg h, if_pos (by omega), if_pos (by omega)]
theorem zRot_pi {π : Nat → Nat} (h : zPi π) : zPi (zRot π) := by
  refine ⟨fun i hi => ?_, fun i j hi hj e => ?_⟩
  · rw [zRot_at π hi]
    split
    · exact h.1 _ (by omega)
    · exact h.1 _ (by omega)
  · rw [zRot_at π hi, zRot_at π hj] at e
    by_cases hi5 : i < 5 <;> by_cases hj5 : j < 5
    · rw [if_pos hi5, if_pos hj5] at e
      have := h.2 _ _ (by omega) (by omega) e
      omega
    · rw [if_pos hi5, if_neg hj5] at e
      have := h.2 _ _ (by omega) (by omega) e
      omega
    · rw [if_neg hi5, if_pos hj5] at e
      have := h.2 _ _ (by omega) (by omega) e
      omega
    · omega
def zPp (d : Nat) (π : Nat → Nat) : Nat → Nat := if d < 6 then π else zRot π
def zPd2 (d : Nat) : Nat := if d < 6 then d else 5
theorem zPp_pi {d : Nat} {π : Nat → Nat} (h : zPi π) : zPi (zPp d π) := by
  unfold zPp
  split
  · exact h
  · exact zRot_pi h
/-- a copy of the live network -/
def zCpy (n : Nat) (g : Nat → Int32) (τ : zT) (t : zS3) : zS3 := (n, g, zCpG τ (zIt (zCpS τ) n t.2.2))
end
section
/-! rows laid by my own program (wip/whole/gen) -/
theorem in_X0_dropOldest_X0 : ∀ w ∈ wsX00, w ∈ wsX0_dropOldest := by decide +kernel
set_option maxHeartbeats 4000000 in
set_option maxRecDepth 100000 in
theorem h_X0_dropOldest (l : Launch) (G : zG) (ad : Nat → Nat) (na : Nat → Nat → Nat) (ma : Nat → Nat) (hd : zTd ad na ma) (π : Nat → Nat) (hπ : zPi π) (d : Nat) (hd6 : d ≤ 6) (fl : Nat → Int32) (T : Nat → zS3) (n : Nat) (hn12 : n ≤ 12) (g : Nat → Int32) (h6 : d = 6) (τ : zT) : zMv l G (zAll ad na ma) yX0_dropOldest wsX0_dropOldest 0 0 [.ref (ma 3)] (zNA G ad n 12 g (zRest G ad na ma π d fl T) τ) (zNA G ad n 12 g (zRest G ad na ma (zRot π) 5 fl T) τ) := by
  refine z_met (cc := cX0_dropOldest) (maxL := 3) (ret := none) (by decide) rfl (Nat.le_of_ble_eq_true rfl) ?_
  intro p e s m below meth c ls S hr hlk hnm hN hK hl
  have S : CallFix p m c cX0_dropOldest 3 s _ wsX0_dropOldest RX0 := S
  obtain ⟨hx, hb, hml, hown, hts⟩ := id S
  have hN12 : 12 ≤ 12 := Nat.le_refl 12
  have hA := zAp_top (G := G) hd π d fl T
  have hS : va_S (zAll ad na ma) s.heap s.heap [] := va_S.rf
  have hl : lv_has ls 3 [(0, .ref (ma 3))] := hl
  refine lv_aload_n hx hb dX0_dropOldest_0 rfl (lv_at hl 0 rfl) ?_
  refine z_getH (v := .ref (ma 4)) hx hb hts hown in_X0_dropOldest_X0 hK hN 0 (by decide) rfl (hts _ (List.mem_of_getElem? (i := 1) (by decide +kernel))) rfl dX0_dropOldest_1 ?_
  refine lv_iconst (v := 0) hx hb dX0_dropOldest_4 (by decide) ?_
  refine z_aaldV (i := 0) hx hb hK hN (by decide) (by omega) dX0_dropOldest_5 ?_
  refine lv_astore_n (lv' := [(1, .ref (na (π 0) 0)), (0, .ref (ma 3))]) hx hb dX0_dropOldest_6 rfl hl (by decide) rfl (fun ls hl => ?_)
  refine lv_iconst (v := 1) hx hb dX0_dropOldest_7 (by decide) ?_
  refine lv_istore_n (lv' := [(2, .int 1), (1, .ref (na (π 0) 0)), (0, .ref (ma 3))]) hx hb dX0_dropOldest_8 rfl hl (by decide) rfl (fun ls hl => ?_)
  have loop1 : ∀ (f1 i : Nat) (H : Heap) (locs : List Loc) (ls : Array Slot), 1 ≤ i → i ≤ 6 → 6 < i + f1 → zNA G ad n 12 g (zRest G ad na ma (zRo π i) d fl T) τ H → va_S (zAll ad na ma) s.heap H locs → lv_has ls 3 [(2, .int (nI i)), (1, .ref (na (π 0) 0)), (0, .ref (ma 3))] → W p l e ({ frames := 0, cells := 0, slots := 0, locals := 0 } : Room) s m ([.ref (ma 3)] : List Value).toArray below meth c H locs 0 0 (MQ below (zQv G (zNA G ad n 12 g (zRest G ad na ma (zRot π) 5 fl T) τ) (zAll ad na ma)) ([.ref (ma 3)] : List Value).toArray s 0 0 (zAll ad na ma)) (F0 m 9 ls []) := by
    intro f1
    induction f1 with
    | zero => intro i H locs ls hlo h1 h2; exact absurd h2 (by omega)
    | succ f1 ih1 =>
      intro i H locs ls hlo1 hk1 hf1 hN hS hl
      have hbk : i < 6 → 1 ≤ zRo π i i ∧ zRo π i i < 10 := fun h => zRo_b hπ h
      generalize hF_πk : zRo π i = πk at hN hl hbk
      have hA := zAp_top (G := G) hd πk d fl T
      refine lv_iload_n hx hb dX0_dropOldest_9 rfl (lv_at hl 0 rfl) ?_
      refine lv_bipush (v := 6) hx hb dX0_dropOldest_10 (by decide) ?_
      refine lv_icmp_ge (tgt := 35) hx hb dX0_dropOldest_12 (by decide) (fun c_1 => ?_) (fun c_2 => ?_)
      · skip
        have c_1 := (z_leI (a := 6) (b := i) (by omega) (by omega)).mp c_1
        have hkn1 : i = 6 := by omega
        rw [hkn1] at hF_πk
        subst hF_πk
        refine lv_aload_n hx hb dX0_dropOldest_35 rfl (lv_at hl 2 rfl) ?_
        refine z_getH (v := .ref (ma 4)) hx hb hts hown in_X0_dropOldest_X0 hK hN 0 (by decide) rfl (hts _ (List.mem_of_getElem? (i := 1) (by decide +kernel))) rfl dX0_dropOldest_36 ?_
        refine lv_iconst (v := 5) hx hb dX0_dropOldest_39 (by decide) ?_
        refine lv_aload_n hx hb dX0_dropOldest_40 rfl (lv_at hl 1 rfl) ?_
        refine z_aastV (i := 5) (j := (π 0)) hx hb hK hA hS hN (by decide) (by omega) (by have := hπ.1 0 (by omega); omega) (by have := hπ.1 0 (by omega); omega) dX0_dropOldest_41 (fun H locs hN hS => ?_)
        have hA := zAp_top (G := G) hd (va_up (zRo π 6) 5 (π 0)) d fl T
        refine lv_aload_n hx hb dX0_dropOldest_42 rfl (lv_at hl 2 rfl) ?_
        refine lv_iconst (v := 5) hx hb dX0_dropOldest_43 (by decide) ?_
        refine z_putH (w := 5) hx hb hts hown in_X0_dropOldest_X0 hK hA hS hN (hts _ (List.mem_of_getElem? (i := 2) (by decide +kernel))) 5 (by decide) dX0_dropOldest_44 (fun H locs hN hS => ?_)
        have hA := zAp_top (G := G) hd (va_up (zRo π 6) 5 (π 0)) 5 fl T
        exact z_vret hx hb hr hlk hK hS (hN) dX0_dropOldest_47
      · skip
        have c_2 := (not_congr (z_leI (a := 6) (b := i) (by omega) (by omega))).mp c_2
        refine lv_aload_n hx hb dX0_dropOldest_15 rfl (lv_at hl 2 rfl) ?_
        refine z_getH (v := .ref (ma 4)) hx hb hts hown in_X0_dropOldest_X0 hK hN 0 (by decide) rfl (hts _ (List.mem_of_getElem? (i := 1) (by decide +kernel))) rfl dX0_dropOldest_16 ?_
        refine lv_iload_n hx hb dX0_dropOldest_19 rfl (lv_at hl 0 rfl) ?_
        refine lv_iconst (v := 1) hx hb dX0_dropOldest_20 (by decide) ?_
        refine lv_isub hx hb dX0_dropOldest_21 ?_
        refine z_top (x2 := nI (i - 1)) (pk_sub (a := i) (b := 1) (by omega)) ?_
        refine lv_aload_n hx hb dX0_dropOldest_22 rfl (lv_at hl 2 rfl) ?_
        refine z_getH (v := .ref (ma 4)) hx hb hts hown in_X0_dropOldest_X0 hK hN 0 (by decide) rfl (hts _ (List.mem_of_getElem? (i := 1) (by decide +kernel))) rfl dX0_dropOldest_23 ?_
        refine lv_iload_n hx hb dX0_dropOldest_26 rfl (lv_at hl 0 rfl) ?_
        refine z_aaldV (i := i) hx hb hK hN rfl (by omega) dX0_dropOldest_27 ?_
        refine z_aastV (i := (i - 1)) (j := (πk i)) hx hb hK hA hS hN rfl (by omega) (hbk (by omega)).1 (hbk (by omega)).2 dX0_dropOldest_28 (fun H locs hN hS => ?_)
        have hA := zAp_top (G := G) hd (va_up πk (i - 1) (πk i)) d fl T
        refine lv_iinc (v := nI (i + 1)) (lv' := [(2, .int (nI (i + 1))), (1, .ref (na (π 0) 0)), (0, .ref (ma 3))]) hx hb dX0_dropOldest_29 hl (k := 0) rfl (nI_1 _) (by decide) rfl (fun ls hl => ?_)
        refine lv_goto (tgt := 9) hx hb dX0_dropOldest_32 (by decide) ?_
        have e_i : (va_up πk (i - 1) (πk i)) = zRo π (i + 1) := by rw [← hF_πk]; exact zRo_s π (by omega)
        refine ih1 (i + 1) _ _ _ (by omega) (by omega) (by omega) (by rw [← e_i]; exact hN) hS (lv_sub hl [0, 1, 2] rfl)
  exact loop1 (6 + 1) 1 _ _ _ (by omega) (by omega) (by omega) (by rw [zRo_1]; exact hN) hS (lv_sub hl [0, 1, 2] rfl)

theorem in_X0_push_X0 : ∀ w ∈ wsX00, w ∈ wsX0_push := by decide +kernel
set_option maxHeartbeats 4000000 in
set_option maxRecDepth 100000 in
theorem h_X0_push (l : Launch) (G : zG) (ad : Nat → Nat) (na : Nat → Nat → Nat) (ma : Nat → Nat) (hd : zTd ad na ma) (π : Nat → Nat) (hπ : zPi π) (d : Nat) (hd6 : d ≤ 6) (fl : Nat → Int32) (T : Nat → zS3) (n : Nat) (hn12 : n ≤ 12) (g : Nat → Int32) (τ : zT) : zMv l G (zAll ad na ma) yX0_push wsX0_push 2 43 [.ref (ma 3), .ref (ad 0)] (zNA G ad n 12 g (zRest G ad na ma π d fl T) τ) (zNA G ad n 12 g (zRest G ad na ma (zPp d π) (zPd2 d + 1) fl (va_up T ((zPp d π) (zPd2 d)) (zCpy n g τ (T ((zPp d π) (zPd2 d)))))) τ) := by
  refine z_met (cc := cX0_push) (maxL := 2) (ret := none) (by decide) rfl (Nat.le_of_ble_eq_true rfl) ?_
  intro p e s m below meth c ls S hr hlk hnm hN hK hl
  have S : CallFix p m c cX0_push 2 s _ wsX0_push RX0 := S
  obtain ⟨hx, hb, hml, hown, hts⟩ := id S
  have hN12 : 12 ≤ 12 := Nat.le_refl 12
  have hA := zAp_top (G := G) hd π d fl T
  have hS : va_S (zAll ad na ma) s.heap s.heap [] := va_S.rf
  have hl : lv_has ls 2 [(0, .ref (ma 3)), (1, .ref (ad 0))] := hl
  refine lv_aload_n hx hb dX0_push_0 rfl (lv_at hl 0 rfl) ?_
  refine z_getH (v := .int (nI d)) hx hb hts hown in_X0_push_X0 hK hN 1 (by decide) rfl (hts _ (List.mem_of_getElem? (i := 1) (by decide +kernel))) rfl dX0_push_1 ?_
  refine lv_bipush (v := 6) hx hb dX0_push_4 (by decide) ?_
  refine lv_icmp_lt (tgt := 13) hx hb dX0_push_6 (by decide) (fun c_1 => ?_) (fun c_2 => ?_)
  · skip
    have c_1 := (z_ltI (a := d) (b := 6) (by omega) (by omega)).mp c_1
    refine lv_aload_n hx hb dX0_push_13 rfl (lv_at hl 0 rfl) ?_
    refine z_getH (v := .ref (ma 4)) hx hb hts hown in_X0_push_X0 hK hN 0 (by decide) rfl (hts _ (List.mem_of_getElem? (i := 2) (by decide +kernel))) rfl dX0_push_14 ?_
    refine lv_aload_n hx hb dX0_push_17 rfl (lv_at hl 0 rfl) ?_
    refine z_getH (v := .int (nI d)) hx hb hts hown in_X0_push_X0 hK hN 1 (by decide) rfl (hts _ (List.mem_of_getElem? (i := 1) (by decide +kernel))) rfl dX0_push_18 ?_
    refine z_aaldV (i := d) hx hb hK hN rfl (by omega) dX0_push_21 ?_
    refine lv_aload_n hx hb dX0_push_22 rfl (lv_at hl 1 rfl) ?_
    refine z_vv (As := [.ref (ad 0)]) (rest := []) (P2 := zNA G ad n 12 g (zRest G ad na ma π d fl (va_up T (π d) (zCpy n g τ (T (π d))))) τ) S (t_copy_j hd π d fl T n hn12 g τ (by have := (hπ).1 d (by omega); omega) (by have := (hπ).1 d (by omega); omega)) (cwV 1 hts gX0_push_X1_copyFrom rfl rfl rfl (by decide +kernel) ⟨Nat.le_of_ble_eq_true rfl, Nat.le_of_ble_eq_true rfl⟩) (z_recJ hK hN (by have := (hπ).1 d (by omega); omega) (by have := (hπ).1 d (by omega); omega)) hN hK hS (fun _ _ h => h) (fun _ h => h) hl.1 rfl rfl (Nat.le_of_ble_eq_true rfl) dX0_push_23 ⟨Nat.le_refl _, Nat.le_refl _⟩ (fun H locs hN hS _ => ?_)
    have hA := zAp_top (G := G) hd π d fl (va_up T (π d) (zCpy n g τ (T (π d))))
    refine lv_aload_n hx hb dX0_push_26 rfl (lv_at hl 0 rfl) ?_
    refine lv_dup hx hb dX0_push_27 rfl ?_
    refine z_getH (v := .int (nI d)) hx hb hts hown in_X0_push_X0 hK hN 1 (by decide) rfl (hts _ (List.mem_of_getElem? (i := 1) (by decide +kernel))) rfl dX0_push_28 ?_
    refine lv_iconst (v := 1) hx hb dX0_push_31 (by decide) ?_
    refine lv_iadd hx hb dX0_push_32 ?_
    refine z_top (x2 := nI (d + 1)) (nI_add d 1) ?_
    refine z_putH (w := nI (d + 1)) hx hb hts hown in_X0_push_X0 hK hA hS hN (hts _ (List.mem_of_getElem? (i := 1) (by decide +kernel))) (d + 1) rfl dX0_push_33 (fun H locs hN hS => ?_)
    have hA := zAp_top (G := G) hd π (d + 1) fl (va_up T (π d) (zCpy n g τ (T (π d))))
    exact z_vret hx hb hr hlk hK hS ((by have hN2 := hN; simp only [zPp, zPd2, c_1, if_true, if_false] at hN2 ⊢; exact hN2)) dX0_push_36
  · skip
    have c_2 := (not_congr (z_ltI (a := d) (b := 6) (by omega) (by omega))).mp c_2
    refine lv_aload_n hx hb dX0_push_9 rfl (lv_at hl 0 rfl) ?_
    refine z_vv (As := []) (rest := []) (P2 := zNA G ad n 12 g (zRest G ad na ma (zRot π) 5 fl T) τ) S (h_X0_dropOldest l G ad na ma hd π hπ d (by omega) fl T n hn12 g (by omega) τ) (cwV 0 hts gX0_push_X0_dropOldest rfl rfl rfl (by decide +kernel) ⟨Nat.le_of_ble_eq_true rfl, Nat.le_of_ble_eq_true rfl⟩) (z_recH hK hN) hN hK hS (fun _ _ h => h) (fun _ h => h) hl.1 rfl rfl (Nat.le_of_ble_eq_true rfl) dX0_push_10 ⟨Nat.le_refl _, Nat.le_refl _⟩ (fun H locs hN hS _ => ?_)
    have hA := zAp_top (G := G) hd (zRot π) 5 fl T
    refine lv_aload_n hx hb dX0_push_13 rfl (lv_at hl 0 rfl) ?_
    refine z_getH (v := .ref (ma 4)) hx hb hts hown in_X0_push_X0 hK hN 0 (by decide) rfl (hts _ (List.mem_of_getElem? (i := 2) (by decide +kernel))) rfl dX0_push_14 ?_
    refine lv_aload_n hx hb dX0_push_17 rfl (lv_at hl 0 rfl) ?_
    refine z_getH (v := .int (nI 5)) hx hb hts hown in_X0_push_X0 hK hN 1 (by decide) rfl (hts _ (List.mem_of_getElem? (i := 1) (by decide +kernel))) rfl dX0_push_18 ?_
    refine z_aaldV (i := 5) hx hb hK hN rfl (by omega) dX0_push_21 ?_
    refine lv_aload_n hx hb dX0_push_22 rfl (lv_at hl 1 rfl) ?_
    refine z_vv (As := [.ref (ad 0)]) (rest := []) (P2 := zNA G ad n 12 g (zRest G ad na ma (zRot π) 5 fl (va_up T ((zRot π) 5) (zCpy n g τ (T ((zRot π) 5))))) τ) S (t_copy_j hd (zRot π) 5 fl T n hn12 g τ (by have := (zRot_pi hπ).1 5 (by omega); omega) (by have := (zRot_pi hπ).1 5 (by omega); omega)) (cwV 1 hts gX0_push_X1_copyFrom rfl rfl rfl (by decide +kernel) ⟨Nat.le_of_ble_eq_true rfl, Nat.le_of_ble_eq_true rfl⟩) (z_recJ hK hN (by have := (zRot_pi hπ).1 5 (by omega); omega) (by have := (zRot_pi hπ).1 5 (by omega); omega)) hN hK hS (fun _ _ h => h) (fun _ h => h) hl.1 rfl rfl (Nat.le_of_ble_eq_true rfl) dX0_push_23 ⟨Nat.le_refl _, Nat.le_refl _⟩ (fun H locs hN hS _ => ?_)
    have hA := zAp_top (G := G) hd (zRot π) 5 fl (va_up T ((zRot π) 5) (zCpy n g τ (T ((zRot π) 5))))
    refine lv_aload_n hx hb dX0_push_26 rfl (lv_at hl 0 rfl) ?_
    refine lv_dup hx hb dX0_push_27 rfl ?_
    refine z_getH (v := .int (nI 5)) hx hb hts hown in_X0_push_X0 hK hN 1 (by decide) rfl (hts _ (List.mem_of_getElem? (i := 1) (by decide +kernel))) rfl dX0_push_28 ?_
    refine lv_iconst (v := 1) hx hb dX0_push_31 (by decide) ?_
    refine lv_iadd hx hb dX0_push_32 ?_
    refine z_top (x2 := nI (5 + 1)) (nI_add 5 1) ?_
    refine z_putH (w := nI (5 + 1)) hx hb hts hown in_X0_push_X0 hK hA hS hN (hts _ (List.mem_of_getElem? (i := 1) (by decide +kernel))) (5 + 1) rfl dX0_push_33 (fun H locs hN hS => ?_)
    have hA := zAp_top (G := G) hd (zRot π) (5 + 1) fl (va_up T ((zRot π) 5) (zCpy n g τ (T ((zRot π) 5))))
    exact z_vret hx hb hr hlk hK hS ((by have hN2 := hN; simp only [zPp, zPd2, c_2, if_true, if_false] at hN2 ⊢; exact hN2)) dX0_push_36

theorem in_X0_popInto_X0 : ∀ w ∈ wsX00, w ∈ wsX0_popInto := by decide +kernel
set_option maxHeartbeats 4000000 in
set_option maxRecDepth 100000 in
theorem h_X0_popInto (l : Launch) (G : zG) (ad : Nat → Nat) (na : Nat → Nat → Nat) (ma : Nat → Nat) (hd : zTd ad na ma) (π : Nat → Nat) (hπ : zPi π) (d : Nat) (hd6 : d ≤ 6) (fl : Nat → Int32) (T : Nat → zS3) (n : Nat) (hn12 : n ≤ 12) (g : Nat → Int32) (h0 : 0 < d) (hT : (T (π (d - 1))).1 ≤ 12) (τ : zT) : zMv l G (zAll ad na ma) yX0_popInto wsX0_popInto 2 43 [.ref (ma 3), .ref (ad 0)] (zNA G ad n 12 g (zRest G ad na ma π d fl T) τ) (zNA G ad ((T (π (d - 1))).1) 12 ((T (π (d - 1))).2.1) (zRest G ad na ma π (d - 1) fl T) (zCpG (T (π (d - 1))).2.2 (zIt (zCpS (T (π (d - 1))).2.2) (T (π (d - 1))).1 τ))) := by
  refine z_met (cc := cX0_popInto) (maxL := 2) (ret := none) (by decide) rfl (Nat.le_of_ble_eq_true rfl) ?_
  intro p e s m below meth c ls S hr hlk hnm hN hK hl
  have S : CallFix p m c cX0_popInto 2 s _ wsX0_popInto RX0 := S
  obtain ⟨hx, hb, hml, hown, hts⟩ := id S
  have hN12 : 12 ≤ 12 := Nat.le_refl 12
  have hA := zAp_top (G := G) hd π d fl T
  have hS : va_S (zAll ad na ma) s.heap s.heap [] := va_S.rf
  have hl : lv_has ls 2 [(0, .ref (ma 3)), (1, .ref (ad 0))] := hl
  refine lv_aload_n hx hb dX0_popInto_0 rfl (lv_at hl 0 rfl) ?_
  refine z_getH (v := .int (nI d)) hx hb hts hown in_X0_popInto_X0 hK hN 1 (by decide) rfl (hts _ (List.mem_of_getElem? (i := 1) (by decide +kernel))) rfl dX0_popInto_1 ?_
  refine lv_if_le (tgt := 30) hx hb dX0_popInto_4 (by decide) (fun c_1 => ?_) (fun c_2 => ?_)
  · skip
    have c_1 := Int32.not_lt.mpr c_1
    exact absurd h0 (by have := (not_congr (z_ltI (a := 0) (b := d) (by omega) (by omega))).mp c_1; omega)
  · skip
    have c_2 := Int32.not_le.mp c_2
    refine lv_aload_n hx hb dX0_popInto_7 rfl (lv_at hl 0 rfl) ?_
    refine lv_dup hx hb dX0_popInto_8 rfl ?_
    refine z_getH (v := .int (nI d)) hx hb hts hown in_X0_popInto_X0 hK hN 1 (by decide) rfl (hts _ (List.mem_of_getElem? (i := 1) (by decide +kernel))) rfl dX0_popInto_9 ?_
    refine lv_iconst (v := 1) hx hb dX0_popInto_12 (by decide) ?_
    refine lv_isub hx hb dX0_popInto_13 ?_
    refine z_top (x2 := nI (d - 1)) (pk_sub (a := d) (b := 1) (by omega)) ?_
    refine z_putH (w := nI (d - 1)) hx hb hts hown in_X0_popInto_X0 hK hA hS hN (hts _ (List.mem_of_getElem? (i := 1) (by decide +kernel))) (d - 1) rfl dX0_popInto_14 (fun H locs hN hS => ?_)
    have hA := zAp_top (G := G) hd π (d - 1) fl T
    refine lv_aload_n hx hb dX0_popInto_17 rfl (lv_at hl 1 rfl) ?_
    refine lv_aload_n hx hb dX0_popInto_18 rfl (lv_at hl 0 rfl) ?_
    refine z_getH (v := .ref (ma 4)) hx hb hts hown in_X0_popInto_X0 hK hN 0 (by decide) rfl (hts _ (List.mem_of_getElem? (i := 2) (by decide +kernel))) rfl dX0_popInto_19 ?_
    refine lv_aload_n hx hb dX0_popInto_22 rfl (lv_at hl 0 rfl) ?_
    refine z_getH (v := .int (nI (d - 1))) hx hb hts hown in_X0_popInto_X0 hK hN 1 (by decide) rfl (hts _ (List.mem_of_getElem? (i := 1) (by decide +kernel))) rfl dX0_popInto_23 ?_
    refine z_aaldV (i := (d - 1)) hx hb hK hN rfl (by omega) dX0_popInto_26 ?_
    refine z_vv (As := [.ref (na (π (d - 1)) 0)]) (rest := []) (P2 := zNA G ad ((T (π (d - 1))).1) 12 ((T (π (d - 1))).2.1) (zRest G ad na ma π (d - 1) fl T) (zCpG (T (π (d - 1))).2.2 (zIt (zCpS (T (π (d - 1))).2.2) (T (π (d - 1))).1 τ))) S (t_copy_0 hd π (d - 1) fl T n g τ (by have := hπ.1 (d - 1) (by omega); omega) (by have := hπ.1 (d - 1) (by omega); omega) hT) (cwV 1 hts gX0_popInto_X1_copyFrom rfl rfl rfl (by decide +kernel) ⟨Nat.le_of_ble_eq_true rfl, Nat.le_of_ble_eq_true rfl⟩) (z_recN hK hN) hN hK hS (fun _ _ h => h) (fun _ h => h) hl.1 rfl rfl (Nat.le_of_ble_eq_true rfl) dX0_popInto_27 ⟨Nat.le_refl _, Nat.le_refl _⟩ (fun H locs hN hS _ => ?_)
    have hA := zAp_top (G := G) hd π (d - 1) fl T
    exact z_vret hx hb hr hlk hK hS (hN) dX0_popInto_30
end
section
/-! ===== the players over the whole class ===== -/
/-- the class's cells τ2 hold the state τ of n sensors -/
def zRp (n : Nat) (τ τ2 : zT) : Prop := (∀ k, 9 ≤ k → k < 15 → τ2 11 k = τ 11 k) ∧ ∀ f i, f < 9 → i < n → τ2 f i = τ f i
theorem zRp.n9 {G : zG} {ad : Nat → Nat} {n : Nat} {g : Nat → Int32} {X : va_W} {τ τ2 : zT} {H : Heap} (h : zRp n τ τ2) (hN : zNA G ad n 12 g X τ2 H) (hn : n ≤ 12) : zN9 G ad n g X τ H := by
  refine ⟨zMx τ τ2, zMx_e9 τ τ2, (hN.nar hn).to ⟨fun k h9 h15 => ?_, fun f i hf hi => ?_⟩⟩
  · unfold zMx
    rw [if_neg (by decide)]
    exact (h.1 k h9 h15).symm
  · unfold zMx
    by_cases q : f = 9 ∨ f = 10
    · rw [if_pos q]
    · rw [if_neg q]
      exact (h.2 f i (by omega) hi).symm
theorem zN9.rp {G : zG} {ad : Nat → Nat} {n : Nat} {g : Nat → Int32} {X : va_W} {τ : zT} {H : Heap} (h : zN9 G ad n g X τ H) : ∃ τ2, zRp n τ τ2 ∧ zNA G ad n 12 g X τ2 H := by
  obtain ⟨τ9, h9, hN⟩ := h
  obtain ⟨τ2, h2, hN2⟩ := hN.ex
  exact ⟨τ2, ⟨fun k a b => (h2.1 k a b).symm.trans (h9 11 k (by decide) (by decide)), fun f i hf hi => (h2.2 f i (by omega) hi).symm.trans (h9 f i (by omega) (by omega))⟩, hN2⟩
theorem zRp.cpy {n : Nat} {g : Nat → Int32} {τ τ2 : zT} (h : zRp n τ τ2) (t : zS3) : zRp n τ (zCpy n g τ2 t).2.2 := by
  have ha := zCp_ag τ2 t.2.2 n
  refine ⟨fun k a b => ?_, fun f i hf hi => ?_⟩
  · have := ha.1 k a b
    unfold zMx at this
    rw [if_neg (by decide)] at this
    exact this.symm.trans (h.1 k a b)
  · have := ha.2 f i (by omega) hi
    unfold zMx at this
    rw [if_neg (by omega)] at this
    exact this.symm.trans (h.2 f i hf hi)
theorem zAp_r {G : zG} {a : Nat → Nat} {r : Nat} (h1 : ∀ c d : Nat, c < 15 → d < 15 → a c = a d → c = d) (h2 : ∀ c, c < 15 → a c ≠ r) : zAp G a (zX r a) (fun q => zA1 a q ∨ q = r) := by
  intro n g τ
  have key : ∀ (k : Nat) (q : Nat × va_E), (zNet G a n g τ ++ zX r a)[k]? = some q → (k < 15 ∧ q.1 = a k) ∨ (k = 15 ∧ q.1 = r) := by
    intro k q hk
    by_cases h1 : k < 15
    · exact Or.inl ⟨h1, zNet_adr h1 hk⟩
    · rw [show k = 15 + (k - 15) by omega, zNet_X] at hk
      have hl : k - 15 < 1 := (List.getElem?_eq_some_iff.mp hk).1
      rw [show k - 15 = 0 by omega] at hk
      cases hk
      exact Or.inr ⟨by omega, rfl⟩
  refine ⟨fun i j p q hi hj hpq => ?_, fun k q hk => ?_⟩
  · rcases key i p hi with ⟨i1, i2⟩ | ⟨i1, i2⟩ <;> rcases key j q hj with ⟨j1, j2⟩ | ⟨j1, j2⟩
    · exact h1 i j i1 j1 (i2.symm.trans (hpq.trans j2))
    · exact absurd (i2.symm.trans (hpq.trans j2)) (h2 i i1)
    · exact absurd (j2.symm.trans (hpq.symm.trans i2)) (h2 j j1)
    · omega
  · rcases key k q hk with ⟨i1, i2⟩ | ⟨i1, i2⟩
    · exact Or.inl ⟨k, i1, i2⟩
    · exact Or.inr i2
section ZPF
variable {l : Launch} {G : zG} {ad : Nat → Nat} {na : Nat → Nat → Nat} {ma : Nat → Nat}
theorem t_perf_0 (hd : zTd ad na ma) (π : Nat → Nat) (dep : Nat) (fl : Nat → Int32) (T : Nat → zS3) (n : Nat) (hn12 : n ≤ 12) (g : Nat → Int32) (hd3 : 0 < g 3) (hd5 : 0 < g 5) (τ τa : zT) (hr : zRp n τa τ) (hg : 0 ≤ τa 11 9) (lim : Nat) (hlim : lim ≤ 300) : zMi l G (zAll ad na ma) yX2_perform wsX2_perform 5 114 [.ref (ma 1), .int (nI lim)] (zNA G ad n 12 g (zRest G ad na ma π dep fl T) τ) (nI (zPf n g lim τa).1) (fun H => ∃ τ2, zRp n (zPf n g lim τa).2 τ2 ∧ zNA G ad n 12 g (zRest G ad na ma π dep fl T) τ2 H) := by
  refine z_lift (A := fun q => zA1 ad q ∨ q = ma 1) (fun H hN => ?_) (fun q hq => ?_)
  · have hB := zBig.ofN hN
    have h9 : zN9 G ad n g (zX (ma 1) ad) τa H := by
      refine hr.n9 (τ2 := τ) ⟨τ, zAg.rf, va_P.app (zCells (t := (n, g, τ)) (fun c hc => ?_)) (fun k q hk => ?_)⟩ hn12
      · have := hB.2.1 c hc
        rwa [va_up_self] at this
      · have hl : k < 1 := (List.getElem?_eq_some_iff.mp hk).1
        rw [show k = 0 by omega] at hk
        cases hk
        exact hB.1 1 _ rfl
    refine ⟨zN9 G ad n g (zX (ma 1) ad) τa, _, h9, c_X2_perform l G (fun q => zA1 ad q ∨ q = ma 1) ad n g (ma 1) (zAp_r (fun c d hc hd2 e => hd.aa hc hd2 e) (fun c hc => hd.am hc (by decide))) hn12 hd3 hd5 τa hg lim hlim, fun H1 hz hk h2 => ?_⟩
    obtain ⟨τ2, hr2, hN2⟩ := h2.rp
    refine ⟨τ2, hr2, ?_⟩
    have hkeep := hB.keep0 hd (r := 1) (by decide) (t0 := (n, g, τ2)) (fun c hc => hN2.cell hc) (fun q hq => ?_) hk
    · have hN3 := hkeep.toN
      rw [va_up_self, zRest_up, zRest_up] at hN3
      exact hN3
    · cases hq
      obtain ⟨τ3, -, hP⟩ := hN2
      exact hP 15 _ (zNet_X _ 0)
  · rcases hq with ⟨c, hc, e⟩ | e
    · exact Or.inl ⟨c, hc, e⟩
    · exact Or.inr (Or.inl ⟨1, by decide, e⟩)
theorem t_perf_1 (hd : zTd ad na ma) (π : Nat → Nat) (dep : Nat) (fl : Nat → Int32) (T : Nat → zS3) (n0 : Nat) (g0 : Nat → Int32) (τ0 : zT) (n : Nat) (hn12 : n ≤ 12) (g : Nat → Int32) (hd3 : 0 < g 3) (hd5 : 0 < g 5) (τ τa : zT) (hr : zRp n τa τ) (hg : 0 ≤ τa 11 9) (lim : Nat) (hlim : lim ≤ 300) : zMi l G (zAll ad na ma) yX2_perform wsX2_perform 5 114 [.ref (ma 2), .int (nI lim)] (zNA G ad n0 12 g0 (zRest G ad na ma π dep fl (va_up T 1 (n, g, τ))) τ0) (nI (zPf n g lim τa).1) (fun H => ∃ τ2, zRp n (zPf n g lim τa).2 τ2 ∧ zNA G ad n0 12 g0 (zRest G ad na ma π dep fl (va_up T 1 (n, g, τ2))) τ0 H) := by
  refine z_lift (A := fun q => zA1 (na 1) q ∨ q = ma 2) (fun H hN => ?_) (fun q hq => ?_)
  · have hB := zBig.ofN hN
    have h9 : zN9 G (na 1) n g (zX (ma 2) (na 1)) τa H := by
      refine hr.n9 (τ2 := τ) ⟨τ, zAg.rf, va_P.app (zCells (t := (n, g, τ)) (fun c hc => ?_)) (fun k q hk => ?_)⟩ hn12
      · have := hB.2.2 1 c (by decide) (by decide) hc
        rwa [va_up_ne _ _ (by decide), va_up_self] at this
      · have hl : k < 1 := (List.getElem?_eq_some_iff.mp hk).1
        rw [show k = 0 by omega] at hk
        cases hk
        exact hB.1 2 _ rfl
    refine ⟨zN9 G (na 1) n g (zX (ma 2) (na 1)) τa, _, h9, c_X2_perform l G (fun q => zA1 (na 1) q ∨ q = ma 2) (na 1) n g (ma 2) (zAp_r (fun c d hc hd2 e => (hd.nn (by decide) (by decide) hc (by decide) (by decide) hd2 e).2) (fun c hc e => hd.mn (by decide) (by decide) (by decide) hc e.symm)) hn12 hd3 hd5 τa hg lim hlim, fun H1 hz hk h2 => ?_⟩
    obtain ⟨τ2, hr2, hN2⟩ := h2.rp
    refine ⟨τ2, hr2, ?_⟩
    have hkeep := hB.keepj hd (j := 1) (by decide) (by decide) (r := 2) (by decide) (tj := (n, g, τ2)) (fun c hc => hN2.cell hc) (fun q hq => ?_) hk
    · have hN3 := hkeep.toN
      rw [va_up_ne _ _ (by decide : (0 : Nat) ≠ 1), va_up_self] at hN3
      rw [zRest_congr (T2 := va_up T 1 (n, g, τ2))] at hN3
      · exact hN3
      · intro j hj hj2
        by_cases h1 : j = 1
        · subst h1
          rw [va_up_self, va_up_self]
        · rw [va_up_ne _ _ h1, va_up_ne _ _ h1, va_up_ne _ _ (by omega), va_up_ne _ _ h1]
    · cases hq
      obtain ⟨τ3, -, hP⟩ := hN2
      exact hP 15 _ (zNet_X _ 0)
  · rcases hq with ⟨c, hc, e⟩ | e
    · exact Or.inr (Or.inr ⟨1, c, by decide, by decide, hc, e⟩)
    · exact Or.inr (Or.inl ⟨2, by decide, e⟩)
end ZPF
end
section
/-! rows laid by my own program (wip/whole/gen) -/
set_option maxHeartbeats 4000000 in
theorem c_X4_inRange (l : Launch) (G : zG) (A : Nat → Prop) (P : Heap → Prop) (x a b : Int32) : zMi l G A yX4_inRange wsX4_inRange 0 0 [.int x, .int a, .int b] P (zBi (¬ x < a ∧ ¬ b < x)) P := by
  refine z_met (cc := cX4_inRange) (maxL := 3) (ret := (some .boolean)) (by decide) rfl (Nat.le_of_ble_eq_true rfl) ?_
  intro p e s m below meth c ls S hr hlk hnm hM hK hl
  have S : CallFix p m c cX4_inRange 3 s _ wsX4_inRange RX4 := S
  obtain ⟨hx, hb, hml, hown, hts⟩ := id S
  have hS : va_S A s.heap s.heap [] := va_S.rf
  have hl : lv_has ls 3 [(0, .int x), (1, .int a), (2, .int b)] := hl
  refine lv_iload_n hx hb dX4_inRange_0 rfl (lv_at hl 0 rfl) ?_
  refine lv_iload_n hx hb dX4_inRange_1 rfl (lv_at hl 1 rfl) ?_
  refine lv_icmp_lt (tgt := 14) hx hb dX4_inRange_2 (by decide) (fun c_1 => ?_) (fun c_2 => ?_)
  · skip
    refine lv_iconst (v := 0) hx hb dX4_inRange_14 (by decide) ?_
    refine z_top (x2 := zBi (¬ x < a ∧ ¬ b < x)) (by first | with_reducible rfl | (simp only [zBi, c_1, eq_self, ne_eq, not_true_eq_false, not_false_eq_true, and_true, true_and, and_self, and_false, false_and, true_or, or_true, false_or, or_false, reduceIte]; done) | (simp [zBi, c_1]; done) | rfl | (simp_all [zBi]; done)) ?_
    exact z_zret hx hb hr hlk zBi_nar hK hS (hM) dX4_inRange_15
  · skip
    refine lv_iload_n hx hb dX4_inRange_5 rfl (lv_at hl 0 rfl) ?_
    refine lv_iload_n hx hb dX4_inRange_6 rfl (lv_at hl 2 rfl) ?_
    refine lv_icmp_gt (tgt := 14) hx hb dX4_inRange_7 (by decide) (fun c_3 => ?_) (fun c_4 => ?_)
    · skip
      refine lv_iconst (v := 0) hx hb dX4_inRange_14 (by decide) ?_
      refine z_top (x2 := zBi (¬ x < a ∧ ¬ b < x)) (by first | with_reducible rfl | (simp only [zBi, c_2, c_3, eq_self, ne_eq, not_true_eq_false, not_false_eq_true, and_true, true_and, and_self, and_false, false_and, true_or, or_true, false_or, or_false, reduceIte]; done) | (simp [zBi, c_2, c_3]; done) | rfl | (simp_all [zBi]; done)) ?_
      exact z_zret hx hb hr hlk zBi_nar hK hS (hM) dX4_inRange_15
    · skip
      refine lv_iconst (v := 1) hx hb dX4_inRange_10 (by decide) ?_
      refine lv_goto (tgt := 15) hx hb dX4_inRange_11 (by decide) ?_
      refine z_top (x2 := zBi (¬ x < a ∧ ¬ b < x)) (by first | with_reducible rfl | (simp only [zBi, c_2, c_4, eq_self, ne_eq, not_true_eq_false, not_false_eq_true, and_true, true_and, and_self, and_false, false_and, true_or, or_true, false_or, or_false, reduceIte]; done) | (simp [zBi, c_2, c_4]; done) | rfl | (simp_all [zBi]; done)) ?_
      exact z_zret hx hb hr hlk zBi_nar hK hS (hM) dX4_inRange_15

theorem in_X4_roundNumber_X1 : ∀ w ∈ wsX10, w ∈ wsX4_roundNumber := by decide +kernel
theorem in_X4_roundNumber_X4 : ∀ w ∈ wsX40, w ∈ wsX4_roundNumber := by decide +kernel
set_option maxHeartbeats 4000000 in
set_option maxRecDepth 100000 in
theorem p_X4_roundNumber (l : Launch) (G : zG) (ad : Nat → Nat) (na : Nat → Nat → Nat) (ma : Nat → Nat) (hd : zTd ad na ma) (π : Nat → Nat) (hπ : zPi π) (d : Nat) (hd6 : d ≤ 6) (fl : Nat → Int32) (T : Nat → zS3) (n : Nat) (hn12 : n ≤ 12) (g : Nat → Int32) (τ : zT) : zMi l G (zAll ad na ma) yX4_roundNumber wsX4_roundNumber 0 0 [.ref (ma 0)] (zNA G ad n 12 g (zRest G ad na ma π d fl T) τ) (τ 11 10) (zNA G ad n 12 g (zRest G ad na ma π d fl T) τ) := by
  refine z_met (cc := cX4_roundNumber) (maxL := 1) (ret := (some .int)) (by decide) rfl (Nat.le_of_ble_eq_true rfl) ?_
  intro p e s m below meth c ls S hr hlk hnm hN hK hl
  have S : CallFix p m c cX4_roundNumber 1 s _ wsX4_roundNumber RX4 := S
  obtain ⟨hx, hb, hml, hown, hts⟩ := id S
  have hN12 : 12 ≤ 12 := Nat.le_refl 12
  have hA := zAp_top (G := G) hd π d fl T
  have hS : va_S (zAll ad na ma) s.heap s.heap [] := va_S.rf
  have hl : lv_has ls 1 [(0, .ref (ma 0))] := hl
  refine lv_aload_n hx hb dX4_roundNumber_0 rfl (lv_at hl 0 rfl) ?_
  refine z_getF (v := .ref (ad 0)) hx hb hts hown in_X4_roundNumber_X4 hK hN 0 (by decide) rfl (hts _ (List.mem_of_getElem? (i := 1) (by decide +kernel))) rfl dX4_roundNumber_1 ?_
  refine z_getO (v := .int (τ 11 10)) hx hb hts hown in_X4_roundNumber_X1 hK hN 6 (by decide) rfl (hts _ (List.mem_of_getElem? (i := 2) (by decide +kernel))) rfl dX4_roundNumber_4 ?_
  exact z_iretE hx hb hr hlk hK hS (by first | rfl | (simp only [eq_self, ne_eq, not_true_eq_false, not_false_eq_true, and_true, true_and, and_self, and_false, false_and, true_or, or_true, false_or, or_false, reduceIte]; done) | (simp []; done)) (by first | exact hN | (simpa only [eq_self, ne_eq, not_true_eq_false, not_false_eq_true, and_true, true_and, and_self, and_false, false_and, true_or, or_true, false_or, or_false, reduceIte] using hN) | (simpa [] using hN)) dX4_roundNumber_7

theorem in_X4_headCount_X1 : ∀ w ∈ wsX10, w ∈ wsX4_headCount := by decide +kernel
theorem in_X4_headCount_X4 : ∀ w ∈ wsX40, w ∈ wsX4_headCount := by decide +kernel
set_option maxHeartbeats 4000000 in
set_option maxRecDepth 100000 in
theorem p_X4_headCount (l : Launch) (G : zG) (ad : Nat → Nat) (na : Nat → Nat → Nat) (ma : Nat → Nat) (hd : zTd ad na ma) (π : Nat → Nat) (hπ : zPi π) (d : Nat) (hd6 : d ≤ 6) (fl : Nat → Int32) (T : Nat → zS3) (n : Nat) (hn12 : n ≤ 12) (g : Nat → Int32) (τ : zT) : zMi l G (zAll ad na ma) yX4_headCount wsX4_headCount 0 0 [.ref (ma 0)] (zNA G ad n 12 g (zRest G ad na ma π d fl T) τ) (τ 11 11) (zNA G ad n 12 g (zRest G ad na ma π d fl T) τ) := by
  refine z_met (cc := cX4_headCount) (maxL := 1) (ret := (some .int)) (by decide) rfl (Nat.le_of_ble_eq_true rfl) ?_
  intro p e s m below meth c ls S hr hlk hnm hN hK hl
  have S : CallFix p m c cX4_headCount 1 s _ wsX4_headCount RX4 := S
  obtain ⟨hx, hb, hml, hown, hts⟩ := id S
  have hN12 : 12 ≤ 12 := Nat.le_refl 12
  have hA := zAp_top (G := G) hd π d fl T
  have hS : va_S (zAll ad na ma) s.heap s.heap [] := va_S.rf
  have hl : lv_has ls 1 [(0, .ref (ma 0))] := hl
  refine lv_aload_n hx hb dX4_headCount_0 rfl (lv_at hl 0 rfl) ?_
  refine z_getF (v := .ref (ad 0)) hx hb hts hown in_X4_headCount_X4 hK hN 0 (by decide) rfl (hts _ (List.mem_of_getElem? (i := 1) (by decide +kernel))) rfl dX4_headCount_1 ?_
  refine z_getO (v := .int (τ 11 11)) hx hb hts hown in_X4_headCount_X1 hK hN 7 (by decide) rfl (hts _ (List.mem_of_getElem? (i := 2) (by decide +kernel))) rfl dX4_headCount_4 ?_
  exact z_iretE hx hb hr hlk hK hS (by first | rfl | (simp only [eq_self, ne_eq, not_true_eq_false, not_false_eq_true, and_true, true_and, and_self, and_false, false_and, true_or, or_true, false_or, or_false, reduceIte]; done) | (simp []; done)) (by first | exact hN | (simpa only [eq_self, ne_eq, not_true_eq_false, not_false_eq_true, and_true, true_and, and_self, and_false, false_and, true_or, or_true, false_or, or_false, reduceIte] using hN) | (simpa [] using hN)) dX4_headCount_7

theorem in_X4_lastDelivered_X1 : ∀ w ∈ wsX10, w ∈ wsX4_lastDelivered := by decide +kernel
theorem in_X4_lastDelivered_X4 : ∀ w ∈ wsX40, w ∈ wsX4_lastDelivered := by decide +kernel
set_option maxHeartbeats 4000000 in
set_option maxRecDepth 100000 in
theorem p_X4_lastDelivered (l : Launch) (G : zG) (ad : Nat → Nat) (na : Nat → Nat → Nat) (ma : Nat → Nat) (hd : zTd ad na ma) (π : Nat → Nat) (hπ : zPi π) (d : Nat) (hd6 : d ≤ 6) (fl : Nat → Int32) (T : Nat → zS3) (n : Nat) (hn12 : n ≤ 12) (g : Nat → Int32) (τ : zT) : zMi l G (zAll ad na ma) yX4_lastDelivered wsX4_lastDelivered 0 0 [.ref (ma 0)] (zNA G ad n 12 g (zRest G ad na ma π d fl T) τ) (τ 11 12) (zNA G ad n 12 g (zRest G ad na ma π d fl T) τ) := by
  refine z_met (cc := cX4_lastDelivered) (maxL := 1) (ret := (some .int)) (by decide) rfl (Nat.le_of_ble_eq_true rfl) ?_
  intro p e s m below meth c ls S hr hlk hnm hN hK hl
  have S : CallFix p m c cX4_lastDelivered 1 s _ wsX4_lastDelivered RX4 := S
  obtain ⟨hx, hb, hml, hown, hts⟩ := id S
  have hN12 : 12 ≤ 12 := Nat.le_refl 12
  have hA := zAp_top (G := G) hd π d fl T
  have hS : va_S (zAll ad na ma) s.heap s.heap [] := va_S.rf
  have hl : lv_has ls 1 [(0, .ref (ma 0))] := hl
  refine lv_aload_n hx hb dX4_lastDelivered_0 rfl (lv_at hl 0 rfl) ?_
  refine z_getF (v := .ref (ad 0)) hx hb hts hown in_X4_lastDelivered_X4 hK hN 0 (by decide) rfl (hts _ (List.mem_of_getElem? (i := 1) (by decide +kernel))) rfl dX4_lastDelivered_1 ?_
  refine z_getO (v := .int (τ 11 12)) hx hb hts hown in_X4_lastDelivered_X1 hK hN 8 (by decide) rfl (hts _ (List.mem_of_getElem? (i := 2) (by decide +kernel))) rfl dX4_lastDelivered_4 ?_
  exact z_iretE hx hb hr hlk hK hS (by first | rfl | (simp only [eq_self, ne_eq, not_true_eq_false, not_false_eq_true, and_true, true_and, and_self, and_false, false_and, true_or, or_true, false_or, or_false, reduceIte]; done) | (simp []; done)) (by first | exact hN | (simpa only [eq_self, ne_eq, not_true_eq_false, not_false_eq_true, and_true, true_and, and_self, and_false, false_and, true_or, or_true, false_or, or_false, reduceIte] using hN) | (simpa [] using hN)) dX4_lastDelivered_7

theorem in_X4_deliveredTotal_X1 : ∀ w ∈ wsX10, w ∈ wsX4_deliveredTotal := by decide +kernel
theorem in_X4_deliveredTotal_X4 : ∀ w ∈ wsX40, w ∈ wsX4_deliveredTotal := by decide +kernel
set_option maxHeartbeats 4000000 in
set_option maxRecDepth 100000 in
theorem p_X4_deliveredTotal (l : Launch) (G : zG) (ad : Nat → Nat) (na : Nat → Nat → Nat) (ma : Nat → Nat) (hd : zTd ad na ma) (π : Nat → Nat) (hπ : zPi π) (d : Nat) (hd6 : d ≤ 6) (fl : Nat → Int32) (T : Nat → zS3) (n : Nat) (hn12 : n ≤ 12) (g : Nat → Int32) (τ : zT) : zMi l G (zAll ad na ma) yX4_deliveredTotal wsX4_deliveredTotal 0 0 [.ref (ma 0)] (zNA G ad n 12 g (zRest G ad na ma π d fl T) τ) (τ 11 13) (zNA G ad n 12 g (zRest G ad na ma π d fl T) τ) := by
  refine z_met (cc := cX4_deliveredTotal) (maxL := 1) (ret := (some .int)) (by decide) rfl (Nat.le_of_ble_eq_true rfl) ?_
  intro p e s m below meth c ls S hr hlk hnm hN hK hl
  have S : CallFix p m c cX4_deliveredTotal 1 s _ wsX4_deliveredTotal RX4 := S
  obtain ⟨hx, hb, hml, hown, hts⟩ := id S
  have hN12 : 12 ≤ 12 := Nat.le_refl 12
  have hA := zAp_top (G := G) hd π d fl T
  have hS : va_S (zAll ad na ma) s.heap s.heap [] := va_S.rf
  have hl : lv_has ls 1 [(0, .ref (ma 0))] := hl
  refine lv_aload_n hx hb dX4_deliveredTotal_0 rfl (lv_at hl 0 rfl) ?_
  refine z_getF (v := .ref (ad 0)) hx hb hts hown in_X4_deliveredTotal_X4 hK hN 0 (by decide) rfl (hts _ (List.mem_of_getElem? (i := 1) (by decide +kernel))) rfl dX4_deliveredTotal_1 ?_
  refine z_getO (v := .int (τ 11 13)) hx hb hts hown in_X4_deliveredTotal_X1 hK hN 9 (by decide) rfl (hts _ (List.mem_of_getElem? (i := 2) (by decide +kernel))) rfl dX4_deliveredTotal_4 ?_
  exact z_iretE hx hb hr hlk hK hS (by first | rfl | (simp only [eq_self, ne_eq, not_true_eq_false, not_false_eq_true, and_true, true_and, and_self, and_false, false_and, true_or, or_true, false_or, or_false, reduceIte]; done) | (simp []; done)) (by first | exact hN | (simpa only [eq_self, ne_eq, not_true_eq_false, not_false_eq_true, and_true, true_and, and_self, and_false, false_and, true_or, or_true, false_or, or_false, reduceIte] using hN) | (simpa [] using hN)) dX4_deliveredTotal_7

theorem in_X4_energyPaid_X1 : ∀ w ∈ wsX10, w ∈ wsX4_energyPaid := by decide +kernel
theorem in_X4_energyPaid_X4 : ∀ w ∈ wsX40, w ∈ wsX4_energyPaid := by decide +kernel
set_option maxHeartbeats 4000000 in
set_option maxRecDepth 100000 in
theorem p_X4_energyPaid (l : Launch) (G : zG) (ad : Nat → Nat) (na : Nat → Nat → Nat) (ma : Nat → Nat) (hd : zTd ad na ma) (π : Nat → Nat) (hπ : zPi π) (d : Nat) (hd6 : d ≤ 6) (fl : Nat → Int32) (T : Nat → zS3) (n : Nat) (hn12 : n ≤ 12) (g : Nat → Int32) (τ : zT) : zMi l G (zAll ad na ma) yX4_energyPaid wsX4_energyPaid 0 0 [.ref (ma 0)] (zNA G ad n 12 g (zRest G ad na ma π d fl T) τ) (τ 11 14) (zNA G ad n 12 g (zRest G ad na ma π d fl T) τ) := by
  refine z_met (cc := cX4_energyPaid) (maxL := 1) (ret := (some .int)) (by decide) rfl (Nat.le_of_ble_eq_true rfl) ?_
  intro p e s m below meth c ls S hr hlk hnm hN hK hl
  have S : CallFix p m c cX4_energyPaid 1 s _ wsX4_energyPaid RX4 := S
  obtain ⟨hx, hb, hml, hown, hts⟩ := id S
  have hN12 : 12 ≤ 12 := Nat.le_refl 12
  have hA := zAp_top (G := G) hd π d fl T
  have hS : va_S (zAll ad na ma) s.heap s.heap [] := va_S.rf
  have hl : lv_has ls 1 [(0, .ref (ma 0))] := hl
  refine lv_aload_n hx hb dX4_energyPaid_0 rfl (lv_at hl 0 rfl) ?_
  refine z_getF (v := .ref (ad 0)) hx hb hts hown in_X4_energyPaid_X4 hK hN 0 (by decide) rfl (hts _ (List.mem_of_getElem? (i := 1) (by decide +kernel))) rfl dX4_energyPaid_1 ?_
  refine z_getO (v := .int (τ 11 14)) hx hb hts hown in_X4_energyPaid_X1 hK hN 10 (by decide) rfl (hts _ (List.mem_of_getElem? (i := 2) (by decide +kernel))) rfl dX4_energyPaid_4 ?_
  exact z_iretE hx hb hr hlk hK hS (by first | rfl | (simp only [eq_self, ne_eq, not_true_eq_false, not_false_eq_true, and_true, true_and, and_self, and_false, false_and, true_or, or_true, false_or, or_false, reduceIte]; done) | (simp []; done)) (by first | exact hN | (simpa only [eq_self, ne_eq, not_true_eq_false, not_false_eq_true, and_true, true_and, and_self, and_false, false_and, true_or, or_true, false_or, or_false, reduceIte] using hN) | (simpa [] using hN)) dX4_energyPaid_7

theorem in_X4_aliveCount_X4 : ∀ w ∈ wsX40, w ∈ wsX4_aliveCount := by decide +kernel
set_option maxHeartbeats 4000000 in
set_option maxRecDepth 100000 in
theorem p_X4_aliveCount (l : Launch) (G : zG) (ad : Nat → Nat) (na : Nat → Nat → Nat) (ma : Nat → Nat) (hd : zTd ad na ma) (π : Nat → Nat) (hπ : zPi π) (d : Nat) (hd6 : d ≤ 6) (fl : Nat → Int32) (T : Nat → zS3) (n : Nat) (hn12 : n ≤ 12) (g : Nat → Int32) (τ : zT) : zMi l G (zAll ad na ma) yX4_aliveCount wsX4_aliveCount 1 22 [.ref (ma 0)] (zNA G ad n 12 g (zRest G ad na ma π d fl T) τ) (zCa n τ) (zNA G ad n 12 g (zRest G ad na ma π d fl T) τ) := by
  refine z_met (cc := cX4_aliveCount) (maxL := 1) (ret := (some .int)) (by decide) rfl (Nat.le_of_ble_eq_true rfl) ?_
  intro p e s m below meth c ls S hr hlk hnm hN hK hl
  have S : CallFix p m c cX4_aliveCount 1 s _ wsX4_aliveCount RX4 := S
  obtain ⟨hx, hb, hml, hown, hts⟩ := id S
  have hN12 : 12 ≤ 12 := Nat.le_refl 12
  have hA := zAp_top (G := G) hd π d fl T
  have hS : va_S (zAll ad na ma) s.heap s.heap [] := va_S.rf
  have hl : lv_has ls 1 [(0, .ref (ma 0))] := hl
  refine lv_aload_n hx hb dX4_aliveCount_0 rfl (lv_at hl 0 rfl) ?_
  refine z_getF (v := .ref (ad 0)) hx hb hts hown in_X4_aliveCount_X4 hK hN 0 (by decide) rfl (hts _ (List.mem_of_getElem? (i := 1) (by decide +kernel))) rfl dX4_aliveCount_1 ?_
  refine z_vi (As := []) (rest := []) (P2 := zNA G ad n 12 g (zRest G ad na ma π d fl T) τ) (r := zCa n τ) S (c_X1_countAlive l G (zAll ad na ma) ad n 12 g (zRest G ad na ma π d fl T) hA (by omega) hN12  τ ) (cwV 0 hts gX4_aliveCount_X1_countAlive rfl rfl rfl (by decide +kernel) ⟨Nat.le_of_ble_eq_true rfl, Nat.le_of_ble_eq_true rfl⟩) (z_recN hK hN) hN hK hS (fun _ _ h => h) (fun _ h => h) hl.1 rfl rfl (Nat.le_of_ble_eq_true rfl) dX4_aliveCount_4 ⟨Nat.le_refl _, Nat.le_refl _⟩ (fun H locs hN hS _ => ?_)
  exact z_iretE hx hb hr hlk hK hS (by first | rfl | (simp only [eq_self, ne_eq, not_true_eq_false, not_false_eq_true, and_true, true_and, and_self, and_false, false_and, true_or, or_true, false_or, or_false, reduceIte]; done) | (simp []; done)) (by first | exact hN | (simpa only [eq_self, ne_eq, not_true_eq_false, not_false_eq_true, and_true, true_and, and_self, and_false, false_and, true_or, or_true, false_or, or_false, reduceIte] using hN) | (simpa [] using hN)) dX4_aliveCount_7

theorem in_X4_isAlive_X1 : ∀ w ∈ wsX10, w ∈ wsX4_isAlive := by decide +kernel
theorem in_X4_isAlive_X3 : ∀ w ∈ wsX30, w ∈ wsX4_isAlive := by decide +kernel
theorem in_X4_isAlive_X4 : ∀ w ∈ wsX40, w ∈ wsX4_isAlive := by decide +kernel
set_option maxHeartbeats 4000000 in
set_option maxRecDepth 100000 in
theorem p_X4_isAlive (l : Launch) (G : zG) (ad : Nat → Nat) (na : Nat → Nat → Nat) (ma : Nat → Nat) (hd : zTd ad na ma) (π : Nat → Nat) (hπ : zPi π) (d : Nat) (hd6 : d ≤ 6) (fl : Nat → Int32) (T : Nat → zS3) (n : Nat) (hn12 : n ≤ 12) (g : Nat → Int32) (τ : zT) (x : Int32) : zMi l G (zAll ad na ma) yX4_isAlive wsX4_isAlive 1 21 [.ref (ma 0), .int x] (zNA G ad n 12 g (zRest G ad na ma π d fl T) τ) (if ¬ (¬ x < 0 ∧ x < nI n) then -1 else zBi (τ 3 x.toNatClampNeg = 1)) (if ¬ (¬ x < 0 ∧ x < nI n) then (zNA G ad n 12 g (zRest G ad na ma π d fl T) τ) else (zNA G ad n 12 g (zRest G ad na ma π d fl T) τ)) := by
  refine z_met (cc := cX4_isAlive) (maxL := 2) (ret := (some .int)) (by decide) rfl (Nat.le_of_ble_eq_true rfl) ?_
  intro p e s m below meth c ls S hr hlk hnm hN hK hl
  have S : CallFix p m c cX4_isAlive 2 s _ wsX4_isAlive RX4 := S
  obtain ⟨hx, hb, hml, hown, hts⟩ := id S
  have hN12 : 12 ≤ 12 := Nat.le_refl 12
  have hA := zAp_top (G := G) hd π d fl T
  have hS : va_S (zAll ad na ma) s.heap s.heap [] := va_S.rf
  have hl : lv_has ls 2 [(0, .ref (ma 0)), (1, .int x)] := hl
  refine lv_aload_n hx hb dX4_isAlive_0 rfl (lv_at hl 0 rfl) ?_
  refine z_getF (v := .ref (ad 0)) hx hb hts hown in_X4_isAlive_X4 hK hN 0 (by decide) rfl (hts _ (List.mem_of_getElem? (i := 1) (by decide +kernel))) rfl dX4_isAlive_1 ?_
  refine lv_iload_n hx hb dX4_isAlive_4 rfl (lv_at hl 1 rfl) ?_
  refine z_vi (As := [.int x]) (rest := []) (P2 := zNA G ad n 12 g (zRest G ad na ma π d fl T) τ) (r := zBi (¬ x < 0 ∧ x < nI n)) S (c_X1_has l G (zAll ad na ma) ad n 12 g (zRest G ad na ma π d fl T) hA (by omega) hN12  τ x) (cwV 1 hts gX4_isAlive_X1_has rfl rfl rfl (by decide +kernel) ⟨Nat.le_of_ble_eq_true rfl, Nat.le_of_ble_eq_true rfl⟩) (z_recN hK hN) hN hK hS (fun _ _ h => h) (fun _ h => h) hl.1 rfl rfl (Nat.le_of_ble_eq_true rfl) dX4_isAlive_5 ⟨Nat.le_refl _, Nat.le_refl _⟩ (fun H locs hN hS _ => ?_)
  refine lv_if_ne (tgt := 13) hx hb dX4_isAlive_8 (by decide) (fun c_1 => ?_) (fun c_2 => ?_)
  · skip
    have c_1 := zBi_n0.mp c_1
    obtain ⟨k, hk, rfl⟩ := zIn_of (by omega) c_1
    have hc_k : (nI k).toNatClampNeg = k := nI_clamp (by omega)
    refine lv_aload_n hx hb dX4_isAlive_13 rfl (lv_at hl 0 rfl) ?_
    refine z_getF (v := .ref (ad 0)) hx hb hts hown in_X4_isAlive_X4 hK hN 0 (by decide) rfl (hts _ (List.mem_of_getElem? (i := 1) (by decide +kernel))) rfl dX4_isAlive_14 ?_
    refine z_getO (v := .ref (ad 1)) hx hb hts hown in_X4_isAlive_X1 hK hN 0 (by decide) rfl (hts _ (List.mem_of_getElem? (i := 2) (by decide +kernel))) rfl dX4_isAlive_17 ?_
    refine lv_iload_n hx hb dX4_isAlive_20 rfl (lv_at hl 1 rfl) ?_
    refine z_aald (i := k) hx hb hK hN rfl (by omega) dX4_isAlive_21 ?_
    refine z_getS (v := .int (zBi (τ 3 k = 1))) hx hb hts hown in_X4_isAlive_X3 hK hN12 hN (by omega) 3 (by decide) rfl (hts _ (List.mem_of_getElem? (i := 3) (by decide +kernel))) rfl dX4_isAlive_22 ?_
    refine lv_if_eq (tgt := 32) hx hb dX4_isAlive_25 (by decide) (fun c_3 => ?_) (fun c_4 => ?_)
    · skip
      have c_3 := zBi_0.mp c_3
      refine lv_iconst (v := 0) hx hb dX4_isAlive_32 (by decide) ?_
      exact z_iretE hx hb hr hlk hK hS (zIr_n (by first | assumption | (simp only [zBi, c_1, hc_k, c_3, eq_self, ne_eq, not_true_eq_false, not_false_eq_true, and_true, true_and, and_self, and_false, false_and, true_or, or_true, false_or, or_false, reduceIte]; done) | (simp [zBi, c_1, hc_k, c_3]; done) | grind) (by first | rfl | (simp only [zBi, c_1, hc_k, c_3, eq_self, ne_eq, not_true_eq_false, not_false_eq_true, and_true, true_and, and_self, and_false, false_and, true_or, or_true, false_or, or_false, reduceIte]; done) | (simp [zBi, c_1, hc_k, c_3]; done))) (zIf_n (by first | assumption | (simp only [zBi, c_1, hc_k, c_3, eq_self, ne_eq, not_true_eq_false, not_false_eq_true, and_true, true_and, and_self, and_false, false_and, true_or, or_true, false_or, or_false, reduceIte]; done) | (simp [zBi, c_1, hc_k, c_3]; done) | grind) (by first | exact hN | (simpa only [zBi, c_1, hc_k, c_3, eq_self, ne_eq, not_true_eq_false, not_false_eq_true, and_true, true_and, and_self, and_false, false_and, true_or, or_true, false_or, or_false, reduceIte] using hN) | (simpa [zBi, c_1, hc_k, c_3] using hN))) dX4_isAlive_33
    · skip
      have c_4 := zBi_n0.mp c_4
      refine lv_iconst (v := 1) hx hb dX4_isAlive_28 (by decide) ?_
      refine lv_goto (tgt := 33) hx hb dX4_isAlive_29 (by decide) ?_
      exact z_iretE hx hb hr hlk hK hS (zIr_n (by first | assumption | (simp only [zBi, c_1, hc_k, c_4, eq_self, ne_eq, not_true_eq_false, not_false_eq_true, and_true, true_and, and_self, and_false, false_and, true_or, or_true, false_or, or_false, reduceIte]; done) | (simp [zBi, c_1, hc_k, c_4]; done) | grind) (by first | rfl | (simp only [zBi, c_1, hc_k, c_4, eq_self, ne_eq, not_true_eq_false, not_false_eq_true, and_true, true_and, and_self, and_false, false_and, true_or, or_true, false_or, or_false, reduceIte]; done) | (simp [zBi, c_1, hc_k, c_4]; done))) (zIf_n (by first | assumption | (simp only [zBi, c_1, hc_k, c_4, eq_self, ne_eq, not_true_eq_false, not_false_eq_true, and_true, true_and, and_self, and_false, false_and, true_or, or_true, false_or, or_false, reduceIte]; done) | (simp [zBi, c_1, hc_k, c_4]; done) | grind) (by first | exact hN | (simpa only [zBi, c_1, hc_k, c_4, eq_self, ne_eq, not_true_eq_false, not_false_eq_true, and_true, true_and, and_self, and_false, false_and, true_or, or_true, false_or, or_false, reduceIte] using hN) | (simpa [zBi, c_1, hc_k, c_4] using hN))) dX4_isAlive_33
  · skip
    have c_2 := zBi_0.mp c_2
    refine lv_iconst (v := -1) hx hb dX4_isAlive_11 (by decide) ?_
    exact z_iretE hx hb hr hlk hK hS (zIr_t (by first | assumption | (simp only [zBi, c_2, eq_self, ne_eq, not_true_eq_false, not_false_eq_true, and_true, true_and, and_self, and_false, false_and, true_or, or_true, false_or, or_false, reduceIte]; done) | (simp [zBi, c_2]; done) | grind) (by first | rfl | (simp only [zBi, c_2, eq_self, ne_eq, not_true_eq_false, not_false_eq_true, and_true, true_and, and_self, and_false, false_and, true_or, or_true, false_or, or_false, reduceIte]; done) | (simp [zBi, c_2]; done))) (zIf_t (by first | assumption | (simp only [zBi, c_2, eq_self, ne_eq, not_true_eq_false, not_false_eq_true, and_true, true_and, and_self, and_false, false_and, true_or, or_true, false_or, or_false, reduceIte]; done) | (simp [zBi, c_2]; done) | grind) (by first | exact hN | (simpa only [zBi, c_2, eq_self, ne_eq, not_true_eq_false, not_false_eq_true, and_true, true_and, and_self, and_false, false_and, true_or, or_true, false_or, or_false, reduceIte] using hN) | (simpa [zBi, c_2] using hN))) dX4_isAlive_12

theorem in_X4_battery_X1 : ∀ w ∈ wsX10, w ∈ wsX4_battery := by decide +kernel
theorem in_X4_battery_X3 : ∀ w ∈ wsX30, w ∈ wsX4_battery := by decide +kernel
theorem in_X4_battery_X4 : ∀ w ∈ wsX40, w ∈ wsX4_battery := by decide +kernel
set_option maxHeartbeats 4000000 in
set_option maxRecDepth 100000 in
theorem p_X4_battery (l : Launch) (G : zG) (ad : Nat → Nat) (na : Nat → Nat → Nat) (ma : Nat → Nat) (hd : zTd ad na ma) (π : Nat → Nat) (hπ : zPi π) (d : Nat) (hd6 : d ≤ 6) (fl : Nat → Int32) (T : Nat → zS3) (n : Nat) (hn12 : n ≤ 12) (g : Nat → Int32) (τ : zT) (x : Int32) : zMi l G (zAll ad na ma) yX4_battery wsX4_battery 1 21 [.ref (ma 0), .int x] (zNA G ad n 12 g (zRest G ad na ma π d fl T) τ) (if ¬ (¬ x < 0 ∧ x < nI n) then -1 else τ 2 x.toNatClampNeg) (if ¬ (¬ x < 0 ∧ x < nI n) then (zNA G ad n 12 g (zRest G ad na ma π d fl T) τ) else (zNA G ad n 12 g (zRest G ad na ma π d fl T) τ)) := by
  refine z_met (cc := cX4_battery) (maxL := 2) (ret := (some .int)) (by decide) rfl (Nat.le_of_ble_eq_true rfl) ?_
  intro p e s m below meth c ls S hr hlk hnm hN hK hl
  have S : CallFix p m c cX4_battery 2 s _ wsX4_battery RX4 := S
  obtain ⟨hx, hb, hml, hown, hts⟩ := id S
  have hN12 : 12 ≤ 12 := Nat.le_refl 12
  have hA := zAp_top (G := G) hd π d fl T
  have hS : va_S (zAll ad na ma) s.heap s.heap [] := va_S.rf
  have hl : lv_has ls 2 [(0, .ref (ma 0)), (1, .int x)] := hl
  refine lv_aload_n hx hb dX4_battery_0 rfl (lv_at hl 0 rfl) ?_
  refine z_getF (v := .ref (ad 0)) hx hb hts hown in_X4_battery_X4 hK hN 0 (by decide) rfl (hts _ (List.mem_of_getElem? (i := 1) (by decide +kernel))) rfl dX4_battery_1 ?_
  refine lv_iload_n hx hb dX4_battery_4 rfl (lv_at hl 1 rfl) ?_
  refine z_vi (As := [.int x]) (rest := []) (P2 := zNA G ad n 12 g (zRest G ad na ma π d fl T) τ) (r := zBi (¬ x < 0 ∧ x < nI n)) S (c_X1_has l G (zAll ad na ma) ad n 12 g (zRest G ad na ma π d fl T) hA (by omega) hN12  τ x) (cwV 1 hts gX4_battery_X1_has rfl rfl rfl (by decide +kernel) ⟨Nat.le_of_ble_eq_true rfl, Nat.le_of_ble_eq_true rfl⟩) (z_recN hK hN) hN hK hS (fun _ _ h => h) (fun _ h => h) hl.1 rfl rfl (Nat.le_of_ble_eq_true rfl) dX4_battery_5 ⟨Nat.le_refl _, Nat.le_refl _⟩ (fun H locs hN hS _ => ?_)
  refine lv_if_ne (tgt := 13) hx hb dX4_battery_8 (by decide) (fun c_1 => ?_) (fun c_2 => ?_)
  · skip
    have c_1 := zBi_n0.mp c_1
    obtain ⟨k, hk, rfl⟩ := zIn_of (by omega) c_1
    have hc_k : (nI k).toNatClampNeg = k := nI_clamp (by omega)
    refine lv_aload_n hx hb dX4_battery_13 rfl (lv_at hl 0 rfl) ?_
    refine z_getF (v := .ref (ad 0)) hx hb hts hown in_X4_battery_X4 hK hN 0 (by decide) rfl (hts _ (List.mem_of_getElem? (i := 1) (by decide +kernel))) rfl dX4_battery_14 ?_
    refine z_getO (v := .ref (ad 1)) hx hb hts hown in_X4_battery_X1 hK hN 0 (by decide) rfl (hts _ (List.mem_of_getElem? (i := 2) (by decide +kernel))) rfl dX4_battery_17 ?_
    refine lv_iload_n hx hb dX4_battery_20 rfl (lv_at hl 1 rfl) ?_
    refine z_aald (i := k) hx hb hK hN rfl (by omega) dX4_battery_21 ?_
    refine z_getS (v := .int (τ 2 k)) hx hb hts hown in_X4_battery_X3 hK hN12 hN (by omega) 2 (by decide) rfl (hts _ (List.mem_of_getElem? (i := 3) (by decide +kernel))) rfl dX4_battery_22 ?_
    exact z_iretE hx hb hr hlk hK hS (zIr_n (by first | assumption | (simp only [c_1, hc_k, eq_self, ne_eq, not_true_eq_false, not_false_eq_true, and_true, true_and, and_self, and_false, false_and, true_or, or_true, false_or, or_false, reduceIte]; done) | (simp [c_1, hc_k]; done) | grind) (by first | rfl | (simp only [c_1, hc_k, eq_self, ne_eq, not_true_eq_false, not_false_eq_true, and_true, true_and, and_self, and_false, false_and, true_or, or_true, false_or, or_false, reduceIte]; done) | (simp [c_1, hc_k]; done))) (zIf_n (by first | assumption | (simp only [c_1, hc_k, eq_self, ne_eq, not_true_eq_false, not_false_eq_true, and_true, true_and, and_self, and_false, false_and, true_or, or_true, false_or, or_false, reduceIte]; done) | (simp [c_1, hc_k]; done) | grind) (by first | exact hN | (simpa only [c_1, hc_k, eq_self, ne_eq, not_true_eq_false, not_false_eq_true, and_true, true_and, and_self, and_false, false_and, true_or, or_true, false_or, or_false, reduceIte] using hN) | (simpa [c_1, hc_k] using hN))) dX4_battery_25
  · skip
    have c_2 := zBi_0.mp c_2
    refine lv_iconst (v := -1) hx hb dX4_battery_11 (by decide) ?_
    exact z_iretE hx hb hr hlk hK hS (zIr_t (by first | assumption | (simp only [c_2, eq_self, ne_eq, not_true_eq_false, not_false_eq_true, and_true, true_and, and_self, and_false, false_and, true_or, or_true, false_or, or_false, reduceIte]; done) | (simp [c_2]; done) | grind) (by first | rfl | (simp only [c_2, eq_self, ne_eq, not_true_eq_false, not_false_eq_true, and_true, true_and, and_self, and_false, false_and, true_or, or_true, false_or, or_false, reduceIte]; done) | (simp [c_2]; done))) (zIf_t (by first | assumption | (simp only [c_2, eq_self, ne_eq, not_true_eq_false, not_false_eq_true, and_true, true_and, and_self, and_false, false_and, true_or, or_true, false_or, or_false, reduceIte]; done) | (simp [c_2]; done) | grind) (by first | exact hN | (simpa only [c_2, eq_self, ne_eq, not_true_eq_false, not_false_eq_true, and_true, true_and, and_self, and_false, false_and, true_or, or_true, false_or, or_false, reduceIte] using hN) | (simpa [c_2] using hN))) dX4_battery_12

theorem in_X4_deathRound_X1 : ∀ w ∈ wsX10, w ∈ wsX4_deathRound := by decide +kernel
theorem in_X4_deathRound_X3 : ∀ w ∈ wsX30, w ∈ wsX4_deathRound := by decide +kernel
theorem in_X4_deathRound_X4 : ∀ w ∈ wsX40, w ∈ wsX4_deathRound := by decide +kernel
set_option maxHeartbeats 4000000 in
set_option maxRecDepth 100000 in
theorem p_X4_deathRound (l : Launch) (G : zG) (ad : Nat → Nat) (na : Nat → Nat → Nat) (ma : Nat → Nat) (hd : zTd ad na ma) (π : Nat → Nat) (hπ : zPi π) (d : Nat) (hd6 : d ≤ 6) (fl : Nat → Int32) (T : Nat → zS3) (n : Nat) (hn12 : n ≤ 12) (g : Nat → Int32) (τ : zT) (x : Int32) : zMi l G (zAll ad na ma) yX4_deathRound wsX4_deathRound 1 21 [.ref (ma 0), .int x] (zNA G ad n 12 g (zRest G ad na ma π d fl T) τ) (if ¬ (¬ x < 0 ∧ x < nI n) then -1 else τ 6 x.toNatClampNeg) (if ¬ (¬ x < 0 ∧ x < nI n) then (zNA G ad n 12 g (zRest G ad na ma π d fl T) τ) else (zNA G ad n 12 g (zRest G ad na ma π d fl T) τ)) := by
  refine z_met (cc := cX4_deathRound) (maxL := 2) (ret := (some .int)) (by decide) rfl (Nat.le_of_ble_eq_true rfl) ?_
  intro p e s m below meth c ls S hr hlk hnm hN hK hl
  have S : CallFix p m c cX4_deathRound 2 s _ wsX4_deathRound RX4 := S
  obtain ⟨hx, hb, hml, hown, hts⟩ := id S
  have hN12 : 12 ≤ 12 := Nat.le_refl 12
  have hA := zAp_top (G := G) hd π d fl T
  have hS : va_S (zAll ad na ma) s.heap s.heap [] := va_S.rf
  have hl : lv_has ls 2 [(0, .ref (ma 0)), (1, .int x)] := hl
  refine lv_aload_n hx hb dX4_deathRound_0 rfl (lv_at hl 0 rfl) ?_
  refine z_getF (v := .ref (ad 0)) hx hb hts hown in_X4_deathRound_X4 hK hN 0 (by decide) rfl (hts _ (List.mem_of_getElem? (i := 1) (by decide +kernel))) rfl dX4_deathRound_1 ?_
  refine lv_iload_n hx hb dX4_deathRound_4 rfl (lv_at hl 1 rfl) ?_
  refine z_vi (As := [.int x]) (rest := []) (P2 := zNA G ad n 12 g (zRest G ad na ma π d fl T) τ) (r := zBi (¬ x < 0 ∧ x < nI n)) S (c_X1_has l G (zAll ad na ma) ad n 12 g (zRest G ad na ma π d fl T) hA (by omega) hN12  τ x) (cwV 1 hts gX4_deathRound_X1_has rfl rfl rfl (by decide +kernel) ⟨Nat.le_of_ble_eq_true rfl, Nat.le_of_ble_eq_true rfl⟩) (z_recN hK hN) hN hK hS (fun _ _ h => h) (fun _ h => h) hl.1 rfl rfl (Nat.le_of_ble_eq_true rfl) dX4_deathRound_5 ⟨Nat.le_refl _, Nat.le_refl _⟩ (fun H locs hN hS _ => ?_)
  refine lv_if_ne (tgt := 13) hx hb dX4_deathRound_8 (by decide) (fun c_1 => ?_) (fun c_2 => ?_)
  · skip
    have c_1 := zBi_n0.mp c_1
    obtain ⟨k, hk, rfl⟩ := zIn_of (by omega) c_1
    have hc_k : (nI k).toNatClampNeg = k := nI_clamp (by omega)
    refine lv_aload_n hx hb dX4_deathRound_13 rfl (lv_at hl 0 rfl) ?_
    refine z_getF (v := .ref (ad 0)) hx hb hts hown in_X4_deathRound_X4 hK hN 0 (by decide) rfl (hts _ (List.mem_of_getElem? (i := 1) (by decide +kernel))) rfl dX4_deathRound_14 ?_
    refine z_getO (v := .ref (ad 1)) hx hb hts hown in_X4_deathRound_X1 hK hN 0 (by decide) rfl (hts _ (List.mem_of_getElem? (i := 2) (by decide +kernel))) rfl dX4_deathRound_17 ?_
    refine lv_iload_n hx hb dX4_deathRound_20 rfl (lv_at hl 1 rfl) ?_
    refine z_aald (i := k) hx hb hK hN rfl (by omega) dX4_deathRound_21 ?_
    refine z_getS (v := .int (τ 6 k)) hx hb hts hown in_X4_deathRound_X3 hK hN12 hN (by omega) 6 (by decide) rfl (hts _ (List.mem_of_getElem? (i := 3) (by decide +kernel))) rfl dX4_deathRound_22 ?_
    exact z_iretE hx hb hr hlk hK hS (zIr_n (by first | assumption | (simp only [c_1, hc_k, eq_self, ne_eq, not_true_eq_false, not_false_eq_true, and_true, true_and, and_self, and_false, false_and, true_or, or_true, false_or, or_false, reduceIte]; done) | (simp [c_1, hc_k]; done) | grind) (by first | rfl | (simp only [c_1, hc_k, eq_self, ne_eq, not_true_eq_false, not_false_eq_true, and_true, true_and, and_self, and_false, false_and, true_or, or_true, false_or, or_false, reduceIte]; done) | (simp [c_1, hc_k]; done))) (zIf_n (by first | assumption | (simp only [c_1, hc_k, eq_self, ne_eq, not_true_eq_false, not_false_eq_true, and_true, true_and, and_self, and_false, false_and, true_or, or_true, false_or, or_false, reduceIte]; done) | (simp [c_1, hc_k]; done) | grind) (by first | exact hN | (simpa only [c_1, hc_k, eq_self, ne_eq, not_true_eq_false, not_false_eq_true, and_true, true_and, and_self, and_false, false_and, true_or, or_true, false_or, or_false, reduceIte] using hN) | (simpa [c_1, hc_k] using hN))) dX4_deathRound_25
  · skip
    have c_2 := zBi_0.mp c_2
    refine lv_iconst (v := -1) hx hb dX4_deathRound_11 (by decide) ?_
    exact z_iretE hx hb hr hlk hK hS (zIr_t (by first | assumption | (simp only [c_2, eq_self, ne_eq, not_true_eq_false, not_false_eq_true, and_true, true_and, and_self, and_false, false_and, true_or, or_true, false_or, or_false, reduceIte]; done) | (simp [c_2]; done) | grind) (by first | rfl | (simp only [c_2, eq_self, ne_eq, not_true_eq_false, not_false_eq_true, and_true, true_and, and_self, and_false, false_and, true_or, or_true, false_or, or_false, reduceIte]; done) | (simp [c_2]; done))) (zIf_t (by first | assumption | (simp only [c_2, eq_self, ne_eq, not_true_eq_false, not_false_eq_true, and_true, true_and, and_self, and_false, false_and, true_or, or_true, false_or, or_false, reduceIte]; done) | (simp [c_2]; done) | grind) (by first | exact hN | (simpa only [c_2, eq_self, ne_eq, not_true_eq_false, not_false_eq_true, and_true, true_and, and_self, and_false, false_and, true_or, or_true, false_or, or_false, reduceIte] using hN) | (simpa [c_2] using hN))) dX4_deathRound_12

theorem in_X4_headOf_X1 : ∀ w ∈ wsX10, w ∈ wsX4_headOf := by decide +kernel
theorem in_X4_headOf_X3 : ∀ w ∈ wsX30, w ∈ wsX4_headOf := by decide +kernel
theorem in_X4_headOf_X4 : ∀ w ∈ wsX40, w ∈ wsX4_headOf := by decide +kernel
set_option maxHeartbeats 4000000 in
set_option maxRecDepth 100000 in
theorem p_X4_headOf (l : Launch) (G : zG) (ad : Nat → Nat) (na : Nat → Nat → Nat) (ma : Nat → Nat) (hd : zTd ad na ma) (π : Nat → Nat) (hπ : zPi π) (d : Nat) (hd6 : d ≤ 6) (fl : Nat → Int32) (T : Nat → zS3) (n : Nat) (hn12 : n ≤ 12) (g : Nat → Int32) (τ : zT) (x : Int32) : zMi l G (zAll ad na ma) yX4_headOf wsX4_headOf 1 21 [.ref (ma 0), .int x] (zNA G ad n 12 g (zRest G ad na ma π d fl T) τ) (if ¬ (¬ x < 0 ∧ x < nI n) then -1 else τ 7 x.toNatClampNeg) (if ¬ (¬ x < 0 ∧ x < nI n) then (zNA G ad n 12 g (zRest G ad na ma π d fl T) τ) else (zNA G ad n 12 g (zRest G ad na ma π d fl T) τ)) := by
  refine z_met (cc := cX4_headOf) (maxL := 2) (ret := (some .int)) (by decide) rfl (Nat.le_of_ble_eq_true rfl) ?_
  intro p e s m below meth c ls S hr hlk hnm hN hK hl
  have S : CallFix p m c cX4_headOf 2 s _ wsX4_headOf RX4 := S
  obtain ⟨hx, hb, hml, hown, hts⟩ := id S
  have hN12 : 12 ≤ 12 := Nat.le_refl 12
  have hA := zAp_top (G := G) hd π d fl T
  have hS : va_S (zAll ad na ma) s.heap s.heap [] := va_S.rf
  have hl : lv_has ls 2 [(0, .ref (ma 0)), (1, .int x)] := hl
  refine lv_aload_n hx hb dX4_headOf_0 rfl (lv_at hl 0 rfl) ?_
  refine z_getF (v := .ref (ad 0)) hx hb hts hown in_X4_headOf_X4 hK hN 0 (by decide) rfl (hts _ (List.mem_of_getElem? (i := 1) (by decide +kernel))) rfl dX4_headOf_1 ?_
  refine lv_iload_n hx hb dX4_headOf_4 rfl (lv_at hl 1 rfl) ?_
  refine z_vi (As := [.int x]) (rest := []) (P2 := zNA G ad n 12 g (zRest G ad na ma π d fl T) τ) (r := zBi (¬ x < 0 ∧ x < nI n)) S (c_X1_has l G (zAll ad na ma) ad n 12 g (zRest G ad na ma π d fl T) hA (by omega) hN12  τ x) (cwV 1 hts gX4_headOf_X1_has rfl rfl rfl (by decide +kernel) ⟨Nat.le_of_ble_eq_true rfl, Nat.le_of_ble_eq_true rfl⟩) (z_recN hK hN) hN hK hS (fun _ _ h => h) (fun _ h => h) hl.1 rfl rfl (Nat.le_of_ble_eq_true rfl) dX4_headOf_5 ⟨Nat.le_refl _, Nat.le_refl _⟩ (fun H locs hN hS _ => ?_)
  refine lv_if_ne (tgt := 13) hx hb dX4_headOf_8 (by decide) (fun c_1 => ?_) (fun c_2 => ?_)
  · skip
    have c_1 := zBi_n0.mp c_1
    obtain ⟨k, hk, rfl⟩ := zIn_of (by omega) c_1
    have hc_k : (nI k).toNatClampNeg = k := nI_clamp (by omega)
    refine lv_aload_n hx hb dX4_headOf_13 rfl (lv_at hl 0 rfl) ?_
    refine z_getF (v := .ref (ad 0)) hx hb hts hown in_X4_headOf_X4 hK hN 0 (by decide) rfl (hts _ (List.mem_of_getElem? (i := 1) (by decide +kernel))) rfl dX4_headOf_14 ?_
    refine z_getO (v := .ref (ad 1)) hx hb hts hown in_X4_headOf_X1 hK hN 0 (by decide) rfl (hts _ (List.mem_of_getElem? (i := 2) (by decide +kernel))) rfl dX4_headOf_17 ?_
    refine lv_iload_n hx hb dX4_headOf_20 rfl (lv_at hl 1 rfl) ?_
    refine z_aald (i := k) hx hb hK hN rfl (by omega) dX4_headOf_21 ?_
    refine z_getS (v := .int (τ 7 k)) hx hb hts hown in_X4_headOf_X3 hK hN12 hN (by omega) 7 (by decide) rfl (hts _ (List.mem_of_getElem? (i := 3) (by decide +kernel))) rfl dX4_headOf_22 ?_
    exact z_iretE hx hb hr hlk hK hS (zIr_n (by first | assumption | (simp only [c_1, hc_k, eq_self, ne_eq, not_true_eq_false, not_false_eq_true, and_true, true_and, and_self, and_false, false_and, true_or, or_true, false_or, or_false, reduceIte]; done) | (simp [c_1, hc_k]; done) | grind) (by first | rfl | (simp only [c_1, hc_k, eq_self, ne_eq, not_true_eq_false, not_false_eq_true, and_true, true_and, and_self, and_false, false_and, true_or, or_true, false_or, or_false, reduceIte]; done) | (simp [c_1, hc_k]; done))) (zIf_n (by first | assumption | (simp only [c_1, hc_k, eq_self, ne_eq, not_true_eq_false, not_false_eq_true, and_true, true_and, and_self, and_false, false_and, true_or, or_true, false_or, or_false, reduceIte]; done) | (simp [c_1, hc_k]; done) | grind) (by first | exact hN | (simpa only [c_1, hc_k, eq_self, ne_eq, not_true_eq_false, not_false_eq_true, and_true, true_and, and_self, and_false, false_and, true_or, or_true, false_or, or_false, reduceIte] using hN) | (simpa [c_1, hc_k] using hN))) dX4_headOf_25
  · skip
    have c_2 := zBi_0.mp c_2
    refine lv_iconst (v := -1) hx hb dX4_headOf_11 (by decide) ?_
    exact z_iretE hx hb hr hlk hK hS (zIr_t (by first | assumption | (simp only [c_2, eq_self, ne_eq, not_true_eq_false, not_false_eq_true, and_true, true_and, and_self, and_false, false_and, true_or, or_true, false_or, or_false, reduceIte]; done) | (simp [c_2]; done) | grind) (by first | rfl | (simp only [c_2, eq_self, ne_eq, not_true_eq_false, not_false_eq_true, and_true, true_and, and_self, and_false, false_and, true_or, or_true, false_or, or_false, reduceIte]; done) | (simp [c_2]; done))) (zIf_t (by first | assumption | (simp only [c_2, eq_self, ne_eq, not_true_eq_false, not_false_eq_true, and_true, true_and, and_self, and_false, false_and, true_or, or_true, false_or, or_false, reduceIte]; done) | (simp [c_2]; done) | grind) (by first | exact hN | (simpa only [c_2, eq_self, ne_eq, not_true_eq_false, not_false_eq_true, and_true, true_and, and_self, and_false, false_and, true_or, or_true, false_or, or_false, reduceIte] using hN) | (simpa [c_2] using hN))) dX4_headOf_12

theorem in_X4_slotOf_X1 : ∀ w ∈ wsX10, w ∈ wsX4_slotOf := by decide +kernel
theorem in_X4_slotOf_X3 : ∀ w ∈ wsX30, w ∈ wsX4_slotOf := by decide +kernel
theorem in_X4_slotOf_X4 : ∀ w ∈ wsX40, w ∈ wsX4_slotOf := by decide +kernel
set_option maxHeartbeats 4000000 in
set_option maxRecDepth 100000 in
theorem p_X4_slotOf (l : Launch) (G : zG) (ad : Nat → Nat) (na : Nat → Nat → Nat) (ma : Nat → Nat) (hd : zTd ad na ma) (π : Nat → Nat) (hπ : zPi π) (d : Nat) (hd6 : d ≤ 6) (fl : Nat → Int32) (T : Nat → zS3) (n : Nat) (hn12 : n ≤ 12) (g : Nat → Int32) (τ : zT) (x : Int32) : zMi l G (zAll ad na ma) yX4_slotOf wsX4_slotOf 1 21 [.ref (ma 0), .int x] (zNA G ad n 12 g (zRest G ad na ma π d fl T) τ) (if ¬ (¬ x < 0 ∧ x < nI n) then -1 else τ 8 x.toNatClampNeg) (if ¬ (¬ x < 0 ∧ x < nI n) then (zNA G ad n 12 g (zRest G ad na ma π d fl T) τ) else (zNA G ad n 12 g (zRest G ad na ma π d fl T) τ)) := by
  refine z_met (cc := cX4_slotOf) (maxL := 2) (ret := (some .int)) (by decide) rfl (Nat.le_of_ble_eq_true rfl) ?_
  intro p e s m below meth c ls S hr hlk hnm hN hK hl
  have S : CallFix p m c cX4_slotOf 2 s _ wsX4_slotOf RX4 := S
  obtain ⟨hx, hb, hml, hown, hts⟩ := id S
  have hN12 : 12 ≤ 12 := Nat.le_refl 12
  have hA := zAp_top (G := G) hd π d fl T
  have hS : va_S (zAll ad na ma) s.heap s.heap [] := va_S.rf
  have hl : lv_has ls 2 [(0, .ref (ma 0)), (1, .int x)] := hl
  refine lv_aload_n hx hb dX4_slotOf_0 rfl (lv_at hl 0 rfl) ?_
  refine z_getF (v := .ref (ad 0)) hx hb hts hown in_X4_slotOf_X4 hK hN 0 (by decide) rfl (hts _ (List.mem_of_getElem? (i := 1) (by decide +kernel))) rfl dX4_slotOf_1 ?_
  refine lv_iload_n hx hb dX4_slotOf_4 rfl (lv_at hl 1 rfl) ?_
  refine z_vi (As := [.int x]) (rest := []) (P2 := zNA G ad n 12 g (zRest G ad na ma π d fl T) τ) (r := zBi (¬ x < 0 ∧ x < nI n)) S (c_X1_has l G (zAll ad na ma) ad n 12 g (zRest G ad na ma π d fl T) hA (by omega) hN12  τ x) (cwV 1 hts gX4_slotOf_X1_has rfl rfl rfl (by decide +kernel) ⟨Nat.le_of_ble_eq_true rfl, Nat.le_of_ble_eq_true rfl⟩) (z_recN hK hN) hN hK hS (fun _ _ h => h) (fun _ h => h) hl.1 rfl rfl (Nat.le_of_ble_eq_true rfl) dX4_slotOf_5 ⟨Nat.le_refl _, Nat.le_refl _⟩ (fun H locs hN hS _ => ?_)
  refine lv_if_ne (tgt := 13) hx hb dX4_slotOf_8 (by decide) (fun c_1 => ?_) (fun c_2 => ?_)
  · skip
    have c_1 := zBi_n0.mp c_1
    obtain ⟨k, hk, rfl⟩ := zIn_of (by omega) c_1
    have hc_k : (nI k).toNatClampNeg = k := nI_clamp (by omega)
    refine lv_aload_n hx hb dX4_slotOf_13 rfl (lv_at hl 0 rfl) ?_
    refine z_getF (v := .ref (ad 0)) hx hb hts hown in_X4_slotOf_X4 hK hN 0 (by decide) rfl (hts _ (List.mem_of_getElem? (i := 1) (by decide +kernel))) rfl dX4_slotOf_14 ?_
    refine z_getO (v := .ref (ad 1)) hx hb hts hown in_X4_slotOf_X1 hK hN 0 (by decide) rfl (hts _ (List.mem_of_getElem? (i := 2) (by decide +kernel))) rfl dX4_slotOf_17 ?_
    refine lv_iload_n hx hb dX4_slotOf_20 rfl (lv_at hl 1 rfl) ?_
    refine z_aald (i := k) hx hb hK hN rfl (by omega) dX4_slotOf_21 ?_
    refine z_getS (v := .int (τ 8 k)) hx hb hts hown in_X4_slotOf_X3 hK hN12 hN (by omega) 8 (by decide) rfl (hts _ (List.mem_of_getElem? (i := 3) (by decide +kernel))) rfl dX4_slotOf_22 ?_
    exact z_iretE hx hb hr hlk hK hS (zIr_n (by first | assumption | (simp only [c_1, hc_k, eq_self, ne_eq, not_true_eq_false, not_false_eq_true, and_true, true_and, and_self, and_false, false_and, true_or, or_true, false_or, or_false, reduceIte]; done) | (simp [c_1, hc_k]; done) | grind) (by first | rfl | (simp only [c_1, hc_k, eq_self, ne_eq, not_true_eq_false, not_false_eq_true, and_true, true_and, and_self, and_false, false_and, true_or, or_true, false_or, or_false, reduceIte]; done) | (simp [c_1, hc_k]; done))) (zIf_n (by first | assumption | (simp only [c_1, hc_k, eq_self, ne_eq, not_true_eq_false, not_false_eq_true, and_true, true_and, and_self, and_false, false_and, true_or, or_true, false_or, or_false, reduceIte]; done) | (simp [c_1, hc_k]; done) | grind) (by first | exact hN | (simpa only [c_1, hc_k, eq_self, ne_eq, not_true_eq_false, not_false_eq_true, and_true, true_and, and_self, and_false, false_and, true_or, or_true, false_or, or_false, reduceIte] using hN) | (simpa [c_1, hc_k] using hN))) dX4_slotOf_25
  · skip
    have c_2 := zBi_0.mp c_2
    refine lv_iconst (v := -1) hx hb dX4_slotOf_11 (by decide) ?_
    exact z_iretE hx hb hr hlk hK hS (zIr_t (by first | assumption | (simp only [c_2, eq_self, ne_eq, not_true_eq_false, not_false_eq_true, and_true, true_and, and_self, and_false, false_and, true_or, or_true, false_or, or_false, reduceIte]; done) | (simp [c_2]; done) | grind) (by first | rfl | (simp only [c_2, eq_self, ne_eq, not_true_eq_false, not_false_eq_true, and_true, true_and, and_self, and_false, false_and, true_or, or_true, false_or, or_false, reduceIte]; done) | (simp [c_2]; done))) (zIf_t (by first | assumption | (simp only [c_2, eq_self, ne_eq, not_true_eq_false, not_false_eq_true, and_true, true_and, and_self, and_false, false_and, true_or, or_true, false_or, or_false, reduceIte]; done) | (simp [c_2]; done) | grind) (by first | exact hN | (simpa only [c_2, eq_self, ne_eq, not_true_eq_false, not_false_eq_true, and_true, true_and, and_self, and_false, false_and, true_or, or_true, false_or, or_false, reduceIte] using hN) | (simpa [c_2] using hN))) dX4_slotOf_12

theorem in_X4_addSensor_X1 : ∀ w ∈ wsX10, w ∈ wsX4_addSensor := by decide +kernel
theorem in_X4_addSensor_X4 : ∀ w ∈ wsX40, w ∈ wsX4_addSensor := by decide +kernel
set_option maxHeartbeats 4000000 in
set_option maxRecDepth 100000 in
theorem p_X4_addSensor (l : Launch) (G : zG) (ad : Nat → Nat) (na : Nat → Nat → Nat) (ma : Nat → Nat) (hd : zTd ad na ma) (π : Nat → Nat) (hπ : zPi π) (d : Nat) (hd6 : d ≤ 6) (fl : Nat → Int32) (T : Nat → zS3) (n : Nat) (hn12 : n ≤ 12) (g : Nat → Int32) (τ : zT) (x y b : Int32) : zMi l G (zAll ad na ma) yX4_addSensor wsX4_addSensor 3 64 [.ref (ma 0), .int x, .int y, .int b] (zNA G ad n 12 g (zRest G ad na ma π d fl T) τ) (if ¬ zC3 x y b then -1 else (if n = 12 then -3 else nI n)) (if ¬ zC3 x y b then (zNA G ad n 12 g (zRest G ad na ma π d fl T) τ) else (if n = 12 then (zNA G ad n 12 g (zRest G ad na ma π d fl T) τ) else (zNA G ad (n + 1) 12 g (zRest G ad na ma (zPp d π) (zPd2 d + 1) fl (va_up T ((zPp d π) (zPd2 d)) (zCpy n g τ (T ((zPp d π) (zPd2 d)))))) (zPlc τ n x y b)))) := by
  refine z_met (cc := cX4_addSensor) (maxL := 4) (ret := (some .int)) (by decide) rfl (Nat.le_of_ble_eq_true rfl) ?_
  intro p e s m below meth c ls S hr hlk hnm hN hK hl
  have S : CallFix p m c cX4_addSensor 4 s _ wsX4_addSensor RX4 := S
  obtain ⟨hx, hb, hml, hown, hts⟩ := id S
  have hN12 : 12 ≤ 12 := Nat.le_refl 12
  have hA := zAp_top (G := G) hd π d fl T
  have hS : va_S (zAll ad na ma) s.heap s.heap [] := va_S.rf
  have hl : lv_has ls 4 [(0, .ref (ma 0)), (1, .int x), (2, .int y), (3, .int b)] := hl
  refine lv_iload_n hx hb dX4_addSensor_0 rfl (lv_at hl 1 rfl) ?_
  refine lv_iconst (v := 0) hx hb dX4_addSensor_1 (by decide) ?_
  refine lv_bipush (v := 99) hx hb dX4_addSensor_2 (by decide) ?_
  refine z_si (As := [.int x, .int 0, .int 99]) (rest := []) (P2 := zNA G ad n 12 g (zRest G ad na ma π d fl T) τ) (r := zBi (¬ x < 0 ∧ ¬ 99 < x)) S (c_X4_inRange l G (zAll ad na ma) (zNA G ad n 12 g (zRest G ad na ma π d fl T) τ) x 0 99) (cwS 3 hts gX4_addSensor_X4_inRange rfl rfl rfl (by decide +kernel) ⟨Nat.le_of_ble_eq_true rfl, Nat.le_of_ble_eq_true rfl⟩) hN hK hS (fun _ _ h => h) (fun _ h => h) hl.1 rfl rfl (Nat.le_of_ble_eq_true rfl) dX4_addSensor_4 ⟨Nat.le_refl _, Nat.le_refl _⟩ (fun H locs hN hS _ => ?_)
  refine lv_if_eq (tgt := 30) hx hb dX4_addSensor_7 (by decide) (fun c_1 => ?_) (fun c_2 => ?_)
  · skip
    have c_1 := zBi_0.mp c_1
    refine lv_iconst (v := -1) hx hb dX4_addSensor_30 (by decide) ?_
    exact z_iretE hx hb hr hlk hK hS (zIr_t (by first | assumption | (simp only [zC3, c_1, eq_self, ne_eq, not_true_eq_false, not_false_eq_true, and_true, true_and, and_self, and_false, false_and, true_or, or_true, false_or, or_false, reduceIte]; done) | (simp [zC3, c_1]; done) | grind) (by first | rfl | (simp only [zC3, c_1, eq_self, ne_eq, not_true_eq_false, not_false_eq_true, and_true, true_and, and_self, and_false, false_and, true_or, or_true, false_or, or_false, reduceIte]; done) | (simp [zC3, c_1]; done))) (zIf_t (by first | assumption | (simp only [zC3, c_1, eq_self, ne_eq, not_true_eq_false, not_false_eq_true, and_true, true_and, and_self, and_false, false_and, true_or, or_true, false_or, or_false, reduceIte]; done) | (simp [zC3, c_1]; done) | grind) (by first | exact hN | (simpa only [zC3, c_1, eq_self, ne_eq, not_true_eq_false, not_false_eq_true, and_true, true_and, and_self, and_false, false_and, true_or, or_true, false_or, or_false, reduceIte] using hN) | (simpa [zC3, c_1] using hN))) dX4_addSensor_31
  · skip
    have c_2 := zBi_n0.mp c_2
    refine lv_iload_n hx hb dX4_addSensor_10 rfl (lv_at hl 2 rfl) ?_
    refine lv_iconst (v := 0) hx hb dX4_addSensor_11 (by decide) ?_
    refine lv_bipush (v := 99) hx hb dX4_addSensor_12 (by decide) ?_
    refine z_si (As := [.int y, .int 0, .int 99]) (rest := []) (P2 := zNA G ad n 12 g (zRest G ad na ma π d fl T) τ) (r := zBi (¬ y < 0 ∧ ¬ 99 < y)) S (c_X4_inRange l G (zAll ad na ma) (zNA G ad n 12 g (zRest G ad na ma π d fl T) τ) y 0 99) (cwS 3 hts gX4_addSensor_X4_inRange rfl rfl rfl (by decide +kernel) ⟨Nat.le_of_ble_eq_true rfl, Nat.le_of_ble_eq_true rfl⟩) hN hK hS (fun _ _ h => h) (fun _ h => h) hl.1 rfl rfl (Nat.le_of_ble_eq_true rfl) dX4_addSensor_14 ⟨Nat.le_refl _, Nat.le_refl _⟩ (fun H locs hN hS _ => ?_)
    refine lv_if_eq (tgt := 30) hx hb dX4_addSensor_17 (by decide) (fun c_3 => ?_) (fun c_4 => ?_)
    · skip
      have c_3 := zBi_0.mp c_3
      refine lv_iconst (v := -1) hx hb dX4_addSensor_30 (by decide) ?_
      exact z_iretE hx hb hr hlk hK hS (zIr_t (by first | assumption | (simp only [zC3, c_2, c_3, eq_self, ne_eq, not_true_eq_false, not_false_eq_true, and_true, true_and, and_self, and_false, false_and, true_or, or_true, false_or, or_false, reduceIte]; done) | (simp [zC3, c_2, c_3]; done) | grind) (by first | rfl | (simp only [zC3, c_2, c_3, eq_self, ne_eq, not_true_eq_false, not_false_eq_true, and_true, true_and, and_self, and_false, false_and, true_or, or_true, false_or, or_false, reduceIte]; done) | (simp [zC3, c_2, c_3]; done))) (zIf_t (by first | assumption | (simp only [zC3, c_2, c_3, eq_self, ne_eq, not_true_eq_false, not_false_eq_true, and_true, true_and, and_self, and_false, false_and, true_or, or_true, false_or, or_false, reduceIte]; done) | (simp [zC3, c_2, c_3]; done) | grind) (by first | exact hN | (simpa only [zC3, c_2, c_3, eq_self, ne_eq, not_true_eq_false, not_false_eq_true, and_true, true_and, and_self, and_false, false_and, true_or, or_true, false_or, or_false, reduceIte] using hN) | (simpa [zC3, c_2, c_3] using hN))) dX4_addSensor_31
    · skip
      have c_4 := zBi_n0.mp c_4
      refine lv_iload_n hx hb dX4_addSensor_20 rfl (lv_at hl 3 rfl) ?_
      refine lv_iconst (v := 0) hx hb dX4_addSensor_21 (by decide) ?_
      refine lv_ldc (v := 100000) hx hb hown (hts _ (List.mem_of_getElem? (i := 1) (by decide +kernel))) dX4_addSensor_22 ?_
      refine z_si (As := [.int b, .int 0, .int 100000]) (rest := []) (P2 := zNA G ad n 12 g (zRest G ad na ma π d fl T) τ) (r := zBi (¬ b < 0 ∧ ¬ 100000 < b)) S (c_X4_inRange l G (zAll ad na ma) (zNA G ad n 12 g (zRest G ad na ma π d fl T) τ) b 0 100000) (cwS 3 hts gX4_addSensor_X4_inRange rfl rfl rfl (by decide +kernel) ⟨Nat.le_of_ble_eq_true rfl, Nat.le_of_ble_eq_true rfl⟩) hN hK hS (fun _ _ h => h) (fun _ h => h) hl.1 rfl rfl (Nat.le_of_ble_eq_true rfl) dX4_addSensor_24 ⟨Nat.le_refl _, Nat.le_refl _⟩ (fun H locs hN hS _ => ?_)
      refine lv_if_ne (tgt := 32) hx hb dX4_addSensor_27 (by decide) (fun c_5 => ?_) (fun c_6 => ?_)
      · skip
        have c_5 := zBi_n0.mp c_5
        refine lv_aload_n hx hb dX4_addSensor_32 rfl (lv_at hl 0 rfl) ?_
        refine z_getF (v := .ref (ad 0)) hx hb hts hown in_X4_addSensor_X4 hK hN 0 (by decide) rfl (hts _ (List.mem_of_getElem? (i := 2) (by decide +kernel))) rfl dX4_addSensor_33 ?_
        refine z_getO (v := .int (nI n)) hx hb hts hown in_X4_addSensor_X1 hK hN 2 (by decide) rfl (hts _ (List.mem_of_getElem? (i := 3) (by decide +kernel))) rfl dX4_addSensor_36 ?_
        refine lv_bipush (v := 12) hx hb dX4_addSensor_39 (by decide) ?_
        refine lv_icmp_lt (tgt := 47) hx hb dX4_addSensor_41 (by decide) (fun c_7 => ?_) (fun c_8 => ?_)
        · skip
          have c_7 := (z_ltI (a := n) (b := 12) (by omega) (by omega)).mp c_7
          refine lv_aload_n hx hb dX4_addSensor_47 rfl (lv_at hl 0 rfl) ?_
          refine z_getF (v := .ref (ma 3)) hx hb hts hown in_X4_addSensor_X4 hK hN 4 (by decide) rfl (hts _ (List.mem_of_getElem? (i := 4) (by decide +kernel))) rfl dX4_addSensor_48 ?_
          refine lv_aload_n hx hb dX4_addSensor_51 rfl (lv_at hl 0 rfl) ?_
          refine z_getF (v := .ref (ad 0)) hx hb hts hown in_X4_addSensor_X4 hK hN 0 (by decide) rfl (hts _ (List.mem_of_getElem? (i := 2) (by decide +kernel))) rfl dX4_addSensor_52 ?_
          refine z_vv (As := [.ref (ad 0)]) (rest := []) (P2 := zNA G ad n 12 g (zRest G ad na ma (zPp d π) (zPd2 d + 1) fl (va_up T ((zPp d π) (zPd2 d)) (zCpy n g τ (T ((zPp d π) (zPd2 d)))))) τ) S (h_X0_push l G ad na ma hd π hπ d hd6 fl T n hn12 g τ) (cwV 1 hts gX4_addSensor_X0_push rfl rfl rfl (by decide +kernel) ⟨Nat.le_of_ble_eq_true rfl, Nat.le_of_ble_eq_true rfl⟩) (z_recH hK hN) hN hK hS (fun _ _ h => h) (fun _ h => h) hl.1 rfl rfl (Nat.le_of_ble_eq_true rfl) dX4_addSensor_55 ⟨Nat.le_refl _, Nat.le_refl _⟩ (fun H locs hN hS _ => ?_)
          have hA := zAp_top (G := G) hd (zPp d π) (zPd2 d + 1) fl (va_up T ((zPp d π) (zPd2 d)) (zCpy n g τ (T ((zPp d π) (zPd2 d)))))
          refine lv_aload_n hx hb dX4_addSensor_58 rfl (lv_at hl 0 rfl) ?_
          refine z_getF (v := .ref (ad 0)) hx hb hts hown in_X4_addSensor_X4 hK hN 0 (by decide) rfl (hts _ (List.mem_of_getElem? (i := 2) (by decide +kernel))) rfl dX4_addSensor_59 ?_
          refine z_getO (v := .ref (ad 1)) hx hb hts hown in_X4_addSensor_X1 hK hN 0 (by decide) rfl (hts _ (List.mem_of_getElem? (i := 5) (by decide +kernel))) rfl dX4_addSensor_62 ?_
          refine lv_aload_n hx hb dX4_addSensor_65 rfl (lv_at hl 0 rfl) ?_
          refine z_getF (v := .ref (ad 0)) hx hb hts hown in_X4_addSensor_X4 hK hN 0 (by decide) rfl (hts _ (List.mem_of_getElem? (i := 2) (by decide +kernel))) rfl dX4_addSensor_66 ?_
          refine z_getO (v := .int (nI n)) hx hb hts hown in_X4_addSensor_X1 hK hN 2 (by decide) rfl (hts _ (List.mem_of_getElem? (i := 3) (by decide +kernel))) rfl dX4_addSensor_69 ?_
          refine z_aald (i := n) hx hb hK hN rfl (by omega) dX4_addSensor_72 ?_
          refine lv_iload_n hx hb dX4_addSensor_73 rfl (lv_at hl 1 rfl) ?_
          refine lv_iload_n hx hb dX4_addSensor_74 rfl (lv_at hl 2 rfl) ?_
          refine lv_iload_n hx hb dX4_addSensor_75 rfl (lv_at hl 3 rfl) ?_
          refine z_vv (As := [.int x, .int y, .int b]) (rest := []) (P2 := zNA G ad n 12 g (zRest G ad na ma (zPp d π) (zPd2 d + 1) fl (va_up T ((zPp d π) (zPd2 d)) (zCpy n g τ (T ((zPp d π) (zPd2 d)))))) (zPlc τ n x y b)) S (c_X3_place l G (zAll ad na ma) ad n 12 g (zRest G ad na ma (zPp d π) (zPd2 d + 1) fl (va_up T ((zPp d π) (zPd2 d)) (zCpy n g τ (T ((zPp d π) (zPd2 d)))))) hA (by omega) hN12  τ n (by omega) x y b) (cwV 3 hts gX4_addSensor_X3_place rfl rfl rfl (by decide +kernel) ⟨Nat.le_of_ble_eq_true rfl, Nat.le_of_ble_eq_true rfl⟩) (z_recS hK hN (by omega)) hN hK hS (fun _ _ h => h) (fun _ h => h) hl.1 rfl rfl (Nat.le_of_ble_eq_true rfl) dX4_addSensor_76 ⟨Nat.le_refl _, Nat.le_refl _⟩ (fun H locs hN hS _ => ?_)
          refine lv_aload_n hx hb dX4_addSensor_79 rfl (lv_at hl 0 rfl) ?_
          refine z_getF (v := .ref (ad 0)) hx hb hts hown in_X4_addSensor_X4 hK hN 0 (by decide) rfl (hts _ (List.mem_of_getElem? (i := 2) (by decide +kernel))) rfl dX4_addSensor_80 ?_
          refine lv_dup hx hb dX4_addSensor_83 rfl ?_
          refine z_getO (v := .int (nI n)) hx hb hts hown in_X4_addSensor_X1 hK hN 2 (by decide) rfl (hts _ (List.mem_of_getElem? (i := 3) (by decide +kernel))) rfl dX4_addSensor_84 ?_
          refine lv_iconst (v := 1) hx hb dX4_addSensor_87 (by decide) ?_
          refine lv_iadd hx hb dX4_addSensor_88 ?_
          refine z_top (x2 := nI (n + 1)) (nI_add n 1) ?_
          refine z_putC (w := nI (n + 1)) hx hb hts hown in_X4_addSensor_X1 hK hA hS hN 2 (by decide) rfl (hts _ (List.mem_of_getElem? (i := 3) (by decide +kernel))) (by decide +kernel) (n + 1) g (by intro j hj; first | rfl | (unfold upd; rw [if_neg (by omega)])) rfl (by intro τ; first | rfl | simp [zObj, upd]) dX4_addSensor_89 (fun H locs hN hS => ?_)
          refine lv_aload_n hx hb dX4_addSensor_92 rfl (lv_at hl 0 rfl) ?_
          refine z_getF (v := .ref (ad 0)) hx hb hts hown in_X4_addSensor_X4 hK hN 0 (by decide) rfl (hts _ (List.mem_of_getElem? (i := 2) (by decide +kernel))) rfl dX4_addSensor_93 ?_
          refine z_getO (v := .int (nI (n + 1))) hx hb hts hown in_X4_addSensor_X1 hK hN 2 (by decide) rfl (hts _ (List.mem_of_getElem? (i := 3) (by decide +kernel))) rfl dX4_addSensor_96 ?_
          refine lv_iconst (v := 1) hx hb dX4_addSensor_99 (by decide) ?_
          refine lv_isub hx hb dX4_addSensor_100 ?_
          refine z_top (x2 := nI ((n + 1) - 1)) (pk_sub (a := (n + 1)) (b := 1) (by omega)) ?_
          exact z_iretE hx hb hr hlk hK hS (zIr_n (by first | assumption | (simp only [zC3, c_2, c_4, c_5, c_7, eq_self, ne_eq, not_true_eq_false, not_false_eq_true, and_true, true_and, and_self, and_false, false_and, true_or, or_true, false_or, or_false, reduceIte]; done) | (simp [zC3, c_2, c_4, c_5, c_7]; done) | grind) (zIr_n (by first | assumption | (simp only [zC3, c_2, c_4, c_5, c_7, eq_self, ne_eq, not_true_eq_false, not_false_eq_true, and_true, true_and, and_self, and_false, false_and, true_or, or_true, false_or, or_false, reduceIte]; done) | (simp [zC3, c_2, c_4, c_5, c_7]; done) | grind) (by first | rfl | (simp only [zC3, c_2, c_4, c_5, c_7, eq_self, ne_eq, not_true_eq_false, not_false_eq_true, and_true, true_and, and_self, and_false, false_and, true_or, or_true, false_or, or_false, reduceIte]; done) | (simp [zC3, c_2, c_4, c_5, c_7]; done)))) (zIf_n (by first | assumption | (simp only [zC3, c_2, c_4, c_5, c_7, eq_self, ne_eq, not_true_eq_false, not_false_eq_true, and_true, true_and, and_self, and_false, false_and, true_or, or_true, false_or, or_false, reduceIte]; done) | (simp [zC3, c_2, c_4, c_5, c_7]; done) | grind) (zIf_n (by first | assumption | (simp only [zC3, c_2, c_4, c_5, c_7, eq_self, ne_eq, not_true_eq_false, not_false_eq_true, and_true, true_and, and_self, and_false, false_and, true_or, or_true, false_or, or_false, reduceIte]; done) | (simp [zC3, c_2, c_4, c_5, c_7]; done) | grind) (by first | exact hN | (simpa only [zC3, c_2, c_4, c_5, c_7, eq_self, ne_eq, not_true_eq_false, not_false_eq_true, and_true, true_and, and_self, and_false, false_and, true_or, or_true, false_or, or_false, reduceIte] using hN) | (simpa [zC3, c_2, c_4, c_5, c_7] using hN)))) dX4_addSensor_101
        · skip
          have c_8 := (not_congr (z_ltI (a := n) (b := 12) (by omega) (by omega))).mp c_8
          refine lv_bipush (v := -3) hx hb dX4_addSensor_44 (by decide) ?_
          exact z_iretE hx hb hr hlk hK hS (zIr_n (by first | assumption | (simp only [zC3, c_2, c_4, c_5, c_8, eq_self, ne_eq, not_true_eq_false, not_false_eq_true, and_true, true_and, and_self, and_false, false_and, true_or, or_true, false_or, or_false, reduceIte]; done) | (simp [zC3, c_2, c_4, c_5, c_8]; done) | grind) (zIr_t (by first | assumption | (simp only [zC3, c_2, c_4, c_5, c_8, eq_self, ne_eq, not_true_eq_false, not_false_eq_true, and_true, true_and, and_self, and_false, false_and, true_or, or_true, false_or, or_false, reduceIte]; done) | (simp [zC3, c_2, c_4, c_5, c_8]; done) | grind) (by first | rfl | (simp only [zC3, c_2, c_4, c_5, c_8, eq_self, ne_eq, not_true_eq_false, not_false_eq_true, and_true, true_and, and_self, and_false, false_and, true_or, or_true, false_or, or_false, reduceIte]; done) | (simp [zC3, c_2, c_4, c_5, c_8]; done)))) (zIf_n (by first | assumption | (simp only [zC3, c_2, c_4, c_5, c_8, eq_self, ne_eq, not_true_eq_false, not_false_eq_true, and_true, true_and, and_self, and_false, false_and, true_or, or_true, false_or, or_false, reduceIte]; done) | (simp [zC3, c_2, c_4, c_5, c_8]; done) | grind) (zIf_t (by first | assumption | (simp only [zC3, c_2, c_4, c_5, c_8, eq_self, ne_eq, not_true_eq_false, not_false_eq_true, and_true, true_and, and_self, and_false, false_and, true_or, or_true, false_or, or_false, reduceIte]; done) | (simp [zC3, c_2, c_4, c_5, c_8]; done) | grind) (by first | exact hN | (simpa only [zC3, c_2, c_4, c_5, c_8, eq_self, ne_eq, not_true_eq_false, not_false_eq_true, and_true, true_and, and_self, and_false, false_and, true_or, or_true, false_or, or_false, reduceIte] using hN) | (simpa [zC3, c_2, c_4, c_5, c_8] using hN)))) dX4_addSensor_46
      · skip
        have c_6 := zBi_0.mp c_6
        refine lv_iconst (v := -1) hx hb dX4_addSensor_30 (by decide) ?_
        exact z_iretE hx hb hr hlk hK hS (zIr_t (by first | assumption | (simp only [zC3, c_2, c_4, c_6, eq_self, ne_eq, not_true_eq_false, not_false_eq_true, and_true, true_and, and_self, and_false, false_and, true_or, or_true, false_or, or_false, reduceIte]; done) | (simp [zC3, c_2, c_4, c_6]; done) | grind) (by first | rfl | (simp only [zC3, c_2, c_4, c_6, eq_self, ne_eq, not_true_eq_false, not_false_eq_true, and_true, true_and, and_self, and_false, false_and, true_or, or_true, false_or, or_false, reduceIte]; done) | (simp [zC3, c_2, c_4, c_6]; done))) (zIf_t (by first | assumption | (simp only [zC3, c_2, c_4, c_6, eq_self, ne_eq, not_true_eq_false, not_false_eq_true, and_true, true_and, and_self, and_false, false_and, true_or, or_true, false_or, or_false, reduceIte]; done) | (simp [zC3, c_2, c_4, c_6]; done) | grind) (by first | exact hN | (simpa only [zC3, c_2, c_4, c_6, eq_self, ne_eq, not_true_eq_false, not_false_eq_true, and_true, true_and, and_self, and_false, false_and, true_or, or_true, false_or, or_false, reduceIte] using hN) | (simpa [zC3, c_2, c_4, c_6] using hN))) dX4_addSensor_31

theorem in_X4_setGenerator_X1 : ∀ w ∈ wsX10, w ∈ wsX4_setGenerator := by decide +kernel
theorem in_X4_setGenerator_X4 : ∀ w ∈ wsX40, w ∈ wsX4_setGenerator := by decide +kernel
set_option maxHeartbeats 4000000 in
set_option maxRecDepth 100000 in
theorem p_X4_setGenerator (l : Launch) (G : zG) (ad : Nat → Nat) (na : Nat → Nat → Nat) (ma : Nat → Nat) (hd : zTd ad na ma) (π : Nat → Nat) (hπ : zPi π) (d : Nat) (hd6 : d ≤ 6) (fl : Nat → Int32) (T : Nat → zS3) (n : Nat) (hn12 : n ≤ 12) (g : Nat → Int32) (τ : zT) (x : Int32) : zMi l G (zAll ad na ma) yX4_setGenerator wsX4_setGenerator 3 64 [.ref (ma 0), .int x] (zNA G ad n 12 g (zRest G ad na ma π d fl T) τ) (if x < 0 then -1 else τ 11 10) (if x < 0 then (zNA G ad n 12 g (zRest G ad na ma π d fl T) τ) else (zNA G ad n 12 g (zRest G ad na ma (zPp d π) (zPd2 d + 1) fl (va_up T ((zPp d π) (zPd2 d)) (zCpy n g τ (T ((zPp d π) (zPd2 d)))))) (zSt τ 11 9 x))) := by
  refine z_met (cc := cX4_setGenerator) (maxL := 2) (ret := (some .int)) (by decide) rfl (Nat.le_of_ble_eq_true rfl) ?_
  intro p e s m below meth c ls S hr hlk hnm hN hK hl
  have S : CallFix p m c cX4_setGenerator 2 s _ wsX4_setGenerator RX4 := S
  obtain ⟨hx, hb, hml, hown, hts⟩ := id S
  have hN12 : 12 ≤ 12 := Nat.le_refl 12
  have hA := zAp_top (G := G) hd π d fl T
  have hS : va_S (zAll ad na ma) s.heap s.heap [] := va_S.rf
  have hl : lv_has ls 2 [(0, .ref (ma 0)), (1, .int x)] := hl
  refine lv_iload_n hx hb dX4_setGenerator_0 rfl (lv_at hl 1 rfl) ?_
  refine lv_if_ge (tgt := 6) hx hb dX4_setGenerator_1 (by decide) (fun c_1 => ?_) (fun c_2 => ?_)
  · skip
    have c_1 := Int32.not_lt.mpr c_1
    refine lv_aload_n hx hb dX4_setGenerator_6 rfl (lv_at hl 0 rfl) ?_
    refine z_getF (v := .ref (ma 3)) hx hb hts hown in_X4_setGenerator_X4 hK hN 4 (by decide) rfl (hts _ (List.mem_of_getElem? (i := 1) (by decide +kernel))) rfl dX4_setGenerator_7 ?_
    refine lv_aload_n hx hb dX4_setGenerator_10 rfl (lv_at hl 0 rfl) ?_
    refine z_getF (v := .ref (ad 0)) hx hb hts hown in_X4_setGenerator_X4 hK hN 0 (by decide) rfl (hts _ (List.mem_of_getElem? (i := 2) (by decide +kernel))) rfl dX4_setGenerator_11 ?_
    refine z_vv (As := [.ref (ad 0)]) (rest := []) (P2 := zNA G ad n 12 g (zRest G ad na ma (zPp d π) (zPd2 d + 1) fl (va_up T ((zPp d π) (zPd2 d)) (zCpy n g τ (T ((zPp d π) (zPd2 d)))))) τ) S (h_X0_push l G ad na ma hd π hπ d hd6 fl T n hn12 g τ) (cwV 1 hts gX4_setGenerator_X0_push rfl rfl rfl (by decide +kernel) ⟨Nat.le_of_ble_eq_true rfl, Nat.le_of_ble_eq_true rfl⟩) (z_recH hK hN) hN hK hS (fun _ _ h => h) (fun _ h => h) hl.1 rfl rfl (Nat.le_of_ble_eq_true rfl) dX4_setGenerator_14 ⟨Nat.le_refl _, Nat.le_refl _⟩ (fun H locs hN hS _ => ?_)
    have hA := zAp_top (G := G) hd (zPp d π) (zPd2 d + 1) fl (va_up T ((zPp d π) (zPd2 d)) (zCpy n g τ (T ((zPp d π) (zPd2 d)))))
    refine lv_aload_n hx hb dX4_setGenerator_17 rfl (lv_at hl 0 rfl) ?_
    refine z_getF (v := .ref (ad 0)) hx hb hts hown in_X4_setGenerator_X4 hK hN 0 (by decide) rfl (hts _ (List.mem_of_getElem? (i := 2) (by decide +kernel))) rfl dX4_setGenerator_18 ?_
    refine lv_iload_n hx hb dX4_setGenerator_21 rfl (lv_at hl 1 rfl) ?_
    refine z_putO (w := x) hx hb hts hown in_X4_setGenerator_X1 hK hA hS hN 5 9 (by decide) rfl (hts _ (List.mem_of_getElem? (i := 3) (by decide +kernel))) (by decide +kernel) rfl (fun τ => zObs5 ad _ _ τ _) dX4_setGenerator_22 (fun H locs hN hS => ?_)
    refine lv_aload_n hx hb dX4_setGenerator_25 rfl (lv_at hl 0 rfl) ?_
    refine z_getF (v := .ref (ad 0)) hx hb hts hown in_X4_setGenerator_X4 hK hN 0 (by decide) rfl (hts _ (List.mem_of_getElem? (i := 2) (by decide +kernel))) rfl dX4_setGenerator_26 ?_
    refine z_getO (v := .int (τ 11 10)) hx hb hts hown in_X4_setGenerator_X1 hK hN 6 (by decide) rfl (hts _ (List.mem_of_getElem? (i := 4) (by decide +kernel))) rfl dX4_setGenerator_29 ?_
    exact z_iretE hx hb hr hlk hK hS (zIr_n (by first | assumption | (simp only [c_1, eq_self, ne_eq, not_true_eq_false, not_false_eq_true, and_true, true_and, and_self, and_false, false_and, true_or, or_true, false_or, or_false, reduceIte]; done) | (simp [c_1]; done) | grind) (by first | rfl | (simp only [c_1, eq_self, ne_eq, not_true_eq_false, not_false_eq_true, and_true, true_and, and_self, and_false, false_and, true_or, or_true, false_or, or_false, reduceIte]; done) | (simp [c_1]; done))) (zIf_n (by first | assumption | (simp only [c_1, eq_self, ne_eq, not_true_eq_false, not_false_eq_true, and_true, true_and, and_self, and_false, false_and, true_or, or_true, false_or, or_false, reduceIte]; done) | (simp [c_1]; done) | grind) (by first | exact hN | (simpa only [c_1, eq_self, ne_eq, not_true_eq_false, not_false_eq_true, and_true, true_and, and_self, and_false, false_and, true_or, or_true, false_or, or_false, reduceIte] using hN) | (simpa [c_1] using hN))) dX4_setGenerator_32
  · skip
    have c_2 := Int32.not_le.mp c_2
    refine lv_iconst (v := -1) hx hb dX4_setGenerator_4 (by decide) ?_
    exact z_iretE hx hb hr hlk hK hS (zIr_t (by first | assumption | (simp only [c_2, eq_self, ne_eq, not_true_eq_false, not_false_eq_true, and_true, true_and, and_self, and_false, false_and, true_or, or_true, false_or, or_false, reduceIte]; done) | (simp [c_2]; done) | grind) (by first | rfl | (simp only [c_2, eq_self, ne_eq, not_true_eq_false, not_false_eq_true, and_true, true_and, and_self, and_false, false_and, true_or, or_true, false_or, or_false, reduceIte]; done) | (simp [c_2]; done))) (zIf_t (by first | assumption | (simp only [c_2, eq_self, ne_eq, not_true_eq_false, not_false_eq_true, and_true, true_and, and_self, and_false, false_and, true_or, or_true, false_or, or_false, reduceIte]; done) | (simp [c_2]; done) | grind) (by first | exact hN | (simpa only [c_2, eq_self, ne_eq, not_true_eq_false, not_false_eq_true, and_true, true_and, and_self, and_false, false_and, true_or, or_true, false_or, or_false, reduceIte] using hN) | (simpa [c_2] using hN))) dX4_setGenerator_5

theorem in_X4_charge_X1 : ∀ w ∈ wsX10, w ∈ wsX4_charge := by decide +kernel
theorem in_X4_charge_X3 : ∀ w ∈ wsX30, w ∈ wsX4_charge := by decide +kernel
theorem in_X4_charge_X4 : ∀ w ∈ wsX40, w ∈ wsX4_charge := by decide +kernel
set_option maxHeartbeats 4000000 in
set_option maxRecDepth 100000 in
theorem p_X4_charge (l : Launch) (G : zG) (ad : Nat → Nat) (na : Nat → Nat → Nat) (ma : Nat → Nat) (hd : zTd ad na ma) (π : Nat → Nat) (hπ : zPi π) (d : Nat) (hd6 : d ≤ 6) (fl : Nat → Int32) (T : Nat → zS3) (n : Nat) (hn12 : n ≤ 12) (g : Nat → Int32) (τ : zT) (x u : Int32) : zMi l G (zAll ad na ma) yX4_charge wsX4_charge 3 64 [.ref (ma 0), .int x, .int u] (zNA G ad n 12 g (zRest G ad na ma π d fl T) τ) (if ¬ ((¬ x < 0 ∧ x < nI n) ∧ (¬ u < 1 ∧ ¬ 100000 < u)) then -1 else (if ¬ (τ 3 x.toNatClampNeg = 1 ∧ ¬ 1000000 < τ 2 x.toNatClampNeg + u) then -2 else τ 2 x.toNatClampNeg + u)) (if ¬ ((¬ x < 0 ∧ x < nI n) ∧ (¬ u < 1 ∧ ¬ 100000 < u)) then (zNA G ad n 12 g (zRest G ad na ma π d fl T) τ) else (if ¬ (τ 3 x.toNatClampNeg = 1 ∧ ¬ 1000000 < τ 2 x.toNatClampNeg + u) then (zNA G ad n 12 g (zRest G ad na ma π d fl T) τ) else (zNA G ad n 12 g (zRest G ad na ma (zPp d π) (zPd2 d + 1) fl (va_up T ((zPp d π) (zPd2 d)) (zCpy n g τ (T ((zPp d π) (zPd2 d)))))) (zSt τ 2 x.toNatClampNeg (τ 2 x.toNatClampNeg + u))))) := by
  refine z_met (cc := cX4_charge) (maxL := 4) (ret := (some .int)) (by decide) rfl (Nat.le_of_ble_eq_true rfl) ?_
  intro p e s m below meth c ls S hr hlk hnm hN hK hl
  have S : CallFix p m c cX4_charge 4 s _ wsX4_charge RX4 := S
  obtain ⟨hx, hb, hml, hown, hts⟩ := id S
  have hN12 : 12 ≤ 12 := Nat.le_refl 12
  have hA := zAp_top (G := G) hd π d fl T
  have hS : va_S (zAll ad na ma) s.heap s.heap [] := va_S.rf
  have hl : lv_has ls 4 [(0, .ref (ma 0)), (1, .int x), (2, .int u)] := hl
  refine lv_aload_n hx hb dX4_charge_0 rfl (lv_at hl 0 rfl) ?_
  refine z_getF (v := .ref (ad 0)) hx hb hts hown in_X4_charge_X4 hK hN 0 (by decide) rfl (hts _ (List.mem_of_getElem? (i := 1) (by decide +kernel))) rfl dX4_charge_1 ?_
  refine lv_iload_n hx hb dX4_charge_4 rfl (lv_at hl 1 rfl) ?_
  refine z_vi (As := [.int x]) (rest := []) (P2 := zNA G ad n 12 g (zRest G ad na ma π d fl T) τ) (r := zBi (¬ x < 0 ∧ x < nI n)) S (c_X1_has l G (zAll ad na ma) ad n 12 g (zRest G ad na ma π d fl T) hA (by omega) hN12  τ x) (cwV 1 hts gX4_charge_X1_has rfl rfl rfl (by decide +kernel) ⟨Nat.le_of_ble_eq_true rfl, Nat.le_of_ble_eq_true rfl⟩) (z_recN hK hN) hN hK hS (fun _ _ h => h) (fun _ h => h) hl.1 rfl rfl (Nat.le_of_ble_eq_true rfl) dX4_charge_5 ⟨Nat.le_refl _, Nat.le_refl _⟩ (fun H locs hN hS _ => ?_)
  refine lv_if_eq (tgt := 21) hx hb dX4_charge_8 (by decide) (fun c_1 => ?_) (fun c_2 => ?_)
  · skip
    have c_1 := zBi_0.mp c_1
    refine lv_iconst (v := -1) hx hb dX4_charge_21 (by decide) ?_
    exact z_iretE hx hb hr hlk hK hS (zIr_t (by first | assumption | (simp only [c_1, eq_self, ne_eq, not_true_eq_false, not_false_eq_true, and_true, true_and, and_self, and_false, false_and, true_or, or_true, false_or, or_false, reduceIte]; done) | (simp [c_1]; done) | grind) (by first | rfl | (simp only [c_1, eq_self, ne_eq, not_true_eq_false, not_false_eq_true, and_true, true_and, and_self, and_false, false_and, true_or, or_true, false_or, or_false, reduceIte]; done) | (simp [c_1]; done))) (zIf_t (by first | assumption | (simp only [c_1, eq_self, ne_eq, not_true_eq_false, not_false_eq_true, and_true, true_and, and_self, and_false, false_and, true_or, or_true, false_or, or_false, reduceIte]; done) | (simp [c_1]; done) | grind) (by first | exact hN | (simpa only [c_1, eq_self, ne_eq, not_true_eq_false, not_false_eq_true, and_true, true_and, and_self, and_false, false_and, true_or, or_true, false_or, or_false, reduceIte] using hN) | (simpa [c_1] using hN))) dX4_charge_22
  · skip
    have c_2 := zBi_n0.mp c_2
    obtain ⟨k, hk, rfl⟩ := zIn_of (by omega) c_2
    have hc_k : (nI k).toNatClampNeg = k := nI_clamp (by omega)
    refine lv_iload_n hx hb dX4_charge_11 rfl (lv_at hl 2 rfl) ?_
    refine lv_iconst (v := 1) hx hb dX4_charge_12 (by decide) ?_
    refine lv_ldc (v := 100000) hx hb hown (hts _ (List.mem_of_getElem? (i := 2) (by decide +kernel))) dX4_charge_13 ?_
    refine z_si (As := [.int u, .int 1, .int 100000]) (rest := []) (P2 := zNA G ad n 12 g (zRest G ad na ma π d fl T) τ) (r := zBi (¬ u < 1 ∧ ¬ 100000 < u)) S (c_X4_inRange l G (zAll ad na ma) (zNA G ad n 12 g (zRest G ad na ma π d fl T) τ) u 1 100000) (cwS 3 hts gX4_charge_X4_inRange rfl rfl rfl (by decide +kernel) ⟨Nat.le_of_ble_eq_true rfl, Nat.le_of_ble_eq_true rfl⟩) hN hK hS (fun _ _ h => h) (fun _ h => h) hl.1 rfl rfl (Nat.le_of_ble_eq_true rfl) dX4_charge_15 ⟨Nat.le_refl _, Nat.le_refl _⟩ (fun H locs hN hS _ => ?_)
    refine lv_if_ne (tgt := 23) hx hb dX4_charge_18 (by decide) (fun c_3 => ?_) (fun c_4 => ?_)
    · skip
      have c_3 := zBi_n0.mp c_3
      refine lv_aload_n hx hb dX4_charge_23 rfl (lv_at hl 0 rfl) ?_
      refine z_getF (v := .ref (ad 0)) hx hb hts hown in_X4_charge_X4 hK hN 0 (by decide) rfl (hts _ (List.mem_of_getElem? (i := 1) (by decide +kernel))) rfl dX4_charge_24 ?_
      refine z_getO (v := .ref (ad 1)) hx hb hts hown in_X4_charge_X1 hK hN 0 (by decide) rfl (hts _ (List.mem_of_getElem? (i := 3) (by decide +kernel))) rfl dX4_charge_27 ?_
      refine lv_iload_n hx hb dX4_charge_30 rfl (lv_at hl 1 rfl) ?_
      refine z_aald (i := k) hx hb hK hN rfl (by omega) dX4_charge_31 ?_
      refine lv_astore_n (lv' := [(3, .ref (ad (3 + k))), (0, .ref (ma 0)), (1, .int (nI k)), (2, .int u)]) hx hb dX4_charge_32 rfl hl (by decide) rfl (fun ls hl => ?_)
      refine lv_aload_n hx hb dX4_charge_33 rfl (lv_at hl 0 rfl) ?_
      refine z_getS (v := .int (zBi (τ 3 k = 1))) hx hb hts hown in_X4_charge_X3 hK hN12 hN (by omega) 3 (by decide) rfl (hts _ (List.mem_of_getElem? (i := 4) (by decide +kernel))) rfl dX4_charge_34 ?_
      refine lv_if_eq (tgt := 51) hx hb dX4_charge_37 (by decide) (fun c_5 => ?_) (fun c_6 => ?_)
      · skip
        have c_5 := zBi_0.mp c_5
        refine lv_bipush (v := -2) hx hb dX4_charge_51 (by decide) ?_
        exact z_iretE hx hb hr hlk hK hS (zIr_n (by first | assumption | (simp only [c_2, hc_k, c_3, c_5, eq_self, ne_eq, not_true_eq_false, not_false_eq_true, and_true, true_and, and_self, and_false, false_and, true_or, or_true, false_or, or_false, reduceIte]; done) | (simp [c_2, hc_k, c_3, c_5]; done) | grind) (zIr_t (by first | assumption | (simp only [c_2, hc_k, c_3, c_5, eq_self, ne_eq, not_true_eq_false, not_false_eq_true, and_true, true_and, and_self, and_false, false_and, true_or, or_true, false_or, or_false, reduceIte]; done) | (simp [c_2, hc_k, c_3, c_5]; done) | grind) (by first | rfl | (simp only [c_2, hc_k, c_3, c_5, eq_self, ne_eq, not_true_eq_false, not_false_eq_true, and_true, true_and, and_self, and_false, false_and, true_or, or_true, false_or, or_false, reduceIte]; done) | (simp [c_2, hc_k, c_3, c_5]; done)))) (zIf_n (by first | assumption | (simp only [c_2, hc_k, c_3, c_5, eq_self, ne_eq, not_true_eq_false, not_false_eq_true, and_true, true_and, and_self, and_false, false_and, true_or, or_true, false_or, or_false, reduceIte]; done) | (simp [c_2, hc_k, c_3, c_5]; done) | grind) (zIf_t (by first | assumption | (simp only [c_2, hc_k, c_3, c_5, eq_self, ne_eq, not_true_eq_false, not_false_eq_true, and_true, true_and, and_self, and_false, false_and, true_or, or_true, false_or, or_false, reduceIte]; done) | (simp [c_2, hc_k, c_3, c_5]; done) | grind) (by first | exact hN | (simpa only [c_2, hc_k, c_3, c_5, eq_self, ne_eq, not_true_eq_false, not_false_eq_true, and_true, true_and, and_self, and_false, false_and, true_or, or_true, false_or, or_false, reduceIte] using hN) | (simpa [c_2, hc_k, c_3, c_5] using hN)))) dX4_charge_53
      · skip
        have c_6 := zBi_n0.mp c_6
        refine lv_aload_n hx hb dX4_charge_40 rfl (lv_at hl 0 rfl) ?_
        refine z_getS (v := .int (τ 2 k)) hx hb hts hown in_X4_charge_X3 hK hN12 hN (by omega) 2 (by decide) rfl (hts _ (List.mem_of_getElem? (i := 5) (by decide +kernel))) rfl dX4_charge_41 ?_
        refine lv_iload_n hx hb dX4_charge_44 rfl (lv_at hl 3 rfl) ?_
        refine lv_iadd hx hb dX4_charge_45 ?_
        refine lv_ldc (v := 1000000) hx hb hown (hts _ (List.mem_of_getElem? (i := 6) (by decide +kernel))) dX4_charge_46 ?_
        refine lv_icmp_le (tgt := 54) hx hb dX4_charge_48 (by decide) (fun c_7 => ?_) (fun c_8 => ?_)
        · skip
          have c_7 := Int32.not_lt.mpr c_7
          refine lv_aload_n hx hb dX4_charge_54 rfl (lv_at hl 1 rfl) ?_
          refine z_getF (v := .ref (ma 3)) hx hb hts hown in_X4_charge_X4 hK hN 4 (by decide) rfl (hts _ (List.mem_of_getElem? (i := 7) (by decide +kernel))) rfl dX4_charge_55 ?_
          refine lv_aload_n hx hb dX4_charge_58 rfl (lv_at hl 1 rfl) ?_
          refine z_getF (v := .ref (ad 0)) hx hb hts hown in_X4_charge_X4 hK hN 0 (by decide) rfl (hts _ (List.mem_of_getElem? (i := 1) (by decide +kernel))) rfl dX4_charge_59 ?_
          refine z_vv (As := [.ref (ad 0)]) (rest := []) (P2 := zNA G ad n 12 g (zRest G ad na ma (zPp d π) (zPd2 d + 1) fl (va_up T ((zPp d π) (zPd2 d)) (zCpy n g τ (T ((zPp d π) (zPd2 d)))))) τ) S (h_X0_push l G ad na ma hd π hπ d hd6 fl T n hn12 g τ) (cwV 1 hts gX4_charge_X0_push rfl rfl rfl (by decide +kernel) ⟨Nat.le_of_ble_eq_true rfl, Nat.le_of_ble_eq_true rfl⟩) (z_recH hK hN) hN hK hS (fun _ _ h => h) (fun _ h => h) hl.1 rfl rfl (Nat.le_of_ble_eq_true rfl) dX4_charge_62 ⟨Nat.le_refl _, Nat.le_refl _⟩ (fun H locs hN hS _ => ?_)
          have hA := zAp_top (G := G) hd (zPp d π) (zPd2 d + 1) fl (va_up T ((zPp d π) (zPd2 d)) (zCpy n g τ (T ((zPp d π) (zPd2 d)))))
          refine lv_aload_n hx hb dX4_charge_65 rfl (lv_at hl 0 rfl) ?_
          refine lv_dup hx hb dX4_charge_66 rfl ?_
          refine z_getS (v := .int (τ 2 k)) hx hb hts hown in_X4_charge_X3 hK hN12 hN (by omega) 2 (by decide) rfl (hts _ (List.mem_of_getElem? (i := 5) (by decide +kernel))) rfl dX4_charge_67 ?_
          refine lv_iload_n hx hb dX4_charge_70 rfl (lv_at hl 3 rfl) ?_
          refine lv_iadd hx hb dX4_charge_71 ?_
          refine z_putS (v := .int ((τ 2 k) + u)) (w := (τ 2 k) + u) (ty := .int) hx hb hts hown in_X4_charge_X3 hK hA hS hN (by omega) 2 2 (by decide) rfl (by decide) (hts _ (List.mem_of_getElem? (i := 5) (by decide +kernel))) (by decide +kernel) rfl rfl rfl (fun τ => zSet2 τ _ _) dX4_charge_72 (fun H locs hN hS => ?_)
          refine lv_aload_n hx hb dX4_charge_75 rfl (lv_at hl 0 rfl) ?_
          refine z_getS (v := .int ((τ 2 k) + u)) hx hb hts hown in_X4_charge_X3 hK hN12 hN (by omega) 2 (by decide) rfl (hts _ (List.mem_of_getElem? (i := 5) (by decide +kernel))) (congrArg (fun z => some (Value.int z)) (zSt_self τ 2 k ((τ 2 k) + u))) dX4_charge_76 ?_
          exact z_iretE hx hb hr hlk hK hS (zIr_n (by first | assumption | (simp only [c_2, hc_k, c_3, c_6, c_7, eq_self, ne_eq, not_true_eq_false, not_false_eq_true, and_true, true_and, and_self, and_false, false_and, true_or, or_true, false_or, or_false, reduceIte]; done) | (simp [c_2, hc_k, c_3, c_6, c_7]; done) | grind) (zIr_n (by first | assumption | (simp only [c_2, hc_k, c_3, c_6, c_7, eq_self, ne_eq, not_true_eq_false, not_false_eq_true, and_true, true_and, and_self, and_false, false_and, true_or, or_true, false_or, or_false, reduceIte]; done) | (simp [c_2, hc_k, c_3, c_6, c_7]; done) | grind) (by first | rfl | (simp only [c_2, hc_k, c_3, c_6, c_7, eq_self, ne_eq, not_true_eq_false, not_false_eq_true, and_true, true_and, and_self, and_false, false_and, true_or, or_true, false_or, or_false, reduceIte]; done) | (simp [c_2, hc_k, c_3, c_6, c_7]; done)))) (zIf_n (by first | assumption | (simp only [c_2, hc_k, c_3, c_6, c_7, eq_self, ne_eq, not_true_eq_false, not_false_eq_true, and_true, true_and, and_self, and_false, false_and, true_or, or_true, false_or, or_false, reduceIte]; done) | (simp [c_2, hc_k, c_3, c_6, c_7]; done) | grind) (zIf_n (by first | assumption | (simp only [c_2, hc_k, c_3, c_6, c_7, eq_self, ne_eq, not_true_eq_false, not_false_eq_true, and_true, true_and, and_self, and_false, false_and, true_or, or_true, false_or, or_false, reduceIte]; done) | (simp [c_2, hc_k, c_3, c_6, c_7]; done) | grind) (by first | exact hN | (simpa only [c_2, hc_k, c_3, c_6, c_7, eq_self, ne_eq, not_true_eq_false, not_false_eq_true, and_true, true_and, and_self, and_false, false_and, true_or, or_true, false_or, or_false, reduceIte] using hN) | (simpa [c_2, hc_k, c_3, c_6, c_7] using hN)))) dX4_charge_79
        · skip
          have c_8 := Int32.not_le.mp c_8
          refine lv_bipush (v := -2) hx hb dX4_charge_51 (by decide) ?_
          exact z_iretE hx hb hr hlk hK hS (zIr_n (by first | assumption | (simp only [c_2, hc_k, c_3, c_6, c_8, eq_self, ne_eq, not_true_eq_false, not_false_eq_true, and_true, true_and, and_self, and_false, false_and, true_or, or_true, false_or, or_false, reduceIte]; done) | (simp [c_2, hc_k, c_3, c_6, c_8]; done) | grind) (zIr_t (by first | assumption | (simp only [c_2, hc_k, c_3, c_6, c_8, eq_self, ne_eq, not_true_eq_false, not_false_eq_true, and_true, true_and, and_self, and_false, false_and, true_or, or_true, false_or, or_false, reduceIte]; done) | (simp [c_2, hc_k, c_3, c_6, c_8]; done) | grind) (by first | rfl | (simp only [c_2, hc_k, c_3, c_6, c_8, eq_self, ne_eq, not_true_eq_false, not_false_eq_true, and_true, true_and, and_self, and_false, false_and, true_or, or_true, false_or, or_false, reduceIte]; done) | (simp [c_2, hc_k, c_3, c_6, c_8]; done)))) (zIf_n (by first | assumption | (simp only [c_2, hc_k, c_3, c_6, c_8, eq_self, ne_eq, not_true_eq_false, not_false_eq_true, and_true, true_and, and_self, and_false, false_and, true_or, or_true, false_or, or_false, reduceIte]; done) | (simp [c_2, hc_k, c_3, c_6, c_8]; done) | grind) (zIf_t (by first | assumption | (simp only [c_2, hc_k, c_3, c_6, c_8, eq_self, ne_eq, not_true_eq_false, not_false_eq_true, and_true, true_and, and_self, and_false, false_and, true_or, or_true, false_or, or_false, reduceIte]; done) | (simp [c_2, hc_k, c_3, c_6, c_8]; done) | grind) (by first | exact hN | (simpa only [c_2, hc_k, c_3, c_6, c_8, eq_self, ne_eq, not_true_eq_false, not_false_eq_true, and_true, true_and, and_self, and_false, false_and, true_or, or_true, false_or, or_false, reduceIte] using hN) | (simpa [c_2, hc_k, c_3, c_6, c_8] using hN)))) dX4_charge_53
    · skip
      have c_4 := zBi_0.mp c_4
      refine lv_iconst (v := -1) hx hb dX4_charge_21 (by decide) ?_
      exact z_iretE hx hb hr hlk hK hS (zIr_t (by first | assumption | (simp only [c_2, hc_k, c_4, eq_self, ne_eq, not_true_eq_false, not_false_eq_true, and_true, true_and, and_self, and_false, false_and, true_or, or_true, false_or, or_false, reduceIte]; done) | (simp [c_2, hc_k, c_4]; done) | grind) (by first | rfl | (simp only [c_2, hc_k, c_4, eq_self, ne_eq, not_true_eq_false, not_false_eq_true, and_true, true_and, and_self, and_false, false_and, true_or, or_true, false_or, or_false, reduceIte]; done) | (simp [c_2, hc_k, c_4]; done))) (zIf_t (by first | assumption | (simp only [c_2, hc_k, c_4, eq_self, ne_eq, not_true_eq_false, not_false_eq_true, and_true, true_and, and_self, and_false, false_and, true_or, or_true, false_or, or_false, reduceIte]; done) | (simp [c_2, hc_k, c_4]; done) | grind) (by first | exact hN | (simpa only [c_2, hc_k, c_4, eq_self, ne_eq, not_true_eq_false, not_false_eq_true, and_true, true_and, and_self, and_false, false_and, true_or, or_true, false_or, or_false, reduceIte] using hN) | (simpa [c_2, hc_k, c_4] using hN))) dX4_charge_22

theorem in_X4_isEligible_X1 : ∀ w ∈ wsX10, w ∈ wsX4_isEligible := by decide +kernel
theorem in_X4_isEligible_X3 : ∀ w ∈ wsX30, w ∈ wsX4_isEligible := by decide +kernel
theorem in_X4_isEligible_X4 : ∀ w ∈ wsX40, w ∈ wsX4_isEligible := by decide +kernel
set_option maxHeartbeats 4000000 in
set_option maxRecDepth 100000 in
theorem p_X4_isEligible (l : Launch) (G : zG) (ad : Nat → Nat) (na : Nat → Nat → Nat) (ma : Nat → Nat) (hd : zTd ad na ma) (π : Nat → Nat) (hπ : zPi π) (d : Nat) (hd6 : d ≤ 6) (fl : Nat → Int32) (T : Nat → zS3) (n : Nat) (hn12 : n ≤ 12) (g : Nat → Int32) (hd3 : 0 < g 3) (τ : zT) (x : Int32) : zMi l G (zAll ad na ma) yX4_isEligible wsX4_isEligible 1 21 [.ref (ma 0), .int x] (zNA G ad n 12 g (zRest G ad na ma π d fl T) τ) (if ¬ (¬ x < 0 ∧ x < nI n) then -1 else zBi (τ 3 x.toNatClampNeg = 1 ∧ (τ 4 x.toNatClampNeg = 1 ∨ zPh g τ = 0))) (if ¬ (¬ x < 0 ∧ x < nI n) then (zNA G ad n 12 g (zRest G ad na ma π d fl T) τ) else (zNA G ad n 12 g (zRest G ad na ma π d fl T) τ)) := by
  refine z_met (cc := cX4_isEligible) (maxL := 3) (ret := (some .int)) (by decide) rfl (Nat.le_of_ble_eq_true rfl) ?_
  intro p e s m below meth c ls S hr hlk hnm hN hK hl
  have S : CallFix p m c cX4_isEligible 3 s _ wsX4_isEligible RX4 := S
  obtain ⟨hx, hb, hml, hown, hts⟩ := id S
  have hN12 : 12 ≤ 12 := Nat.le_refl 12
  have hA := zAp_top (G := G) hd π d fl T
  have hS : va_S (zAll ad na ma) s.heap s.heap [] := va_S.rf
  have hl : lv_has ls 3 [(0, .ref (ma 0)), (1, .int x)] := hl
  refine lv_aload_n hx hb dX4_isEligible_0 rfl (lv_at hl 0 rfl) ?_
  refine z_getF (v := .ref (ad 0)) hx hb hts hown in_X4_isEligible_X4 hK hN 0 (by decide) rfl (hts _ (List.mem_of_getElem? (i := 1) (by decide +kernel))) rfl dX4_isEligible_1 ?_
  refine lv_iload_n hx hb dX4_isEligible_4 rfl (lv_at hl 1 rfl) ?_
  refine z_vi (As := [.int x]) (rest := []) (P2 := zNA G ad n 12 g (zRest G ad na ma π d fl T) τ) (r := zBi (¬ x < 0 ∧ x < nI n)) S (c_X1_has l G (zAll ad na ma) ad n 12 g (zRest G ad na ma π d fl T) hA (by omega) hN12  τ x) (cwV 1 hts gX4_isEligible_X1_has rfl rfl rfl (by decide +kernel) ⟨Nat.le_of_ble_eq_true rfl, Nat.le_of_ble_eq_true rfl⟩) (z_recN hK hN) hN hK hS (fun _ _ h => h) (fun _ h => h) hl.1 rfl rfl (Nat.le_of_ble_eq_true rfl) dX4_isEligible_5 ⟨Nat.le_refl _, Nat.le_refl _⟩ (fun H locs hN hS _ => ?_)
  refine lv_if_ne (tgt := 13) hx hb dX4_isEligible_8 (by decide) (fun c_1 => ?_) (fun c_2 => ?_)
  · skip
    have c_1 := zBi_n0.mp c_1
    obtain ⟨k, hk, rfl⟩ := zIn_of (by omega) c_1
    have hc_k : (nI k).toNatClampNeg = k := nI_clamp (by omega)
    refine lv_aload_n hx hb dX4_isEligible_13 rfl (lv_at hl 0 rfl) ?_
    refine z_getF (v := .ref (ad 0)) hx hb hts hown in_X4_isEligible_X4 hK hN 0 (by decide) rfl (hts _ (List.mem_of_getElem? (i := 1) (by decide +kernel))) rfl dX4_isEligible_14 ?_
    refine z_getO (v := .ref (ad 1)) hx hb hts hown in_X4_isEligible_X1 hK hN 0 (by decide) rfl (hts _ (List.mem_of_getElem? (i := 2) (by decide +kernel))) rfl dX4_isEligible_17 ?_
    refine lv_iload_n hx hb dX4_isEligible_20 rfl (lv_at hl 1 rfl) ?_
    refine z_aald (i := k) hx hb hK hN rfl (by omega) dX4_isEligible_21 ?_
    refine lv_astore_n (lv' := [(2, .ref (ad (3 + k))), (0, .ref (ma 0)), (1, .int (nI k))]) hx hb dX4_isEligible_22 rfl hl (by decide) rfl (fun ls hl => ?_)
    refine lv_aload_n hx hb dX4_isEligible_23 rfl (lv_at hl 0 rfl) ?_
    refine z_getS (v := .int (zBi (τ 3 k = 1))) hx hb hts hown in_X4_isEligible_X3 hK hN12 hN (by omega) 3 (by decide) rfl (hts _ (List.mem_of_getElem? (i := 3) (by decide +kernel))) rfl dX4_isEligible_24 ?_
    refine lv_if_eq (tgt := 51) hx hb dX4_isEligible_27 (by decide) (fun c_3 => ?_) (fun c_4 => ?_)
    · skip
      have c_3 := zBi_0.mp c_3
      refine lv_iconst (v := 0) hx hb dX4_isEligible_51 (by decide) ?_
      exact z_iretE hx hb hr hlk hK hS (zIr_n (by first | assumption | (simp only [zBi, c_1, hc_k, c_3, eq_self, ne_eq, not_true_eq_false, not_false_eq_true, and_true, true_and, and_self, and_false, false_and, true_or, or_true, false_or, or_false, reduceIte]; done) | (simp [zBi, c_1, hc_k, c_3]; done) | grind) (by first | rfl | (simp only [zBi, c_1, hc_k, c_3, eq_self, ne_eq, not_true_eq_false, not_false_eq_true, and_true, true_and, and_self, and_false, false_and, true_or, or_true, false_or, or_false, reduceIte]; done) | (simp [zBi, c_1, hc_k, c_3]; done))) (zIf_n (by first | assumption | (simp only [zBi, c_1, hc_k, c_3, eq_self, ne_eq, not_true_eq_false, not_false_eq_true, and_true, true_and, and_self, and_false, false_and, true_or, or_true, false_or, or_false, reduceIte]; done) | (simp [zBi, c_1, hc_k, c_3]; done) | grind) (by first | exact hN | (simpa only [zBi, c_1, hc_k, c_3, eq_self, ne_eq, not_true_eq_false, not_false_eq_true, and_true, true_and, and_self, and_false, false_and, true_or, or_true, false_or, or_false, reduceIte] using hN) | (simpa [zBi, c_1, hc_k, c_3] using hN))) dX4_isEligible_52
    · skip
      have c_4 := zBi_n0.mp c_4
      refine lv_aload_n hx hb dX4_isEligible_30 rfl (lv_at hl 0 rfl) ?_
      refine z_getS (v := .int (zBi (τ 4 k = 1))) hx hb hts hown in_X4_isEligible_X3 hK hN12 hN (by omega) 4 (by decide) rfl (hts _ (List.mem_of_getElem? (i := 4) (by decide +kernel))) rfl dX4_isEligible_31 ?_
      refine lv_if_ne (tgt := 47) hx hb dX4_isEligible_34 (by decide) (fun c_5 => ?_) (fun c_6 => ?_)
      · skip
        have c_5 := zBi_n0.mp c_5
        refine lv_iconst (v := 1) hx hb dX4_isEligible_47 (by decide) ?_
        refine lv_goto (tgt := 52) hx hb dX4_isEligible_48 (by decide) ?_
        exact z_iretE hx hb hr hlk hK hS (zIr_n (by first | assumption | (simp only [zBi, c_1, hc_k, c_4, c_5, eq_self, ne_eq, not_true_eq_false, not_false_eq_true, and_true, true_and, and_self, and_false, false_and, true_or, or_true, false_or, or_false, reduceIte]; done) | (simp [zBi, c_1, hc_k, c_4, c_5]; done) | grind) (by first | rfl | (simp only [zBi, c_1, hc_k, c_4, c_5, eq_self, ne_eq, not_true_eq_false, not_false_eq_true, and_true, true_and, and_self, and_false, false_and, true_or, or_true, false_or, or_false, reduceIte]; done) | (simp [zBi, c_1, hc_k, c_4, c_5]; done))) (zIf_n (by first | assumption | (simp only [zBi, c_1, hc_k, c_4, c_5, eq_self, ne_eq, not_true_eq_false, not_false_eq_true, and_true, true_and, and_self, and_false, false_and, true_or, or_true, false_or, or_false, reduceIte]; done) | (simp [zBi, c_1, hc_k, c_4, c_5]; done) | grind) (by first | exact hN | (simpa only [zBi, c_1, hc_k, c_4, c_5, eq_self, ne_eq, not_true_eq_false, not_false_eq_true, and_true, true_and, and_self, and_false, false_and, true_or, or_true, false_or, or_false, reduceIte] using hN) | (simpa [zBi, c_1, hc_k, c_4, c_5] using hN))) dX4_isEligible_52
      · skip
        have c_6 := zBi_0.mp c_6
        refine lv_aload_n hx hb dX4_isEligible_37 rfl (lv_at hl 1 rfl) ?_
        refine z_getF (v := .ref (ad 0)) hx hb hts hown in_X4_isEligible_X4 hK hN 0 (by decide) rfl (hts _ (List.mem_of_getElem? (i := 1) (by decide +kernel))) rfl dX4_isEligible_38 ?_
        refine z_vi (As := []) (rest := []) (P2 := zNA G ad n 12 g (zRest G ad na ma π d fl T) τ) (r := zPh g τ) S (c_X1_phase l G (zAll ad na ma) ad n 12 g (zRest G ad na ma π d fl T) hA (by omega) hN12 hd3 τ ) (cwV 0 hts gX4_isEligible_X1_phase rfl rfl rfl (by decide +kernel) ⟨Nat.le_of_ble_eq_true rfl, Nat.le_of_ble_eq_true rfl⟩) (z_recN hK hN) hN hK hS (fun _ _ h => h) (fun _ h => h) hl.1 rfl rfl (Nat.le_of_ble_eq_true rfl) dX4_isEligible_41 ⟨Nat.le_refl _, Nat.le_refl _⟩ (fun H locs hN hS _ => ?_)
        refine lv_if_ne (tgt := 51) hx hb dX4_isEligible_44 (by decide) (fun c_7 => ?_) (fun c_8 => ?_)
        · skip
          refine lv_iconst (v := 0) hx hb dX4_isEligible_51 (by decide) ?_
          exact z_iretE hx hb hr hlk hK hS (zIr_n (by first | assumption | (simp only [zBi, c_1, hc_k, c_4, c_6, c_7, eq_self, ne_eq, not_true_eq_false, not_false_eq_true, and_true, true_and, and_self, and_false, false_and, true_or, or_true, false_or, or_false, reduceIte]; done) | (simp [zBi, c_1, hc_k, c_4, c_6, c_7]; done) | grind) (by first | rfl | (simp only [zBi, c_1, hc_k, c_4, c_6, c_7, eq_self, ne_eq, not_true_eq_false, not_false_eq_true, and_true, true_and, and_self, and_false, false_and, true_or, or_true, false_or, or_false, reduceIte]; done) | (simp [zBi, c_1, hc_k, c_4, c_6, c_7]; done))) (zIf_n (by first | assumption | (simp only [zBi, c_1, hc_k, c_4, c_6, c_7, eq_self, ne_eq, not_true_eq_false, not_false_eq_true, and_true, true_and, and_self, and_false, false_and, true_or, or_true, false_or, or_false, reduceIte]; done) | (simp [zBi, c_1, hc_k, c_4, c_6, c_7]; done) | grind) (by first | exact hN | (simpa only [zBi, c_1, hc_k, c_4, c_6, c_7, eq_self, ne_eq, not_true_eq_false, not_false_eq_true, and_true, true_and, and_self, and_false, false_and, true_or, or_true, false_or, or_false, reduceIte] using hN) | (simpa [zBi, c_1, hc_k, c_4, c_6, c_7] using hN))) dX4_isEligible_52
        · skip
          refine lv_iconst (v := 1) hx hb dX4_isEligible_47 (by decide) ?_
          refine lv_goto (tgt := 52) hx hb dX4_isEligible_48 (by decide) ?_
          exact z_iretE hx hb hr hlk hK hS (zIr_n (by first | assumption | (simp only [zBi, c_1, hc_k, c_4, c_6, c_8, eq_self, ne_eq, not_true_eq_false, not_false_eq_true, and_true, true_and, and_self, and_false, false_and, true_or, or_true, false_or, or_false, reduceIte]; done) | (simp [zBi, c_1, hc_k, c_4, c_6, c_8]; done) | grind) (by first | rfl | (simp only [zBi, c_1, hc_k, c_4, c_6, c_8, eq_self, ne_eq, not_true_eq_false, not_false_eq_true, and_true, true_and, and_self, and_false, false_and, true_or, or_true, false_or, or_false, reduceIte]; done) | (simp [zBi, c_1, hc_k, c_4, c_6, c_8]; done))) (zIf_n (by first | assumption | (simp only [zBi, c_1, hc_k, c_4, c_6, c_8, eq_self, ne_eq, not_true_eq_false, not_false_eq_true, and_true, true_and, and_self, and_false, false_and, true_or, or_true, false_or, or_false, reduceIte]; done) | (simp [zBi, c_1, hc_k, c_4, c_6, c_8]; done) | grind) (by first | exact hN | (simpa only [zBi, c_1, hc_k, c_4, c_6, c_8, eq_self, ne_eq, not_true_eq_false, not_false_eq_true, and_true, true_and, and_self, and_false, false_and, true_or, or_true, false_or, or_false, reduceIte] using hN) | (simpa [zBi, c_1, hc_k, c_4, c_6, c_8] using hN))) dX4_isEligible_52
  · skip
    have c_2 := zBi_0.mp c_2
    refine lv_iconst (v := -1) hx hb dX4_isEligible_11 (by decide) ?_
    exact z_iretE hx hb hr hlk hK hS (zIr_t (by first | assumption | (simp only [zBi, c_2, eq_self, ne_eq, not_true_eq_false, not_false_eq_true, and_true, true_and, and_self, and_false, false_and, true_or, or_true, false_or, or_false, reduceIte]; done) | (simp [zBi, c_2]; done) | grind) (by first | rfl | (simp only [zBi, c_2, eq_self, ne_eq, not_true_eq_false, not_false_eq_true, and_true, true_and, and_self, and_false, false_and, true_or, or_true, false_or, or_false, reduceIte]; done) | (simp [zBi, c_2]; done))) (zIf_t (by first | assumption | (simp only [zBi, c_2, eq_self, ne_eq, not_true_eq_false, not_false_eq_true, and_true, true_and, and_self, and_false, false_and, true_or, or_true, false_or, or_false, reduceIte]; done) | (simp [zBi, c_2]; done) | grind) (by first | exact hN | (simpa only [zBi, c_2, eq_self, ne_eq, not_true_eq_false, not_false_eq_true, and_true, true_and, and_self, and_false, false_and, true_or, or_true, false_or, or_false, reduceIte] using hN) | (simpa [zBi, c_2] using hN))) dX4_isEligible_12

theorem in_X4_run_X4 : ∀ w ∈ wsX40, w ∈ wsX4_run := by decide +kernel
set_option maxHeartbeats 4000000 in
set_option maxRecDepth 100000 in
theorem p_X4_run (l : Launch) (G : zG) (ad : Nat → Nat) (na : Nat → Nat → Nat) (ma : Nat → Nat) (hd : zTd ad na ma) (π : Nat → Nat) (hπ : zPi π) (d : Nat) (hd6 : d ≤ 6) (fl : Nat → Int32) (T : Nat → zS3) (n : Nat) (hn12 : n ≤ 12) (g : Nat → Int32) (τ : zT) (hd3 : 0 < g 3) (hd5 : 0 < g 5) (τa : zT) (hr0 : zRp n τa τ) (hg0 : 0 ≤ τa 11 9) (x : Int32) : zMi l G (zAll ad na ma) yX4_run wsX4_run 6 136 [.ref (ma 0), .int x] (zNA G ad n 12 g (zRest G ad na ma π d fl T) τ) (if ¬ (¬ x < 1 ∧ ¬ 50 < x) then -1 else (if zCa n τ = 0 then -2 else nI (zPf n g x.toNatClampNeg τa).1)) (if ¬ (¬ x < 1 ∧ ¬ 50 < x) then (zNA G ad n 12 g (zRest G ad na ma π d fl T) τ) else (if zCa n τ = 0 then (zNA G ad n 12 g (zRest G ad na ma π d fl T) τ) else (fun H => ∃ τ2, zRp n (zPf n g x.toNatClampNeg τa).2 τ2 ∧ zNA G ad n 12 g (zRest G ad na ma (zPp d π) (zPd2 d + 1) fl (va_up T ((zPp d π) (zPd2 d)) (zCpy n g τ (T ((zPp d π) (zPd2 d)))))) τ2 H))) := by
  refine z_met (cc := cX4_run) (maxL := 2) (ret := (some .int)) (by decide) rfl (Nat.le_of_ble_eq_true rfl) ?_
  intro p e s m below meth c ls S hr hlk hnm hN hK hl
  have S : CallFix p m c cX4_run 2 s _ wsX4_run RX4 := S
  obtain ⟨hx, hb, hml, hown, hts⟩ := id S
  have hN12 : 12 ≤ 12 := Nat.le_refl 12
  have hA := zAp_top (G := G) hd π d fl T
  have hS : va_S (zAll ad na ma) s.heap s.heap [] := va_S.rf
  have hl : lv_has ls 2 [(0, .ref (ma 0)), (1, .int x)] := hl
  refine lv_iload_n hx hb dX4_run_0 rfl (lv_at hl 1 rfl) ?_
  refine lv_iconst (v := 1) hx hb dX4_run_1 (by decide) ?_
  refine lv_bipush (v := 50) hx hb dX4_run_2 (by decide) ?_
  refine z_si (As := [.int x, .int 1, .int 50]) (rest := []) (P2 := zNA G ad n 12 g (zRest G ad na ma π d fl T) τ) (r := zBi (¬ x < 1 ∧ ¬ 50 < x)) S (c_X4_inRange l G (zAll ad na ma) (zNA G ad n 12 g (zRest G ad na ma π d fl T) τ) x 1 50) (cwS 3 hts gX4_run_X4_inRange rfl rfl rfl (by decide +kernel) ⟨Nat.le_of_ble_eq_true rfl, Nat.le_of_ble_eq_true rfl⟩) hN hK hS (fun _ _ h => h) (fun _ h => h) hl.1 rfl rfl (Nat.le_of_ble_eq_true rfl) dX4_run_4 ⟨Nat.le_refl _, Nat.le_refl _⟩ (fun H locs hN hS _ => ?_)
  refine lv_if_ne (tgt := 12) hx hb dX4_run_7 (by decide) (fun c_1 => ?_) (fun c_2 => ?_)
  · skip
    have c_1 := zBi_n0.mp c_1
    obtain ⟨lim, hlim1, hlim2, rfl⟩ := zLe_of (a := 1) (b := 50) (by omega) (by omega) c_1
    have hc_lim : (nI lim).toNatClampNeg = lim := nI_clamp (by omega)
    refine lv_aload_n hx hb dX4_run_12 rfl (lv_at hl 0 rfl) ?_
    refine z_getF (v := .ref (ad 0)) hx hb hts hown in_X4_run_X4 hK hN 0 (by decide) rfl (hts _ (List.mem_of_getElem? (i := 1) (by decide +kernel))) rfl dX4_run_13 ?_
    refine z_vi (As := []) (rest := []) (P2 := zNA G ad n 12 g (zRest G ad na ma π d fl T) τ) (r := zCa n τ) S (c_X1_countAlive l G (zAll ad na ma) ad n 12 g (zRest G ad na ma π d fl T) hA (by omega) hN12  τ ) (cwV 0 hts gX4_run_X1_countAlive rfl rfl rfl (by decide +kernel) ⟨Nat.le_of_ble_eq_true rfl, Nat.le_of_ble_eq_true rfl⟩) (z_recN hK hN) hN hK hS (fun _ _ h => h) (fun _ h => h) hl.1 rfl rfl (Nat.le_of_ble_eq_true rfl) dX4_run_16 ⟨Nat.le_refl _, Nat.le_refl _⟩ (fun H locs hN hS _ => ?_)
    refine lv_if_ne (tgt := 25) hx hb dX4_run_19 (by decide) (fun c_3 => ?_) (fun c_4 => ?_)
    · skip
      refine lv_aload_n hx hb dX4_run_25 rfl (lv_at hl 0 rfl) ?_
      refine z_getF (v := .ref (ma 3)) hx hb hts hown in_X4_run_X4 hK hN 4 (by decide) rfl (hts _ (List.mem_of_getElem? (i := 2) (by decide +kernel))) rfl dX4_run_26 ?_
      refine lv_aload_n hx hb dX4_run_29 rfl (lv_at hl 0 rfl) ?_
      refine z_getF (v := .ref (ad 0)) hx hb hts hown in_X4_run_X4 hK hN 0 (by decide) rfl (hts _ (List.mem_of_getElem? (i := 1) (by decide +kernel))) rfl dX4_run_30 ?_
      refine z_vv (As := [.ref (ad 0)]) (rest := []) (P2 := zNA G ad n 12 g (zRest G ad na ma (zPp d π) (zPd2 d + 1) fl (va_up T ((zPp d π) (zPd2 d)) (zCpy n g τ (T ((zPp d π) (zPd2 d)))))) τ) S (h_X0_push l G ad na ma hd π hπ d hd6 fl T n hn12 g τ) (cwV 1 hts gX4_run_X0_push rfl rfl rfl (by decide +kernel) ⟨Nat.le_of_ble_eq_true rfl, Nat.le_of_ble_eq_true rfl⟩) (z_recH hK hN) hN hK hS (fun _ _ h => h) (fun _ h => h) hl.1 rfl rfl (Nat.le_of_ble_eq_true rfl) dX4_run_33 ⟨Nat.le_refl _, Nat.le_refl _⟩ (fun H locs hN hS _ => ?_)
      have hA := zAp_top (G := G) hd (zPp d π) (zPd2 d + 1) fl (va_up T ((zPp d π) (zPd2 d)) (zCpy n g τ (T ((zPp d π) (zPd2 d)))))
      refine lv_aload_n hx hb dX4_run_36 rfl (lv_at hl 0 rfl) ?_
      refine z_getF (v := .ref (ma 1)) hx hb hts hown in_X4_run_X4 hK hN 1 (by decide) rfl (hts _ (List.mem_of_getElem? (i := 3) (by decide +kernel))) rfl dX4_run_37 ?_
      refine lv_iload_n hx hb dX4_run_40 rfl (lv_at hl 1 rfl) ?_
      refine z_vi (As := [.int (nI lim)]) (rest := []) (P2 := (fun H => ∃ τ2, zRp n (zPf n g lim τa).2 τ2 ∧ zNA G ad n 12 g (zRest G ad na ma (zPp d π) (zPd2 d + 1) fl (va_up T ((zPp d π) (zPd2 d)) (zCpy n g τ (T ((zPp d π) (zPd2 d)))))) τ2 H)) (r := nI (zPf n g lim τa).1) S (t_perf_0 hd (zPp d π) (zPd2 d + 1) fl (va_up T ((zPp d π) (zPd2 d)) (zCpy n g τ (T ((zPp d π) (zPd2 d))))) n hn12 g hd3 hd5 τ τa hr0 hg0 lim (by omega)) (cwV 1 hts gX4_run_X2_perform rfl rfl rfl (by decide +kernel) ⟨Nat.le_of_ble_eq_true rfl, Nat.le_of_ble_eq_true rfl⟩) (z_recP1 hK hN) hN hK hS (fun _ _ h => h) (fun _ h => h) hl.1 rfl rfl (Nat.le_of_ble_eq_true rfl) dX4_run_41 ⟨Nat.le_refl _, Nat.le_refl _⟩ (fun H locs hN hS _ => ?_)
      obtain ⟨τ2, hr2, hN⟩ := hN
      exact z_iretE hx hb hr hlk hK hS (zIr_n (by first | assumption | (simp only [c_1, hc_lim, c_3, eq_self, ne_eq, not_true_eq_false, not_false_eq_true, and_true, true_and, and_self, and_false, false_and, true_or, or_true, false_or, or_false, reduceIte]; done) | (simp [c_1, hc_lim, c_3]; done) | grind) (zIr_n (by first | assumption | (simp only [c_1, hc_lim, c_3, eq_self, ne_eq, not_true_eq_false, not_false_eq_true, and_true, true_and, and_self, and_false, false_and, true_or, or_true, false_or, or_false, reduceIte]; done) | (simp [c_1, hc_lim, c_3]; done) | grind) (by first | rfl | (simp only [c_1, hc_lim, c_3, eq_self, ne_eq, not_true_eq_false, not_false_eq_true, and_true, true_and, and_self, and_false, false_and, true_or, or_true, false_or, or_false, reduceIte]; done) | (simp [c_1, hc_lim, c_3]; done)))) (zIf_n (by first | assumption | (simp only [c_1, hc_lim, c_3, eq_self, ne_eq, not_true_eq_false, not_false_eq_true, and_true, true_and, and_self, and_false, false_and, true_or, or_true, false_or, or_false, reduceIte]; done) | (simp [c_1, hc_lim, c_3]; done) | grind) (zIf_n (by first | assumption | (simp only [c_1, hc_lim, c_3, eq_self, ne_eq, not_true_eq_false, not_false_eq_true, and_true, true_and, and_self, and_false, false_and, true_or, or_true, false_or, or_false, reduceIte]; done) | (simp [c_1, hc_lim, c_3]; done) | grind) (by refine ⟨τ2, ?_, hN⟩; rw [hc_lim]; exact hr2))) dX4_run_44
    · skip
      refine lv_bipush (v := -2) hx hb dX4_run_22 (by decide) ?_
      exact z_iretE hx hb hr hlk hK hS (zIr_n (by first | assumption | (simp only [c_1, hc_lim, c_4, eq_self, ne_eq, not_true_eq_false, not_false_eq_true, and_true, true_and, and_self, and_false, false_and, true_or, or_true, false_or, or_false, reduceIte]; done) | (simp [c_1, hc_lim, c_4]; done) | grind) (zIr_t (by first | assumption | (simp only [c_1, hc_lim, c_4, eq_self, ne_eq, not_true_eq_false, not_false_eq_true, and_true, true_and, and_self, and_false, false_and, true_or, or_true, false_or, or_false, reduceIte]; done) | (simp [c_1, hc_lim, c_4]; done) | grind) (by first | rfl | (simp only [c_1, hc_lim, c_4, eq_self, ne_eq, not_true_eq_false, not_false_eq_true, and_true, true_and, and_self, and_false, false_and, true_or, or_true, false_or, or_false, reduceIte]; done) | (simp [c_1, hc_lim, c_4]; done)))) (zIf_n (by first | assumption | (simp only [c_1, hc_lim, c_4, eq_self, ne_eq, not_true_eq_false, not_false_eq_true, and_true, true_and, and_self, and_false, false_and, true_or, or_true, false_or, or_false, reduceIte]; done) | (simp [c_1, hc_lim, c_4]; done) | grind) (zIf_t (by first | assumption | (simp only [c_1, hc_lim, c_4, eq_self, ne_eq, not_true_eq_false, not_false_eq_true, and_true, true_and, and_self, and_false, false_and, true_or, or_true, false_or, or_false, reduceIte]; done) | (simp [c_1, hc_lim, c_4]; done) | grind) (by first | exact hN | (simpa only [c_1, hc_lim, c_4, eq_self, ne_eq, not_true_eq_false, not_false_eq_true, and_true, true_and, and_self, and_false, false_and, true_or, or_true, false_or, or_false, reduceIte] using hN) | (simpa [c_1, hc_lim, c_4] using hN)))) dX4_run_24
  · skip
    have c_2 := zBi_0.mp c_2
    refine lv_iconst (v := -1) hx hb dX4_run_10 (by decide) ?_
    exact z_iretE hx hb hr hlk hK hS (zIr_t (by first | assumption | (simp only [c_2, eq_self, ne_eq, not_true_eq_false, not_false_eq_true, and_true, true_and, and_self, and_false, false_and, true_or, or_true, false_or, or_false, reduceIte]; done) | (simp [c_2]; done) | grind) (by first | rfl | (simp only [c_2, eq_self, ne_eq, not_true_eq_false, not_false_eq_true, and_true, true_and, and_self, and_false, false_and, true_or, or_true, false_or, or_false, reduceIte]; done) | (simp [c_2]; done))) (zIf_t (by first | assumption | (simp only [c_2, eq_self, ne_eq, not_true_eq_false, not_false_eq_true, and_true, true_and, and_self, and_false, false_and, true_or, or_true, false_or, or_false, reduceIte]; done) | (simp [c_2]; done) | grind) (by first | exact hN | (simpa only [c_2, eq_self, ne_eq, not_true_eq_false, not_false_eq_true, and_true, true_and, and_self, and_false, false_and, true_or, or_true, false_or, or_false, reduceIte] using hN) | (simpa [c_2] using hN))) dX4_run_11
end
section
/-! rows laid by my own program (wip/whole/gen) -/
theorem in_X4_undo_X0 : ∀ w ∈ wsX00, w ∈ wsX4_undo := by decide +kernel
theorem in_X4_undo_X4 : ∀ w ∈ wsX40, w ∈ wsX4_undo := by decide +kernel
set_option maxHeartbeats 4000000 in
set_option maxRecDepth 100000 in
theorem p_X4_undo (l : Launch) (G : zG) (ad : Nat → Nat) (na : Nat → Nat → Nat) (ma : Nat → Nat) (hd : zTd ad na ma) (π : Nat → Nat) (hπ : zPi π) (d : Nat) (hd6 : d ≤ 6) (fl : Nat → Int32) (T : Nat → zS3) (n : Nat) (hn12 : n ≤ 12) (g : Nat → Int32) (τ : zT) (hTn : ∀ j, 1 ≤ j → j < 10 → (T j).1 ≤ 12) : zMi l G (zAll ad na ma) yX4_undo wsX4_undo 3 64 [.ref (ma 0)] (zNA G ad n 12 g (zRest G ad na ma π d fl T) τ) (if d = 0 then -2 else nI (d - 1)) (if d = 0 then (zNA G ad n 12 g (zRest G ad na ma π d fl T) τ) else (zNA G ad ((T (π (d - 1))).1) 12 ((T (π (d - 1))).2.1) (zRest G ad na ma π (d - 1) fl T) (zCpG (T (π (d - 1))).2.2 (zIt (zCpS (T (π (d - 1))).2.2) (T (π (d - 1))).1 τ)))) := by
  refine z_met (cc := cX4_undo) (maxL := 1) (ret := (some .int)) (by decide) rfl (Nat.le_of_ble_eq_true rfl) ?_
  intro p e s m below meth c ls S hr hlk hnm hN hK hl
  have S : CallFix p m c cX4_undo 1 s _ wsX4_undo RX4 := S
  obtain ⟨hx, hb, hml, hown, hts⟩ := id S
  have hN12 : 12 ≤ 12 := Nat.le_refl 12
  have hA := zAp_top (G := G) hd π d fl T
  have hS : va_S (zAll ad na ma) s.heap s.heap [] := va_S.rf
  have hl : lv_has ls 1 [(0, .ref (ma 0))] := hl
  refine lv_aload_n hx hb dX4_undo_0 rfl (lv_at hl 0 rfl) ?_
  refine z_getF (v := .ref (ma 3)) hx hb hts hown in_X4_undo_X4 hK hN 4 (by decide) rfl (hts _ (List.mem_of_getElem? (i := 1) (by decide +kernel))) rfl dX4_undo_1 ?_
  refine z_getH (v := .int (nI d)) hx hb hts hown in_X4_undo_X0 hK hN 1 (by decide) rfl (hts _ (List.mem_of_getElem? (i := 2) (by decide +kernel))) rfl dX4_undo_4 ?_
  refine lv_if_ne (tgt := 13) hx hb dX4_undo_7 (by decide) (fun c_1 => ?_) (fun c_2 => ?_)
  · skip
    have c_1 : ¬ d = 0 := (not_congr (z_eqI (a := d) (b := 0) (by omega) (by omega))).mp c_1
    refine lv_aload_n hx hb dX4_undo_13 rfl (lv_at hl 0 rfl) ?_
    refine z_getF (v := .ref (ma 3)) hx hb hts hown in_X4_undo_X4 hK hN 4 (by decide) rfl (hts _ (List.mem_of_getElem? (i := 1) (by decide +kernel))) rfl dX4_undo_14 ?_
    refine lv_aload_n hx hb dX4_undo_17 rfl (lv_at hl 0 rfl) ?_
    refine z_getF (v := .ref (ad 0)) hx hb hts hown in_X4_undo_X4 hK hN 0 (by decide) rfl (hts _ (List.mem_of_getElem? (i := 3) (by decide +kernel))) rfl dX4_undo_18 ?_
    refine z_vv (As := [.ref (ad 0)]) (rest := []) (P2 := zNA G ad ((T (π (d - 1))).1) 12 ((T (π (d - 1))).2.1) (zRest G ad na ma π (d - 1) fl T) (zCpG (T (π (d - 1))).2.2 (zIt (zCpS (T (π (d - 1))).2.2) (T (π (d - 1))).1 τ))) S (h_X0_popInto l G ad na ma hd π hπ d hd6 fl T n hn12 g (by omega) (hTn _ (by have := hπ.1 (d - 1) (by omega); omega) (by have := hπ.1 (d - 1) (by omega); omega)) τ) (cwV 1 hts gX4_undo_X0_popInto rfl rfl rfl (by decide +kernel) ⟨Nat.le_of_ble_eq_true rfl, Nat.le_of_ble_eq_true rfl⟩) (z_recH hK hN) hN hK hS (fun _ _ h => h) (fun _ h => h) hl.1 rfl rfl (Nat.le_of_ble_eq_true rfl) dX4_undo_21 ⟨Nat.le_refl _, Nat.le_refl _⟩ (fun H locs hN hS _ => ?_)
    have hA := zAp_top (G := G) hd π (d - 1) fl T
    refine lv_aload_n hx hb dX4_undo_24 rfl (lv_at hl 0 rfl) ?_
    refine z_getF (v := .ref (ma 3)) hx hb hts hown in_X4_undo_X4 hK hN 4 (by decide) rfl (hts _ (List.mem_of_getElem? (i := 1) (by decide +kernel))) rfl dX4_undo_25 ?_
    refine z_getH (v := .int (nI (d - 1))) hx hb hts hown in_X4_undo_X0 hK hN 1 (by decide) rfl (hts _ (List.mem_of_getElem? (i := 2) (by decide +kernel))) rfl dX4_undo_28 ?_
    exact z_iretE hx hb hr hlk hK hS (zIr_n (by first | assumption | (simp only [c_1, eq_self, ne_eq, not_true_eq_false, not_false_eq_true, and_true, true_and, and_self, and_false, false_and, true_or, or_true, false_or, or_false, reduceIte]; done) | (simp [c_1]; done) | grind) (by first | rfl | (simp only [c_1, eq_self, ne_eq, not_true_eq_false, not_false_eq_true, and_true, true_and, and_self, and_false, false_and, true_or, or_true, false_or, or_false, reduceIte]; done) | (simp [c_1]; done))) (zIf_n (by first | assumption | (simp only [c_1, eq_self, ne_eq, not_true_eq_false, not_false_eq_true, and_true, true_and, and_self, and_false, false_and, true_or, or_true, false_or, or_false, reduceIte]; done) | (simp [c_1]; done) | grind) (by first | exact hN | (simpa only [c_1, eq_self, ne_eq, not_true_eq_false, not_false_eq_true, and_true, true_and, and_self, and_false, false_and, true_or, or_true, false_or, or_false, reduceIte] using hN) | (simpa [c_1] using hN))) dX4_undo_31
  · skip
    have c_2 : d = 0 :=  (z_eqI (a := d) (b := 0) (by omega) (by omega)).mp c_2
    refine lv_bipush (v := -2) hx hb dX4_undo_10 (by decide) ?_
    exact z_iretE hx hb hr hlk hK hS (zIr_t (by first | assumption | (simp only [c_2, eq_self, ne_eq, not_true_eq_false, not_false_eq_true, and_true, true_and, and_self, and_false, false_and, true_or, or_true, false_or, or_false, reduceIte]; done) | (simp [c_2]; done) | grind) (by first | rfl | (simp only [c_2, eq_self, ne_eq, not_true_eq_false, not_false_eq_true, and_true, true_and, and_self, and_false, false_and, true_or, or_true, false_or, or_false, reduceIte]; done) | (simp [c_2]; done))) (zIf_t (by first | assumption | (simp only [c_2, eq_self, ne_eq, not_true_eq_false, not_false_eq_true, and_true, true_and, and_self, and_false, false_and, true_or, or_true, false_or, or_false, reduceIte]; done) | (simp [c_2]; done) | grind) (by first | exact hN | (simpa only [c_2, eq_self, ne_eq, not_true_eq_false, not_false_eq_true, and_true, true_and, and_self, and_false, false_and, true_or, or_true, false_or, or_false, reduceIte] using hN) | (simpa [c_2] using hN))) dX4_undo_12
end
section
/-! ===== the three tables: static arrays that nobody writes ===== -/
def zFi (j : Nat) : Int32 := if j = 0 then 4 else if j = 1 then 5 else if j = 2 then 100 else if j = 3 then 1 else if j = 4 then 2 else 0
def zLe (j : Nat) : Int32 := if j = 0 then 2 else if j = 1 then 1 else if j = 2 then 1 else 0
def zGr (j : Nat) : Int32 := if j = 0 then 8 else if j = 1 then 50 else if j = 2 then 1000 else if j = 3 then 20 else if j = 4 then 50 else 1
def zTabs (A : Nat → Prop) (U : State) (H : Heap) : Prop := ∃ t1 t2 t3 : Nat, (va_Z "ClusterField$Network" "FIRST" "[I" (.ref t1) A U H ∧ va_T .int t1 6 (fun j => .int (zFi j)) A U H) ∧ (va_Z "ClusterField$Network" "LEAST" "[I" (.ref t2) A U H ∧ va_T .int t2 6 (fun j => .int (zLe j)) A U H) ∧ (va_Z "ClusterField$Network" "GREATEST" "[I" (.ref t3) A U H ∧ va_T .int t3 6 (fun j => .int (zGr j)) A U H)
theorem zTabs.moved {A : Nat → Prop} {u U : State} {H : Heap} (hvm : u.vm.Alike U.vm) (h : zTabs A u H) : zTabs A U H := by
  obtain ⟨t1, t2, t3, ⟨a1, a2⟩, ⟨b1, b2⟩, c1, c2⟩ := h
  exact ⟨t1, t2, t3, ⟨a1.moved hvm, a2.moved hvm⟩, ⟨b1.moved hvm, b2.moved hvm⟩, c1.moved hvm, c2.moved hvm⟩
theorem zTabs.kept {A : Nat → Prop} {U : State} {H H1 : Heap} (h : zTabs A U H) (hq : ∀ a : Nat, a < H.size → ¬ A a → H1[a]? = H[a]?) : zTabs A U H1 := by
  obtain ⟨t1, t2, t3, ⟨a1, a2⟩, ⟨b1, b2⟩, c1, c2⟩ := h
  exact ⟨t1, t2, t3, ⟨a1.kept hq, a2.kept hq⟩, ⟨b1.kept hq, b2.kept hq⟩, c1.kept hq, c2.kept hq⟩
theorem zTabs.narrow {A B : Nat → Prop} {U : State} {H : Heap} (h : zTabs A U H) (hAB : ∀ q, B q → A q) : zTabs B U H := by
  obtain ⟨t1, t2, t3, ⟨a1, a2⟩, ⟨b1, b2⟩, c1, c2⟩ := h
  exact ⟨t1, t2, t3, ⟨a1.narrow hAB, a2.narrow hAB⟩, ⟨b1.narrow hAB, b2.narrow hAB⟩, c1.narrow hAB, c2.narrow hAB⟩
theorem zTabs_of {args : Array Value} {s : State} {A : Nat → Prop} (hA : ∀ a : Nat, a < s.heap.size → ¬ A a) (hi : (Cond.initialized "ClusterField$Network").before args s = true) (hl1 : (Cond.laysStatic "ClusterField$Network" "FIRST" "[I").before args s = true) (hl2 : (Cond.laysStatic "ClusterField$Network" "LEAST" "[I").before args s = true) (hl3 : (Cond.laysStatic "ClusterField$Network" "GREATEST" "[I").before args s = true) (h : (Jvm.Cond.and given_1 narrow_1).before args s = true) : zTabs A s s.heap := by
  have hs := flat_of_before _ h
  have six : ∀ j : Nat, j < 6 → j = 0 ∨ j = 1 ∨ j = 2 ∨ j = 3 ∨ j = 4 ∨ j = 5 := fun j hj => by omega
  obtain ⟨t1, e1, T1⟩ := va_Tof (A := A) (tm := .static "ClusterField$Network" "FIRST" "[I") (ty := .int) (N := 6) (f := fun j => .int (zFi j)) (by decide) (hs _ (by decide +kernel)) (va_eqt (hs _ (by decide +kernel))) (fun j hj => by rcases six j hj with rfl | rfl | rfl | rfl | rfl | rfl <;> exact va_eqt (hs _ (by decide +kernel))) hA
  obtain ⟨t2, e2, T2⟩ := va_Tof (A := A) (tm := .static "ClusterField$Network" "LEAST" "[I") (ty := .int) (N := 6) (f := fun j => .int (zLe j)) (by decide) (hs _ (by decide +kernel)) (va_eqt (hs _ (by decide +kernel))) (fun j hj => by rcases six j hj with rfl | rfl | rfl | rfl | rfl | rfl <;> exact va_eqt (hs _ (by decide +kernel))) hA
  obtain ⟨t3, e3, T3⟩ := va_Tof (A := A) (tm := .static "ClusterField$Network" "GREATEST" "[I") (ty := .int) (N := 6) (f := fun j => .int (zGr j)) (by decide) (hs _ (by decide +kernel)) (va_eqt (hs _ (by decide +kernel))) (fun j hj => by rcases six j hj with rfl | rfl | rfl | rfl | rfl | rfl <;> exact va_eqt (hs _ (by decide +kernel))) hA
  exact ⟨t1, t2, t3, ⟨va_Zref hl1 hi e1 hA, T1⟩, ⟨va_Zref hl2 hi e2 hA, T2⟩, va_Zref hl3 hi e3 hA, T3⟩
/-- a contract whose entry also has the tables -/
abbrev zPreT (G : zG) (A : Nat → Prop) (av : List Value) (P : Heap → Prop) : Array Value → State → Prop := fun a U => zPre G av P a U ∧ zTabs A U U.heap
abbrev zMiT (l : Launch) (G : zG) (A : Nat → Prop) (y : MethodName) (ws : List Cond) (fr lo : Nat) (av : List Value) (P : Heap → Prop) (r : Int32) (P2 : Heap → Prop) : Prop := Met l y ws ({ frames := fr, cells := 0, slots := 0, locals := lo } : Room) (zPreT G A av P) (zQi G r P2 A) 0 0 A
theorem z_blindT {G : zG} {A : Nat → Prop} {av : List Value} {P : Heap → Prop} : FrameBlind (zPreT G A av P) := fun a U g mk q => ⟨z_blind a U g mk q.1, zTabs.moved (u := U) (U := U.calling g mk a) (Vm.Alike.refl U.vm) q.2⟩
set_option maxHeartbeats 4000000 in
theorem z_metT {l : Launch} {y : MethodName} {ws ws' : List Cond} {rm : Room} {G : zG} {A : Nat → Prop} {av : List Value} {P : Heap → Prop} {Qc : Array Value → State → Outcome → State → Prop} {cc : ByteArray} {maxL mc ms : Nat} {ret : Option FieldType} (hy : plainName y.cls = true) (hw : ws = Cond.code y cc maxL ret :: ws') (hsl : (lg_sl av).length ≤ maxL)
    (body : ∀ (p : Program) (e : Env) (s : State) (m : MethodId) (below : List Frame) (meth : Method) (c : Code) (ls : Array Slot), CallFix p m c cc maxL s av.toArray ws y.cls → meth.sig.returnType = ret → meth.locks = false → meth.name = y.name → P s.heap → zK G s → zTabs A s s.heap → lv_has ls maxL (lv_args 0 av) →
      W p l e rm s m av.toArray below meth c s.heap [] 0 0 (MQ below Qc av.toArray s mc ms A) (F0 m 0 ls [])) : Met l y ws rm (zPreT G A av P) Qc mc ms A := by
  refine Met.ofW (cc := cc) (maxL := maxL) (ret := ret) hy hw ?_
  intro p e s m args below meth c s₁ B hml hv
  obtain ⟨⟨rfl, hP, hK⟩, hT⟩ := hv
  have hts := atoms_spec (ws := ws) B.pre
  have hl := lv_entry av (n := maxL) hsl
  rw [lg_entry_eq]
  generalize (lg_sl av ++ List.replicate (maxL - (lg_sl av).length) Slot.unset).toArray = ls at hl ⊢
  exact body p e s m below meth c ls ⟨B.exec, B.bytes, hml, findClass_of_methodNamed B.named, hts⟩ B.returns B.notSynchronized (name_of_methodNamed B.named B.method).1 hP hK hT hl
end
section
/-! rows laid by my own program (wip/whole/gen) -/
theorem in_X4_setSetting_X1 : ∀ w ∈ wsX10, w ∈ wsX4_setSetting := by decide +kernel
theorem in_X4_setSetting_X4 : ∀ w ∈ wsX40, w ∈ wsX4_setSetting := by decide +kernel
set_option maxHeartbeats 4000000 in
set_option maxRecDepth 100000 in
theorem p_X4_setSetting (l : Launch) (G : zG) (ad : Nat → Nat) (na : Nat → Nat → Nat) (ma : Nat → Nat) (hd : zTd ad na ma) (π : Nat → Nat) (hπ : zPi π) (d : Nat) (hd6 : d ≤ 6) (fl : Nat → Int32) (T : Nat → zS3) (n : Nat) (hn12 : n ≤ 12) (g : Nat → Int32) (τ : zT) (x v : Int32) : zMiT l G (zAll ad na ma) yX4_setSetting wsX4_setSetting 3 64 [.ref (ma 0), .int x, .int v] (zNA G ad n 12 g (zRest G ad na ma π d fl T) τ) (if ¬ (¬ x < 0 ∧ ¬ 5 < x) then -1 else (if ¬ (¬ v < zLe x.toNatClampNeg ∧ ¬ zGr x.toNatClampNeg < v) then -1 else (if v = g (3 + x.toNatClampNeg) then -2 else g (3 + x.toNatClampNeg)))) (if ¬ (¬ x < 0 ∧ ¬ 5 < x) then (zNA G ad n 12 g (zRest G ad na ma π d fl T) τ) else (if ¬ (¬ v < zLe x.toNatClampNeg ∧ ¬ zGr x.toNatClampNeg < v) then (zNA G ad n 12 g (zRest G ad na ma π d fl T) τ) else (if v = g (3 + x.toNatClampNeg) then (zNA G ad n 12 g (zRest G ad na ma π d fl T) τ) else (zNA G ad n 12 (upd g (3 + x.toNatClampNeg) v) (zRest G ad na ma (zPp d π) (zPd2 d + 1) fl (va_up T ((zPp d π) (zPd2 d)) (zCpy n g τ (T ((zPp d π) (zPd2 d)))))) τ)))) := by
  refine z_metT (cc := cX4_setSetting) (maxL := 4) (ret := (some .int)) (by decide) rfl (Nat.le_of_ble_eq_true rfl) ?_
  intro p e s m below meth c ls S hr hlk hnm hN hK hT hl
  have S : CallFix p m c cX4_setSetting 4 s _ wsX4_setSetting RX4 := S
  obtain ⟨hx, hb, hml, hown, hts⟩ := id S
  have hN12 : 12 ≤ 12 := Nat.le_refl 12
  have hA := zAp_top (G := G) hd π d fl T
  have hS : va_S (zAll ad na ma) s.heap s.heap [] := va_S.rf
  have hl : lv_has ls 4 [(0, .ref (ma 0)), (1, .int x), (2, .int v)] := hl
  obtain ⟨-, t2, t3, -, ⟨hT2, hT2a⟩, hT3, hT3a⟩ := hT
  refine lv_iload_n hx hb dX4_setSetting_0 rfl (lv_at hl 1 rfl) ?_
  refine lv_iconst (v := 0) hx hb dX4_setSetting_1 (by decide) ?_
  refine lv_iconst (v := 5) hx hb dX4_setSetting_2 (by decide) ?_
  refine z_si (As := [.int x, .int 0, .int 5]) (rest := []) (P2 := zNA G ad n 12 g (zRest G ad na ma π d fl T) τ) (r := zBi (¬ x < 0 ∧ ¬ 5 < x)) S (c_X4_inRange l G (zAll ad na ma) (zNA G ad n 12 g (zRest G ad na ma π d fl T) τ) x 0 5) (cwS 3 hts gX4_setSetting_X4_inRange rfl rfl rfl (by decide +kernel) ⟨Nat.le_of_ble_eq_true rfl, Nat.le_of_ble_eq_true rfl⟩) hN hK hS (fun _ _ h => h) (fun _ h => h) hl.1 rfl rfl (Nat.le_of_ble_eq_true rfl) dX4_setSetting_3 ⟨Nat.le_refl _, Nat.le_refl _⟩ (fun H locs hN hS _ => ?_)
  refine lv_if_eq (tgt := 26) hx hb dX4_setSetting_6 (by decide) (fun c_1 => ?_) (fun c_2 => ?_)
  · skip
    have c_1 := zBi_0.mp c_1
    refine lv_iconst (v := -1) hx hb dX4_setSetting_26 (by decide) ?_
    exact z_iretE hx hb hr hlk hK hS (zIr_t (by first | assumption | (simp only [c_1, eq_self, ne_eq, not_true_eq_false, not_false_eq_true, and_true, true_and, and_self, and_false, false_and, true_or, or_true, false_or, or_false, reduceIte]; done) | (simp [c_1]; done) | grind) (by first | rfl | (simp only [c_1, eq_self, ne_eq, not_true_eq_false, not_false_eq_true, and_true, true_and, and_self, and_false, false_and, true_or, or_true, false_or, or_false, reduceIte]; done) | (simp [c_1]; done))) (zIf_t (by first | assumption | (simp only [c_1, eq_self, ne_eq, not_true_eq_false, not_false_eq_true, and_true, true_and, and_self, and_false, false_and, true_or, or_true, false_or, or_false, reduceIte]; done) | (simp [c_1]; done) | grind) (by first | exact hN | (simpa only [c_1, eq_self, ne_eq, not_true_eq_false, not_false_eq_true, and_true, true_and, and_self, and_false, false_and, true_or, or_true, false_or, or_false, reduceIte] using hN) | (simpa [c_1] using hN))) dX4_setSetting_27
  · skip
    have c_2 := zBi_n0.mp c_2
    obtain ⟨lim, hlim1, hlim2, rfl⟩ := zLe_of (a := 0) (b := 5) (by omega) (by omega) c_2
    have hc_lim : (nI lim).toNatClampNeg = lim := nI_clamp (by omega)
    refine lv_iload_n hx hb dX4_setSetting_9 rfl (lv_at hl 2 rfl) ?_
    refine va_gets (v := .ref t2) hx hb hT2 hS hown (hts _ (List.mem_of_getElem? (i := 1) (by decide +kernel))) (fun _ h => h) dX4_setSetting_10 ?_
    refine lv_iload_n hx hb dX4_setSetting_13 rfl (lv_at hl 1 rfl) ?_
    refine va_ti (v := .int (zLe lim)) hx hb hT2a hS (vp_in_nI (by omega) (by omega)) (by rw [nI_clamp (by omega)]) dX4_setSetting_14 ?_
    refine va_gets (v := .ref t3) hx hb hT3 hS hown (hts _ (List.mem_of_getElem? (i := 2) (by decide +kernel))) (fun _ h => h) dX4_setSetting_15 ?_
    refine lv_iload_n hx hb dX4_setSetting_18 rfl (lv_at hl 1 rfl) ?_
    refine va_ti (v := .int (zGr lim)) hx hb hT3a hS (vp_in_nI (by omega) (by omega)) (by rw [nI_clamp (by omega)]) dX4_setSetting_19 ?_
    refine z_si (As := [.int v, .int (zLe lim), .int (zGr lim)]) (rest := []) (P2 := zNA G ad n 12 g (zRest G ad na ma π d fl T) τ) (r := zBi (¬ v < (zLe lim) ∧ ¬ (zGr lim) < v)) S (c_X4_inRange l G (zAll ad na ma) (zNA G ad n 12 g (zRest G ad na ma π d fl T) τ) v (zLe lim) (zGr lim)) (cwS 3 hts gX4_setSetting_X4_inRange rfl rfl rfl (by decide +kernel) ⟨Nat.le_of_ble_eq_true rfl, Nat.le_of_ble_eq_true rfl⟩) hN hK hS (fun _ _ h => h) (fun _ h => h) hl.1 rfl rfl (Nat.le_of_ble_eq_true rfl) dX4_setSetting_20 ⟨Nat.le_refl _, Nat.le_refl _⟩ (fun H locs hN hS _ => ?_)
    refine lv_if_ne (tgt := 28) hx hb dX4_setSetting_23 (by decide) (fun c_3 => ?_) (fun c_4 => ?_)
    · skip
      have c_3 := zBi_n0.mp c_3
      refine lv_aload_n hx hb dX4_setSetting_28 rfl (lv_at hl 0 rfl) ?_
      refine z_getF (v := .ref (ad 0)) hx hb hts hown in_X4_setSetting_X4 hK hN 0 (by decide) rfl (hts _ (List.mem_of_getElem? (i := 3) (by decide +kernel))) rfl dX4_setSetting_29 ?_
      refine z_getO (v := .ref (ad 2)) hx hb hts hown in_X4_setSetting_X1 hK hN 1 (by decide) rfl (hts _ (List.mem_of_getElem? (i := 4) (by decide +kernel))) rfl dX4_setSetting_32 ?_
      refine lv_iload_n hx hb dX4_setSetting_35 rfl (lv_at hl 1 rfl) ?_
      refine z_iald (w := g (3 + lim)) hx hb hK hN lim rfl (by omega) rfl dX4_setSetting_36 ?_
      refine lv_istore_n (lv' := [(3, .int (g (3 + lim))), (0, .ref (ma 0)), (1, .int (nI lim)), (2, .int v)]) hx hb dX4_setSetting_37 rfl hl (by decide) rfl (fun ls hl => ?_)
      refine lv_iload_n hx hb dX4_setSetting_38 rfl (lv_at hl 3 rfl) ?_
      refine lv_iload_n hx hb dX4_setSetting_39 rfl (lv_at hl 0 rfl) ?_
      refine lv_icmp_ne (tgt := 46) hx hb dX4_setSetting_40 (by decide) (fun c_5 => ?_) (fun c_6 => ?_)
      · skip
        refine lv_aload_n hx hb dX4_setSetting_46 rfl (lv_at hl 1 rfl) ?_
        refine z_getF (v := .ref (ma 3)) hx hb hts hown in_X4_setSetting_X4 hK hN 4 (by decide) rfl (hts _ (List.mem_of_getElem? (i := 5) (by decide +kernel))) rfl dX4_setSetting_47 ?_
        refine lv_aload_n hx hb dX4_setSetting_50 rfl (lv_at hl 1 rfl) ?_
        refine z_getF (v := .ref (ad 0)) hx hb hts hown in_X4_setSetting_X4 hK hN 0 (by decide) rfl (hts _ (List.mem_of_getElem? (i := 3) (by decide +kernel))) rfl dX4_setSetting_51 ?_
        refine z_vv (As := [.ref (ad 0)]) (rest := []) (P2 := zNA G ad n 12 g (zRest G ad na ma (zPp d π) (zPd2 d + 1) fl (va_up T ((zPp d π) (zPd2 d)) (zCpy n g τ (T ((zPp d π) (zPd2 d)))))) τ) S (h_X0_push l G ad na ma hd π hπ d hd6 fl T n hn12 g τ) (cwV 1 hts gX4_setSetting_X0_push rfl rfl rfl (by decide +kernel) ⟨Nat.le_of_ble_eq_true rfl, Nat.le_of_ble_eq_true rfl⟩) (z_recH hK hN) hN hK hS (fun _ _ h => h) (fun _ h => h) hl.1 rfl rfl (Nat.le_of_ble_eq_true rfl) dX4_setSetting_54 ⟨Nat.le_refl _, Nat.le_refl _⟩ (fun H locs hN hS _ => ?_)
        have hA := zAp_top (G := G) hd (zPp d π) (zPd2 d + 1) fl (va_up T ((zPp d π) (zPd2 d)) (zCpy n g τ (T ((zPp d π) (zPd2 d)))))
        refine lv_aload_n hx hb dX4_setSetting_57 rfl (lv_at hl 1 rfl) ?_
        refine z_getF (v := .ref (ad 0)) hx hb hts hown in_X4_setSetting_X4 hK hN 0 (by decide) rfl (hts _ (List.mem_of_getElem? (i := 3) (by decide +kernel))) rfl dX4_setSetting_58 ?_
        refine z_getO (v := .ref (ad 2)) hx hb hts hown in_X4_setSetting_X1 hK hN 1 (by decide) rfl (hts _ (List.mem_of_getElem? (i := 4) (by decide +kernel))) rfl dX4_setSetting_61 ?_
        refine lv_iload_n hx hb dX4_setSetting_64 rfl (lv_at hl 2 rfl) ?_
        refine lv_iload_n hx hb dX4_setSetting_65 rfl (lv_at hl 3 rfl) ?_
        refine z_iast (w := v) hx hb hK hA hS hN lim rfl (by omega) dX4_setSetting_66 (fun H locs hN hS => ?_)
        refine lv_iload_n hx hb dX4_setSetting_67 rfl (lv_at hl 0 rfl) ?_
        exact z_iretE hx hb hr hlk hK hS (zIr_n (by first | assumption | (simp only [c_2, hc_lim, c_3, c_5, eq_self, ne_eq, not_true_eq_false, not_false_eq_true, and_true, true_and, and_self, and_false, false_and, true_or, or_true, false_or, or_false, reduceIte]; done) | (simp [c_2, hc_lim, c_3, c_5]; done) | grind) (zIr_n (by first | assumption | (simp only [c_2, hc_lim, c_3, c_5, eq_self, ne_eq, not_true_eq_false, not_false_eq_true, and_true, true_and, and_self, and_false, false_and, true_or, or_true, false_or, or_false, reduceIte]; done) | (simp [c_2, hc_lim, c_3, c_5]; done) | grind) (zIr_n (by first | assumption | (simp only [c_2, hc_lim, c_3, c_5, eq_self, ne_eq, not_true_eq_false, not_false_eq_true, and_true, true_and, and_self, and_false, false_and, true_or, or_true, false_or, or_false, reduceIte]; done) | (simp [c_2, hc_lim, c_3, c_5]; done) | grind) (by first | rfl | (simp only [c_2, hc_lim, c_3, c_5, eq_self, ne_eq, not_true_eq_false, not_false_eq_true, and_true, true_and, and_self, and_false, false_and, true_or, or_true, false_or, or_false, reduceIte]; done) | (simp [c_2, hc_lim, c_3, c_5]; done))))) (zIf_n (by first | assumption | (simp only [c_2, hc_lim, c_3, c_5, eq_self, ne_eq, not_true_eq_false, not_false_eq_true, and_true, true_and, and_self, and_false, false_and, true_or, or_true, false_or, or_false, reduceIte]; done) | (simp [c_2, hc_lim, c_3, c_5]; done) | grind) (zIf_n (by first | assumption | (simp only [c_2, hc_lim, c_3, c_5, eq_self, ne_eq, not_true_eq_false, not_false_eq_true, and_true, true_and, and_self, and_false, false_and, true_or, or_true, false_or, or_false, reduceIte]; done) | (simp [c_2, hc_lim, c_3, c_5]; done) | grind) (zIf_n (by first | assumption | (simp only [c_2, hc_lim, c_3, c_5, eq_self, ne_eq, not_true_eq_false, not_false_eq_true, and_true, true_and, and_self, and_false, false_and, true_or, or_true, false_or, or_false, reduceIte]; done) | (simp [c_2, hc_lim, c_3, c_5]; done) | grind) (by first | exact hN | (simpa only [c_2, hc_lim, c_3, c_5, eq_self, ne_eq, not_true_eq_false, not_false_eq_true, and_true, true_and, and_self, and_false, false_and, true_or, or_true, false_or, or_false, reduceIte] using hN) | (simpa [c_2, hc_lim, c_3, c_5] using hN))))) dX4_setSetting_68
      · skip
        refine lv_bipush (v := -2) hx hb dX4_setSetting_43 (by decide) ?_
        exact z_iretE hx hb hr hlk hK hS (zIr_n (by first | assumption | (simp only [c_2, hc_lim, c_3, c_6, eq_self, ne_eq, not_true_eq_false, not_false_eq_true, and_true, true_and, and_self, and_false, false_and, true_or, or_true, false_or, or_false, reduceIte]; done) | (simp [c_2, hc_lim, c_3, c_6]; done) | grind) (zIr_n (by first | assumption | (simp only [c_2, hc_lim, c_3, c_6, eq_self, ne_eq, not_true_eq_false, not_false_eq_true, and_true, true_and, and_self, and_false, false_and, true_or, or_true, false_or, or_false, reduceIte]; done) | (simp [c_2, hc_lim, c_3, c_6]; done) | grind) (zIr_t (by first | assumption | (simp only [c_2, hc_lim, c_3, c_6, eq_self, ne_eq, not_true_eq_false, not_false_eq_true, and_true, true_and, and_self, and_false, false_and, true_or, or_true, false_or, or_false, reduceIte]; done) | (simp [c_2, hc_lim, c_3, c_6]; done) | grind) (by first | rfl | (simp only [c_2, hc_lim, c_3, c_6, eq_self, ne_eq, not_true_eq_false, not_false_eq_true, and_true, true_and, and_self, and_false, false_and, true_or, or_true, false_or, or_false, reduceIte]; done) | (simp [c_2, hc_lim, c_3, c_6]; done))))) (zIf_n (by first | assumption | (simp only [c_2, hc_lim, c_3, c_6, eq_self, ne_eq, not_true_eq_false, not_false_eq_true, and_true, true_and, and_self, and_false, false_and, true_or, or_true, false_or, or_false, reduceIte]; done) | (simp [c_2, hc_lim, c_3, c_6]; done) | grind) (zIf_n (by first | assumption | (simp only [c_2, hc_lim, c_3, c_6, eq_self, ne_eq, not_true_eq_false, not_false_eq_true, and_true, true_and, and_self, and_false, false_and, true_or, or_true, false_or, or_false, reduceIte]; done) | (simp [c_2, hc_lim, c_3, c_6]; done) | grind) (zIf_t (by first | assumption | (simp only [c_2, hc_lim, c_3, c_6, eq_self, ne_eq, not_true_eq_false, not_false_eq_true, and_true, true_and, and_self, and_false, false_and, true_or, or_true, false_or, or_false, reduceIte]; done) | (simp [c_2, hc_lim, c_3, c_6]; done) | grind) (by first | exact hN | (simpa only [c_2, hc_lim, c_3, c_6, eq_self, ne_eq, not_true_eq_false, not_false_eq_true, and_true, true_and, and_self, and_false, false_and, true_or, or_true, false_or, or_false, reduceIte] using hN) | (simpa [c_2, hc_lim, c_3, c_6] using hN))))) dX4_setSetting_45
    · skip
      have c_4 := zBi_0.mp c_4
      refine lv_iconst (v := -1) hx hb dX4_setSetting_26 (by decide) ?_
      exact z_iretE hx hb hr hlk hK hS (zIr_n (by first | assumption | (simp only [c_2, hc_lim, c_4, eq_self, ne_eq, not_true_eq_false, not_false_eq_true, and_true, true_and, and_self, and_false, false_and, true_or, or_true, false_or, or_false, reduceIte]; done) | (simp [c_2, hc_lim, c_4]; done) | grind) (zIr_t (by first | assumption | (simp only [c_2, hc_lim, c_4, eq_self, ne_eq, not_true_eq_false, not_false_eq_true, and_true, true_and, and_self, and_false, false_and, true_or, or_true, false_or, or_false, reduceIte]; done) | (simp [c_2, hc_lim, c_4]; done) | grind) (by first | rfl | (simp only [c_2, hc_lim, c_4, eq_self, ne_eq, not_true_eq_false, not_false_eq_true, and_true, true_and, and_self, and_false, false_and, true_or, or_true, false_or, or_false, reduceIte]; done) | (simp [c_2, hc_lim, c_4]; done)))) (zIf_n (by first | assumption | (simp only [c_2, hc_lim, c_4, eq_self, ne_eq, not_true_eq_false, not_false_eq_true, and_true, true_and, and_self, and_false, false_and, true_or, or_true, false_or, or_false, reduceIte]; done) | (simp [c_2, hc_lim, c_4]; done) | grind) (zIf_t (by first | assumption | (simp only [c_2, hc_lim, c_4, eq_self, ne_eq, not_true_eq_false, not_false_eq_true, and_true, true_and, and_self, and_false, false_and, true_or, or_true, false_or, or_false, reduceIte]; done) | (simp [c_2, hc_lim, c_4]; done) | grind) (by first | exact hN | (simpa only [c_2, hc_lim, c_4, eq_self, ne_eq, not_true_eq_false, not_false_eq_true, and_true, true_and, and_self, and_false, false_and, true_or, or_true, false_or, or_false, reduceIte] using hN) | (simpa [c_2, hc_lim, c_4] using hN)))) dX4_setSetting_27
end
section
/-! ===== constructors of the class ===== -/
def zEn (A : Nat → Prop) (U : State) (H : Heap) : Prop := zTabs A U H ∧ va_AO RX3 U ∧ va_AO RX1 U ∧ va_Nw (.methodLinkNest RX1 31 yX3_init RX4) U
theorem zEn.warm {A : Nat → Prop} {u U : State} {H : Heap} (hW : u.WarmedH U.vm) (h : zEn A u H) : zEn A U H := ⟨h.1.moved hW.alike, h.2.1.moved hW.alike, h.2.2.1.moved hW.alike, h.2.2.2.warmM hW⟩
theorem zEn.same {A : Nat → Prop} {u U : State} {H : Heap} (hv : u.vm = U.vm) (h : zEn A u H) : zEn A U H := by
  have hvm : u.vm.Alike U.vm := by rw [hv]; exact Vm.Alike.refl _
  exact ⟨h.1.moved hvm, h.2.1.moved hvm, h.2.2.1.moved hvm, h.2.2.2.same rfl hv⟩
theorem zEn.kept {A : Nat → Prop} {U : State} {H H1 : Heap} (h : zEn A U H) (hq : ∀ a : Nat, a < H.size → ¬ A a → H1[a]? = H[a]?) : zEn A U H1 := ⟨h.1.kept hq, h.2⟩
theorem zEn.narrow {A B : Nat → Prop} {U : State} {H : Heap} (h : zEn A U H) (hAB : ∀ q, B q → A q) : zEn B U H := ⟨h.1.narrow hAB, h.2⟩
abbrev zPreC (G : zG) (A : Nat → Prop) (av : List Value) (P : Heap → Prop) : Array Value → State → Prop := fun a U => zPre G av P a U ∧ zEn A U U.heap
theorem z_blindC {G : zG} {A : Nat → Prop} {av : List Value} {P : Heap → Prop} : FrameBlind (zPreC G A av P) := fun a U g mk q => ⟨z_blind a U g mk q.1, zEn.same (u := U) (U := U.calling g mk a) rfl q.2⟩
/-- a constructor: its new cells mc of ms slots -/
abbrev zMc (l : Launch) (G : zG) (A : Nat → Prop) (y : MethodName) (ws : List Cond) (fr lo mc ms : Nat) (av : List Value) (P P2 : Heap → Prop) : Prop := Met l y ws ({ frames := fr, cells := mc, slots := ms, locals := lo } : Room) (zPreC G A av P) (zQv G P2 A) mc ms A
set_option maxHeartbeats 4000000 in
theorem z_metC {l : Launch} {y : MethodName} {ws ws' : List Cond} {rm : Room} {G : zG} {A : Nat → Prop} {av : List Value} {P : Heap → Prop} {Qc : Array Value → State → Outcome → State → Prop} {cc : ByteArray} {maxL mc ms : Nat} {ret : Option FieldType} (hy : plainName y.cls = true) (hw : ws = Cond.code y cc maxL ret :: ws') (hsl : (lg_sl av).length ≤ maxL)
    (body : ∀ (p : Program) (e : Env) (s : State) (m : MethodId) (below : List Frame) (meth : Method) (c : Code) (ls : Array Slot), CallFix p m c cc maxL s av.toArray ws y.cls → meth.sig.returnType = ret → meth.locks = false → meth.name = y.name → P s.heap → zK G s → zEn A s s.heap → lv_has ls maxL (lv_args 0 av) →
      W p l e rm s m av.toArray below meth c s.heap [] 0 0 (MQ below Qc av.toArray s mc ms A) (F0 m 0 ls [])) : Met l y ws rm (zPreC G A av P) Qc mc ms A := by
  refine Met.ofW (cc := cc) (maxL := maxL) (ret := ret) hy hw ?_
  intro p e s m args below meth c s₁ B hml hv
  obtain ⟨⟨rfl, hP, hK⟩, hT⟩ := hv
  have hts := atoms_spec (ws := ws) B.pre
  have hl := lv_entry av (n := maxL) hsl
  rw [lg_entry_eq]
  generalize (lg_sl av ++ List.replicate (maxL - (lg_sl av).length) Slot.unset).toArray = ls at hl ⊢
  exact body p e s m below meth c ls ⟨B.exec, B.bytes, hml, findClass_of_methodNamed B.named, hts⟩ B.returns B.notSynchronized (name_of_methodNamed B.named B.method).1 hP hK hT hl
section ZINI
variable {p : Program} {l : Launch} {e : Env} {R : Room} {s : State} {m : MethodId} {args : Array Value} {below : List Frame} {meth : Method} {c : Code} {H : Heap} {locs : List Loc} {cells slots : Nat} {Q : State → Prop}
variable {cc : ByteArray} {pc : Nat} {ls : Array Slot} {st0 rest : List Value} {G : zG} {A A0 : Nat → Prop} {H0 : Heap} {P P2 : Heap → Prop} {nL : Nat} {Ts ws : List Cond} {own C : String} {y : MethodName} {bytes : ByteArray} {maxL index n mc ms : Nat} {rm : Room} {Pc : Array Value → State → Prop} {b : Nat} {As : List Value}
theorem z_preP (hP : P H) (hK : zK G s) : PreS s H (zPre G (.ref b :: As) P) (.ref b :: As) := ⟨z_blind, fun U hU hW => ⟨rfl, by rw [hU]; exact hP, va_K.moved hW.alike hK⟩⟩
theorem z_preC (hP : P H) (hK : zK G s) (hE : zEn A0 s s.heap) (hS : va_S A0 s.heap H locs) (hA : ∀ q, A q → A0 q) : PreS s H (zPreC G A (.ref b :: As) P) (.ref b :: As) := ⟨z_blindC, fun U hU hW => ⟨⟨rfl, by rw [hU]; exact hP, va_K.moved hW.alike hK⟩, by rw [hU]; exact ((hE.kept hS.2.1).warm hW).narrow hA⟩⟩
/-- a call of a constructor -/
theorem z_ic (S : CallFix p m c cc nL s args Ts own) (hM : Met l y ws rm Pc (zQv G P2 A) mc ms A) (cw : CallB R s args own index y bytes maxL none ws rm mc ms n ∧ y.name = "<init>" ∧ (Cond.instanceMethod y).before args s = true) (hp : PreS s H Pc (.ref b :: As)) (hS : va_S A0 H0 H locs) (hA2 : ∀ q, A q → A0 q) (hsz : ls.size = nL) (hn : As.length = n) (hst : st0 = As.reverse ++ .ref b :: rest) (hrm : (rest.map fun v => v.category).sum ≤ 8) (hdg : decode cc pc = .ok (.invokespecial index, 3)) (hf : cells + mc ≤ R.cells ∧ slots + ms ≤ R.slots)
    (kk : ∀ (H1 : Heap) (locs1 : List Loc), P2 H1 → va_S A0 H0 H1 locs1 → (H.size ≤ H1.size ∧ ∀ q : Nat, q < H.size → ¬ A q → H1[q]? = H[q]?) → W p l e R s m args below meth c H1 locs1 (cells + mc) (slots + ms) Q (F0 m (pc + 3) ls rest)) : W p l e R s m args below meth c H locs cells slots Q (F0 m pc ls st0) := by
  refine va_callv (va_runI S hM cw hp rfl hn hsz hst (lv_room hrm) hdg hf) hS (fun q _ h => hA2 q h) hA2 (fun u t H1 locs1 ht hvm hw hB hz hk hS1 => ?_)
  exact kk H1 locs1 (ht ▸ hB.1) hS1 ⟨hz, hk⟩
/-- a call of a nest mate's constructor -/
theorem z_nic {host : String} (S : CallFix p m c cc nL s args Ts own) (hM : Met l y ws rm Pc (zQv G P2 A) mc ms A) (cw : va_CN R s args own index y host bytes maxL none ws rm mc ms n ∧ y.name = "<init>" ∧ (Cond.instanceMethod y).before args s = true) (hp : PreS s H Pc (.ref b :: As)) (hS : va_S A0 H0 H locs) (hA2 : ∀ q, A q → A0 q) (hsz : ls.size = nL) (hn : As.length = n) (hst : st0 = As.reverse ++ .ref b :: rest) (hrm : (rest.map fun v => v.category).sum ≤ 8) (hdg : decode cc pc = .ok (.invokespecial index, 3)) (hf : cells + mc ≤ R.cells ∧ slots + ms ≤ R.slots)
    (kk : ∀ (H1 : Heap) (locs1 : List Loc), P2 H1 → va_S A0 H0 H1 locs1 → (H.size ≤ H1.size ∧ ∀ q : Nat, q < H.size → ¬ A q → H1[q]? = H[q]?) → W p l e R s m args below meth c H1 locs1 (cells + mc) (slots + ms) Q (F0 m (pc + 3) ls rest)) : W p l e R s m args below meth c H locs cells slots Q (F0 m pc ls st0) := by
  refine va_callv (va_runIN S hM cw hp rfl hn hsz hst (lv_room hrm) hdg hf) hS (fun q _ h => hA2 q h) hA2 (fun u t H1 locs1 ht hvm hw hB hz hk hS1 => ?_)
  exact kk H1 locs1 (ht ▸ hB.1) hS1 ⟨hz, hk⟩
/-- the table of first settings, copied over -/
theorem z_copyF (hexec : p.tables.exec = Jvm.exec) (hb : c.code = cc) (hml : c.maxLocals = ls.size) (hown : s.vm.findClass own = some m.cls) (hlink : (Cond.methodLink own index arraycopyName).before args s = true) (hnat : (Cond.native arraycopyName).before args s = true) (hstat : (Cond.static arraycopyName).before args s = true) (hini : (Cond.initialized "java/lang/System").before args s = true)
    (hK : zK G s) {X : va_W} (hP : va_P G.1 vwCl X H) (hD : va_D A X) (hS : va_S A s.heap H locs) {t1 a : Nat} (hX : va_T .int t1 6 (fun j => .int (zFi j)) A s s.heap) {g : Nat → Int32} (ha1 : X[2]? = some (a, .inl (G.2.2.1, 6, .inl g)))
    (hframes : 1 ≤ R.frames) (hlocals : (rest.map fun v => v.category).sum + (nativeFrameWords "java/lang/System" "arraycopy" 5 + 11) ≤ R.locals) (hdg : decode cc pc = .ok (.invokestatic index, 3))
    (kk : ∀ (H1 : Heap) (locs1 : List Loc), va_P G.1 vwCl (X.set 2 (a, .inl (G.2.2.1, 6, .inl (va_cpy zFi g 0 0 6)))) H1 → va_D A (X.set 2 (a, .inl (G.2.2.1, 6, .inl (va_cpy zFi g 0 0 6)))) → va_S A s.heap H1 locs1 → W p l e R s m args below meth c H1 locs1 cells slots Q (F0 m (pc + 3) ls rest)) : W p l e R s m args below meth c H locs cells slots Q (F0 m pc ls (.int 6 :: .int 0 :: .ref a :: .int 0 :: .ref t1 :: rest)) := by
  intro T hT Y
  obtain ⟨scr, hs1, hs2, hs3, hs4, -, hs5, hs7⟩ := hX
  have hc0 : H[t1]? = some scr := (hS.2.1 t1 (Array.getElem?_eq_some_iff.mp hs1).1 hs7).trans hs1
  have hc1 : H[a]? = some (vp_cell G.2.2.1 (6, .inl g)) := hP 2 _ ha1
  obtain ⟨hs6, k0, hk0, cm0, hkk0⟩ := hs2
  obtain ⟨-, k1, hk1, cm1, hkk1⟩ := (hK.2 1 _ rfl).1 6 (fun j => .int (g j))
  have six : ((6 : Int32).toInt) = 6 := by decide
  have zero : ((0 : Int32).toInt) = 0 := by decide
  have six2 : (6 : Int32).toNatClampNeg = 6 := by decide
  have zero2 : (0 : Int32).toNatClampNeg = 0 := by decide
  obtain ⟨vm', X', step⟩ := Y.arraycopy hexec hown hlink hnat hstat hini (src := t1) (dst := a) (cs := scr) (cd := vp_cell G.2.2.1 (6, .inl g)) (srcPos := 0) (destPos := 0) (n := 6) (by rw [hT]; exact hc0) (by rw [hT]; exact hc1)
    hs6 (fun _ h => by cases h) hs3 (fun h => by cases h) hk0 hk1 hkk0 hkk1 (by simp [refKind]) (by decide) (by decide) (by decide)
    (by rw [six, zero]; omega)
    (by rw [six, zero]; show ¬ _ > ((arrV G.2.2.1 6 (fun j => .int (g j))).slots.size : Int); rw [arrV_size]; omega)
    (fun vm₁ _ i hi => by
      rw [six2] at hi
      have e : scr.slots.getD ((0 : Int32).toNatClampNeg + i) .null = .int (zFi i) := by
        rw [Array.getD_eq_getD_getElem?, zero2, Nat.zero_add, hs5 i hi]
        rfl
      rw [e]
      exact ⟨rfl, trivial⟩)
    (g := F0 m pc ls (.int 6 :: .int 0 :: .ref a :: .int 0 :: .ref t1 :: rest)) rfl (by rw [hml]) (rest := rest) rfl (by rw [hb]; exact hdg) hframes (by show 2 * 0 + _ + _ ≤ _; omega)
  have e1 : copied scr (vp_cell G.2.2.1 (6, .inl g)) 0 0 6 = vp_cell G.2.2.1 (6, .inl (va_cpy zFi g 0 0 6)) := va_copiedX (fun z => .int z) scr G.2.2.1 zFi g (n0 := 6) (sp := 0) (dp := 0) (n := 6) (fun j hj => hs5 j hj) (Nat.le_refl 6)
  rw [e1] at X' step
  have hl : a < H.size := (Array.getElem?_eq_some_iff.mp hc1).1
  generalize hnew : vp_cell G.2.2.1 (6, .inl (va_cpy zFi g 0 0 6)) = new at X' step
  have hheap : ((T.setVm vm').setCell a new).heap = H.setIfInBounds a new := by rw [← hT]; rfl
  have oq : ∀ q : Nat, q ≠ a → (H.setIfInBounds a new)[q]? = H[q]? := fun q hq => by simp [Array.getElem?_setIfInBounds, Ne.symm hq]
  have at1 : va_at G.1 vwCl (a, .inl (G.2.2.1, 6, .inl (va_cpy zFi g 0 0 6))) (H.setIfInBounds a new) := by
    show (H.setIfInBounds a new)[a]? = some _
    rw [hnew]
    simp [Array.getElem?_setIfInBounds, hl]
  have hAa : A a := hD.2 2 _ ha1
  obtain ⟨t, a1, b1⟩ := kk _ _ (hP.set hD ha1 at1 oq) (hD.set ha1) ⟨by simp; exact hS.1, fun q g1 g2 => (oq q (fun e => g2 (e ▸ hAa))).trans (hS.2.1 q g1 g2), fun q hq => (List.mem_append.mp hq).elim (hS.2.2 q) (fun h => by
    obtain ⟨z, -, hz⟩ := List.mem_map.mp h
    rw [← hz]
    exact hAa)⟩ _ hheap X'
  exact ⟨t, step t a1, b1⟩
end ZINI
/-- the class of an array of references is told by its element's name -/
theorem zCA_o {U : State} {a b : ClassId} {C : String} (h1 : va_RA U a (.object C)) (h2 : va_RA U b (.object C)) : a = b := by
  obtain ⟨-, -, -, -, -, q1⟩ := h1
  obtain ⟨-, -, -, -, -, q2⟩ := h2
  exact Option.some.inj (q1.symm.trans q2)
theorem zCA_i {U : State} {a b : ClassId} (h1 : va_RA U a .int) (h2 : va_RA U b .int) : a = b := Option.some.inj (h1.symm.trans h2)
theorem zCA_z {U : State} {a b : ClassId} (h1 : va_RA U a .boolean) (h2 : va_RA U b .boolean) : a = b := Option.some.inj (h1.symm.trans h2)
theorem zK_of {G : zG} {s : State} {x : ClassId × FieldType} (h : va_K G.1 vwCl (zTys G ++ [x]) s) : va_RA s x.1 x.2 := (h.2 4 x rfl).2
/-- an object with its fields at their first values -/
abbrev zO1 : List Value := [.null, .null, .int 0, .int 0, .int 0, .int 0, .int 0, .int 0, .int 0, .int 0, .int 0]
abbrev zO3 : List Value := [.int 0, .int 0, .int 0, .int 0, .int 0, .int 0, .int 0, .int 0, .int 0, .int 0, .int 0]
def zτ0 : zT := fun f i => if f = 11 ∧ i = 9 then 1 else 0
def zg0 : Nat → Int32 := fun j => if j = 1 then 50 else if j = 2 then 150 else if 3 ≤ j ∧ j < 9 then zFi (j - 3) else 0
theorem zSen_0 (i : Nat) : zSen zτ0 i = zO3 := by
  simp [zSen, zτ0, zBi]
/-- from one address, and the new ones -/
def zFr (a sz : Nat) : Nat → Prop := fun q => q = a ∨ sz ≤ q
/-- a network that is being made: k sensors -/
def zNk (G : zG) (ad : Nat → Nat) (k : Nat) : va_W := (ad 0, .inr (1, [.ref (ad 1), .ref (ad 2), .int 0, .int 50, .int 150, .int 1, .int 0, .int 0, .int 0, .int 0, .int 0])) :: (ad 1, .inl (G.2.1, 12, .inr (.inr (.inr (.inr (fun i => if i < k then some (ad (3 + i)) else none)))))) :: (ad 2, .inl (G.2.2.1, 6, .inl (fun _ => 0))) :: (List.range k).map (zSenC ad zτ0)
theorem zNk_up (G : zG) (ad : Nat → Nat) (k q : Nat) : zNk G (va_up ad (3 + k) q) k = zNk G ad k := by
  have e : ∀ j, j < 3 + k → va_up ad (3 + k) q j = ad j := fun j hj => va_up_ne _ _ (by omega)
  unfold zNk
  rw [e 0 (by omega), e 1 (by omega), e 2 (by omega)]
  congr 1
  congr 1
  · congr 7
    refine congrArg Sum.inr ?_
    funext i
    by_cases h : i < k
    · rw [if_pos h, if_pos h, e _ (by omega)]
    · rw [if_neg h, if_neg h]
  · congr 1
    apply List.map_congr_left
    intro i hi
    unfold zSenC
    rw [e _ (by have := List.mem_range.mp hi; omega)]
theorem zNk_len (G : zG) (ad : Nat → Nat) (k : Nat) : (zNk G ad k).length = 3 + k := by
  simp [zNk]
  omega
theorem zNk_s (G : zG) (ad : Nat → Nat) (k : Nat) : (zNk G ad k ++ [((ad (3 + k), .inr (3, zO3)) : Nat × va_E)]).set 1 (ad 1, .inl (G.2.1, 12, .inr (.inr (.inr (.inr (va_up (fun i => if i < k then some (ad (3 + i)) else none) k (some (ad (3 + k))))))))) = zNk G ad (k + 1) := by
  unfold zNk
  rw [List.range_succ, List.map_append]
  have e : va_up (fun i => if i < k then some (ad (3 + i)) else none) k (some (ad (3 + k))) = fun i => if i < k + 1 then some (ad (3 + i)) else none := by
    funext i
    by_cases h : i = k
    · subst h
      rw [va_up_self, if_pos (by omega)]
    · rw [va_up_ne _ _ h]
      by_cases h2 : i < k
      · rw [if_pos h2, if_pos (by omega)]
      · rw [if_neg h2, if_neg (by omega)]
  rw [e]
  have e2 : zSenC ad zτ0 k = ((ad (3 + k), .inr (3, zO3)) : Nat × va_E) := by
    unfold zSenC
    rw [zSen_0]
  simp [e2]
end
section
theorem in_X1_init_X1 : ∀ w ∈ wsX10, w ∈ wsX1_init := by decide +kernel
theorem in_X1_init_X3 : ∀ w ∈ wsX30, w ∈ wsX1_init := by decide +kernel
set_option maxHeartbeats 4000000 in
theorem k_X3_init (l : Launch) (G : zG) (A : Nat → Prop) (P : Heap → Prop) (a : Nat) : zMv l G A yX3_init wsX3_init 1 12 [.ref a] P P := by
  refine z_met (cc := cX3_init) (maxL := 1) (ret := none) (by decide) rfl (Nat.le_of_ble_eq_true rfl) ?_
  intro p e s m below meth c ls S hr hlk hnm hP hK hl
  have S : CallFix p m c cX3_init 1 s _ wsX3_init RX3 := S
  obtain ⟨hx, hb, hml, hown, hts⟩ := id S
  have hS : va_S A s.heap s.heap [] := va_S.rf
  have hl : lv_has ls 1 [(0, .ref a)] := hl
  refine lv_aload_n hx hb dX3_init_0 rfl (lv_at hl 0 rfl) ?_
  refine W.objInit hx hb hown (hts _ (List.mem_of_getElem? (i := 1) (by decide +kernel))) (hts _ (List.mem_of_getElem? (i := 2) (by decide +kernel))) (hts _ (List.mem_of_getElem? (i := 3) (by decide +kernel))) rfl (by rw [hml]; exact hl.1) rfl dX3_init_1 (Nat.le_of_ble_eq_true rfl) (Nat.le_of_ble_eq_true rfl) ?_
  refine W.eq (g2 := F0 m 4 ls []) rfl ?_
  exact z_vret hx hb hr hlk hK hS hP dX3_init_4
theorem zArr_ext {cA : ClassId} {n : Nat} {f g : Nat → Option Nat} (h : ∀ i, i < n → f i = g i) : vp_cell cA (n, .inr (.inr (.inr (.inr f)))) = vp_cell cA (n, .inr (.inr (.inr (.inr g)))) := by
  rw [vp_cell_q, vp_cell_q]
  unfold arrV
  congr 2
  funext j
  show va_rf (f j.val) = va_rf (g j.val)
  rw [h j.val j.isLt]
theorem zArr_exI {cA : ClassId} {n : Nat} {f g : Nat → Int32} (h : ∀ i, i < n → f i = g i) : vp_cell cA (n, .inl f) = vp_cell cA (n, .inl g) := by
  show arrV cA n (fun j => .int (f j)) = arrV cA n (fun j => .int (g j))
  unfold arrV
  congr 2
  funext j
  show Value.int (f j.val) = Value.int (g j.val)
  rw [h j.val j.isLt]
theorem zg0_3 {j : Nat} (h : j < 6) : zg0 (3 + j) = zFi j := by
  unfold zg0
  rw [if_neg (by omega), if_neg (by omega), if_pos (by omega)]
  congr 1
  omega
/-- the finished network -/
theorem zNk_end {G : zG} {ad : Nat → Nat} {A : Nat → Prop} {H : Heap} (hP : va_P G.1 vwCl ((zNk G ad 12).set 2 (ad 2, .inl (G.2.2.1, 6, .inl (va_cpy zFi (fun _ => 0) 0 0 6)))) H) (hD : va_D A ((zNk G ad 12).set 2 (ad 2, .inl (G.2.2.1, 6, .inl (va_cpy zFi (fun _ => 0) 0 0 6))))) : va_P G.1 vwCl (zNet G ad 0 zg0 zτ0) H ∧ va_D A (zNet G ad 0 zg0 zτ0) := by
  have key : ∀ (k : Nat) (q : Nat × va_E), (zNet G ad 0 zg0 zτ0)[k]? = some q → ∃ q2 : Nat × va_E, ((zNk G ad 12).set 2 (ad 2, .inl (G.2.2.1, 6, .inl (va_cpy zFi (fun _ => 0) 0 0 6))))[k]? = some q2 ∧ q2.1 = q.1 ∧ (va_at G.1 vwCl q2 H → va_at G.1 vwCl q H) := by
    intro k q hk
    match k with
    | 0 => cases hk; exact ⟨_, rfl, rfl, fun h => h⟩
    | 1 =>
      cases hk
      refine ⟨_, rfl, rfl, fun h => ?_⟩
      have h : H[ad 1]? = some (vp_cell G.2.1 (12, .inr (.inr (.inr (.inr (fun i => if i < 12 then some (ad (3 + i)) else none)))))) := h
      show H[ad 1]? = some (vp_cell _ _)
      rw [h, zArr_ext]
      intro i hi
      exact if_pos hi
    | 2 =>
      cases hk
      refine ⟨_, rfl, rfl, fun h => ?_⟩
      have h : H[ad 2]? = some (vp_cell G.2.2.1 (6, .inl (va_cpy zFi (fun _ => 0) 0 0 6))) := h
      show H[ad 2]? = some (vp_cell _ _)
      rw [h, zArr_exI]
      intro i hi
      rw [zg0_3 hi]
      show (if 0 ≤ i ∧ i < 0 + 6 then zFi (0 + (i - 0)) else 0) = zFi i
      rw [if_pos (by omega)]
      congr 1
      omega
    | k + 3 => exact ⟨q, hk, rfl, fun h => h⟩
  refine ⟨fun k q hk => ?_, fun i j p q hi hj hpq => ?_, fun k q hk => ?_⟩
  · obtain ⟨q2, h1, h2, h3⟩ := key k q hk
    exact h3 (hP k q2 h1)
  · obtain ⟨p2, a1, a2, -⟩ := key i p hi
    obtain ⟨q2, b1, b2, -⟩ := key j q hj
    exact hD.1 i j p2 q2 a1 b1 (a2.trans (hpq.trans b2.symm))
  · obtain ⟨q2, h1, h2, -⟩ := key k q hk
    rw [← h2]
    exact hD.2 k q2 h1
set_option maxHeartbeats 4000000 in
theorem k_X1_init (l : Launch) (G : zG) (a sz : Nat) : zMc l G (zFr a sz) yX1_init wsX1_init 2 64 14 150 [.ref a] (fun H => H.size = sz ∧ a < sz ∧ va_P G.1 vwCl [(a, .inr (1, zO1))] H) (fun H => ∃ ad : Nat → Nat, ad 0 = a ∧ va_P G.1 vwCl (zNet G ad 0 zg0 zτ0) H ∧ va_D (zFr a sz) (zNet G ad 0 zg0 zτ0)) := by
  refine z_metC (cc := cX1_init) (maxL := 2) (ret := none) (by decide) rfl (Nat.le_of_ble_eq_true rfl) ?_
  intro p e s m below meth c ls S hr hlk hnm hP hK hE hl
  have S : CallFix p m c cX1_init 2 s _ wsX1_init RX1 := S
  obtain ⟨hx, hb, hml, hown, hts⟩ := id S
  obtain ⟨rfl, hasz, hP⟩ := hP
  have hA : ∀ q : Nat, s.heap.size ≤ q → zFr a s.heap.size q := fun q h => Or.inr h
  have hD : va_D (zFr a s.heap.size) [((a, .inr (1, zO1)) : Nat × va_E)] := ⟨fun i j p q hi hj _ => by
    have h1 : i < 1 := (List.getElem?_eq_some_iff.mp hi).1
    have h2 : j < 1 := (List.getElem?_eq_some_iff.mp hj).1
    omega, fun k q hk => by
    have h1 : k < 1 := (List.getElem?_eq_some_iff.mp hk).1
    rw [show k = 0 by omega] at hk
    cases hk
    exact Or.inl rfl⟩
  generalize hAe : zFr a s.heap.size = A at hA hD hE ⊢
  have hS : va_S A s.heap s.heap [] := va_S.rf
  have hl : lv_has ls 2 [(0, .ref a)] := hl
  refine lv_aload_n hx hb dX1_init_0 rfl (lv_at hl 0 rfl) ?_
  refine W.objInit hx hb hown (hts _ (List.mem_of_getElem? (i := 1) (by decide +kernel))) (hts _ (List.mem_of_getElem? (i := 2) (by decide +kernel))) (hts _ (List.mem_of_getElem? (i := 3) (by decide +kernel))) rfl (by rw [hml]; exact hl.1) rfl dX1_init_1 (Nat.le_of_ble_eq_true rfl) (Nat.le_of_ble_eq_true rfl) ?_
  refine W.eq (g2 := F0 m 4 ls []) rfl ?_
  refine lv_aload_n hx hb dX1_init_4 rfl (lv_at hl 0 rfl) ?_
  refine lv_bipush (v := 12) hx hb dX1_init_5 (by decide) ?_
  refine va_newq (C := RX3) (N' := 12) hx hb hown (hts _ (List.mem_of_getElem? (i := 4) (by decide +kernel))) hE.2.1 hK hP hD hS hA (by decide) (by decide) (Nat.le_of_ble_eq_true rfl) (Nat.le_of_ble_eq_true rfl) (Nat.le_of_ble_eq_true rfl) dX1_init_7 (fun q1 cA H hK2 hP hD hS => ?_)
  obtain rfl : cA = G.2.1 := zCA_o (zK_of hK2) (hK.2 0 _ rfl).2
  refine va_putF (D := G.1) (ci := 1) (C := RX1) (T := TX1) (N := 11) hx hb hts in_X1_init_X1 tyX1 tyX1_ok nmX1 hown hK hP hD hS 0 (fs := zO1) rfl rfl 0 (by decide) (hts _ (List.mem_of_getElem? (i := 5) (by decide +kernel))) (fun _ h => h) rfl hnm rfl (tyX1_ok 0 (by decide)) rfl rfl (by decide) dX1_init_10 (fun H locs hP hD hS => ?_)
  refine lv_aload_n hx hb dX1_init_13 rfl (lv_at hl 0 rfl) ?_
  refine lv_bipush (v := 6) hx hb dX1_init_14 (by decide) ?_
  refine va_newa (atype := .int) (ty := .int) (N' := 6) (a0 := (6, .inl (fun _ => 0))) hx hb (hts _ (List.mem_of_getElem? (i := 6) (by decide +kernel))) rfl hK hP hD hS hA (fun _ => rfl) (by decide) (by decide) (Nat.le_of_ble_eq_true rfl) (Nat.le_of_ble_eq_true rfl) (Nat.le_of_ble_eq_true rfl) dX1_init_16 (fun q2 cA H hK2 hP hD hS => ?_)
  obtain rfl : cA = G.2.2.1 := zCA_i (zK_of hK2) (hK.2 1 _ rfl).2
  refine va_putF (D := G.1) (ci := 1) (C := RX1) (T := TX1) (N := 11) hx hb hts in_X1_init_X1 tyX1 tyX1_ok nmX1 hown hK hP hD hS 0 (fs := zO1.set 0 (.ref q1)) rfl rfl 1 (by decide) (hts _ (List.mem_of_getElem? (i := 7) (by decide +kernel))) (fun _ h => h) rfl hnm rfl (tyX1_ok 1 (by decide)) rfl rfl (by simp) dX1_init_18 (fun H locs hP hD hS => ?_)
  refine lv_aload_n hx hb dX1_init_21 rfl (lv_at hl 0 rfl) ?_
  refine lv_bipush (v := 50) hx hb dX1_init_22 (by decide) ?_
  refine va_put (D := G.1) (ci := 1) (C := RX1) (T := TX1) (N := 11) hx hb hts in_X1_init_X1 tyX1 tyX1_ok nmX1 hown hK hP hD hS 0 (fs := (zO1.set 0 (.ref q1)).set 1 (.ref q2)) rfl rfl 3 (by decide) (hts _ (List.mem_of_getElem? (i := 8) (by decide +kernel))) (fun _ h => h) rfl (tyX1_ok 3 (by decide)) rfl rfl (by simp) dX1_init_24 (fun H locs hP hD hS => ?_)
  refine lv_aload_n hx hb dX1_init_27 rfl (lv_at hl 0 rfl) ?_
  refine lv_sipush (v := 150) hx hb dX1_init_28 (by decide) ?_
  refine va_put (D := G.1) (ci := 1) (C := RX1) (T := TX1) (N := 11) hx hb hts in_X1_init_X1 tyX1 tyX1_ok nmX1 hown hK hP hD hS 0 (fs := ((zO1.set 0 (.ref q1)).set 1 (.ref q2)).set 3 (.int 50)) rfl rfl 4 (by decide) (hts _ (List.mem_of_getElem? (i := 9) (by decide +kernel))) (fun _ h => h) rfl (tyX1_ok 4 (by decide)) rfl rfl (by simp) dX1_init_31 (fun H locs hP hD hS => ?_)
  refine lv_aload_n hx hb dX1_init_34 rfl (lv_at hl 0 rfl) ?_
  refine lv_iconst (v := 1) hx hb dX1_init_35 (by decide) ?_
  refine va_put (D := G.1) (ci := 1) (C := RX1) (T := TX1) (N := 11) hx hb hts in_X1_init_X1 tyX1 tyX1_ok nmX1 hown hK hP hD hS 0 (fs := (((zO1.set 0 (.ref q1)).set 1 (.ref q2)).set 3 (.int 50)).set 4 (.int 150)) rfl rfl 5 (by decide) (hts _ (List.mem_of_getElem? (i := 10) (by decide +kernel))) (fun _ h => h) rfl (tyX1_ok 5 (by decide)) rfl rfl (by simp) dX1_init_36 (fun H locs hP hD hS => ?_)
  refine lv_iconst (v := 0) hx hb dX1_init_39 (by decide) ?_
  refine lv_istore_n (lv' := [(1, .int (nI 0)), (0, .ref a)]) hx hb dX1_init_40 rfl hl (by decide) rfl (fun ls hl => ?_)
  have loop1 : ∀ (f k : Nat) (H : Heap) (locs : List Loc) (ls : Array Slot) (ad : Nat → Nat), k ≤ 12 → 12 < k + f → ad 0 = a → va_P G.1 vwCl (zNk G ad k) H → va_D A (zNk G ad k) → va_S A s.heap H locs → lv_has ls 2 [(1, .int (nI k)), (0, .ref a)] → W p l e ({ frames := 2, cells := 14, slots := 150, locals := 64 } : Room) s m ([.ref a] : List Value).toArray below meth c H locs (2 + k) (18 + 11 * k) (MQ below (zQv G (fun H => ∃ ad : Nat → Nat, ad 0 = a ∧ va_P G.1 vwCl (zNet G ad 0 zg0 zτ0) H ∧ va_D A (zNet G ad 0 zg0 zτ0)) A) ([.ref a] : List Value).toArray s 14 150 A) (F0 m 41 ls []) := by
    intro f
    induction f with
    | zero => intro k H locs ls ad h1 h2; exact absurd h2 (by omega)
    | succ f ih =>
      intro k H locs ls ad hk hf ha hP hD hS hl
      have hl : lv_has ls 2 [(1, .int (nI k)), (0, .ref (ad 0))] := by rw [ha]; exact hl
      refine lv_iload_n hx hb dX1_init_41 rfl (lv_at hl 0 rfl) ?_
      refine lv_bipush (v := 12) hx hb dX1_init_42 (by decide) ?_
      refine lv_icmp_ge (tgt := 66) hx hb dX1_init_44 (by decide) (fun c1 => ?_) (fun c1 => ?_)
      · have c1 := (z_leI (a := 12) (b := k) (by omega) (by omega)).mp c1
        obtain rfl : k = 12 := by omega
        obtain ⟨t1, t2, t3, ⟨hT1, hT1a⟩, -, -⟩ := hE.1
        refine va_gets (v := .ref t1) hx hb hT1 hS hown (hts _ (List.mem_of_getElem? (i := 13) (by decide +kernel))) (fun _ h => h) dX1_init_66 ?_
        refine lv_iconst (v := 0) hx hb dX1_init_69 (by decide) ?_
        refine lv_aload_n hx hb dX1_init_70 rfl (lv_at hl 1 rfl) ?_
        refine va_get (D := G.1) (ci := 1) (C := RX1) (T := TX1) (N := 11) (v := .ref (ad 2)) hx hb hts in_X1_init_X1 hown hK hP 0 rfl rfl 1 (by decide) (hts _ (List.mem_of_getElem? (i := 7) (by decide +kernel))) (fun _ h => h) rfl dX1_init_71 ?_
        refine lv_iconst (v := 0) hx hb dX1_init_74 (by decide) ?_
        refine lv_bipush (v := 6) hx hb dX1_init_75 (by decide) ?_
        refine z_copyF hx hb (by rw [hml]; exact hl.1.symm) hown (hts _ (List.mem_of_getElem? (i := 14) (by decide +kernel))) (hts _ (List.mem_of_getElem? (i := 15) (by decide +kernel))) (hts _ (List.mem_of_getElem? (i := 16) (by decide +kernel))) (hts _ (List.mem_of_getElem? (i := 17) (by decide +kernel))) hK hP hD hS hT1a rfl (Nat.le_of_ble_eq_true rfl) (Nat.le_of_ble_eq_true rfl) dX1_init_77 (fun H locs hP hD hS => ?_)
        exact z_vret hx hb hr hlk hK hS ⟨ad, ha, zNk_end hP hD⟩ dX1_init_80
      · have c1 := (not_congr (z_leI (a := 12) (b := k) (by omega) (by omega))).mp c1
        refine lv_aload_n hx hb dX1_init_47 rfl (lv_at hl 1 rfl) ?_
        refine va_get (D := G.1) (ci := 1) (C := RX1) (T := TX1) (N := 11) (v := .ref (ad 1)) (ws := zNk G ad k) hx hb hts in_X1_init_X1 hown hK hP 0 rfl rfl 0 (by decide) (hts _ (List.mem_of_getElem? (i := 5) (by decide +kernel))) (fun _ h => h) rfl dX1_init_48 ?_
        refine lv_iload_n hx hb dX1_init_51 rfl (lv_at hl 0 rfl) ?_
        refine va_new (ci := 3) (C := RX3) (T := TX3) (N := 11) (fs := zO3) hx hb hts in_X1_init_X3 tyX3 tyX3_ok hown (hts _ (List.mem_of_getElem? (i := 4) (by decide +kernel))) (hts _ (List.mem_of_getElem? (i := 11) (by decide +kernel))) (hts _ (List.mem_of_getElem? (i := 12) (by decide +kernel))) hK hP hD hS hA rfl (by decide) (by show 2 + k + 1 ≤ 14; omega) (by show 18 + 11 * k + 11 ≤ 150; omega) dX1_init_52 (fun q H hP hD hS => ?_)
        refine lv_dup hx hb dX1_init_55 rfl ?_
        refine z_nic (As := []) (P2 := va_P G.1 vwCl (zNk G ad k ++ [(q, .inr (3, zO3))])) S (k_X3_init l G A _ q) ⟨va_cnB 0 hts gX1_init_X3_init_n31 rfl rfl rfl hE.2.2.2 (hts _ (List.mem_of_getElem? (i := 12) (by decide +kernel))) (by decide +kernel) ⟨Nat.le_of_ble_eq_true rfl, Nat.le_of_ble_eq_true rfl⟩, rfl, hts _ (List.mem_of_getElem? (i := 18) (by decide +kernel))⟩ (z_preP hP hK) hS (fun _ h => h) hl.1 rfl rfl (Nat.le_of_ble_eq_true rfl) dX1_init_56 ⟨by show 2 + k + 1 ≤ 14; omega, by show 18 + 11 * k + 11 ≤ 150; omega⟩ (fun H locs hP hS _ => ?_)
        refine va_astq (r := (RX3, TX3, 11)) hx hb hK hP hD hS 1 0 (3 + k) 3 (cA := G.2.1) (n := 12) (f := fun i => if i < k then some (ad (3 + i)) else none) (v := q) (vs := zO3) rfl rfl (by rw [List.getElem?_append_right (by rw [zNk_len]; omega), zNk_len, Nat.sub_self]; rfl) rfl (vp_in_nI (by omega) (by omega)) dX1_init_59 (fun H locs hP hD hS => ?_)
        refine lv_iinc (v := nI (k + 1)) (lv' := [(1, .int (nI (k + 1))), (0, .ref (ad 0))]) hx hb dX1_init_60 hl (k := 0) rfl (nI_1 _) (by decide) rfl (fun ls hl => ?_)
        refine lv_goto (tgt := 41) hx hb dX1_init_63 (by decide) ?_
        rw [nI_clamp (by omega)] at hP hD
        have eW := zNk_s G (va_up ad (3 + k) q) k
        rw [zNk_up, va_up_self, va_up_ne _ _ (by omega)] at eW
        have eF : (fun i => if i < k then some (va_up ad (3 + k) q (3 + i)) else none) = fun i => if i < k then some (ad (3 + i)) else none := by
          funext i
          by_cases h : i < k
          · rw [if_pos h, if_pos h, va_up_ne _ _ (by omega)]
          · rw [if_neg h, if_neg h]
        rw [eF] at eW
        have hI := ih (k + 1) H locs ls (va_up ad (3 + k) q) (by omega) (by omega) ((va_up_ne _ _ (by omega)).trans ha) (by rw [← eW]; exact hP) (by rw [← eW]; exact hD) hS (by rw [← ha]; exact hl)
        rw [show 18 + 11 * (k + 1) = 18 + 11 * k + 11 by omega] at hI
        exact hI
  exact loop1 13 0 _ _ _ (fun i => if i = 0 then a else if i = 1 then q1 else q2) (by omega) (by omega) rfl hP hD hS (lv_sub hl [0, 1] rfl)
end
section
/-- a new object's world beside the old one -/
theorem zJoin {G : zG} {A : Nat → Prop} {ws w1 : va_W} {q : Nat} {e : va_E} {H H1 : Heap} (hP : va_P G.1 vwCl (ws ++ [(q, e)]) H) (hD : va_D A (ws ++ [(q, e)])) (hk : ∀ r, r < H.size → ¬ zFr q H.size r → H1[r]? = H[r]?) (hP1 : va_P G.1 vwCl w1 H1) (hD1 : va_D (zFr q H.size) w1) (hA : ∀ r, H.size ≤ r → A r) : va_P G.1 vwCl (ws ++ w1) H1 ∧ va_D A (ws ++ w1) := by
  have atq : (ws ++ [((q, e) : Nat × va_E)])[ws.length]? = some (q, e) := by simp
  have hw : ∀ (k : Nat) (x : Nat × va_E), ws[k]? = some x → (ws ++ [((q, e) : Nat × va_E)])[k]? = some x := fun k x hx => by
    rw [List.getElem?_append_left (List.getElem?_eq_some_iff.mp hx).1]
    exact hx
  have apart : ∀ (k : Nat) (x : Nat × va_E), ws[k]? = some x → x.1 < H.size ∧ ¬ zFr q H.size x.1 := fun k x hx => by
    have hl := (hP k x (hw k x hx)).lt
    refine ⟨hl, fun h => ?_⟩
    rcases h with h | h
    · have := hD.1 k ws.length x (q, e) (hw k x hx) atq h
      have h2 := (List.getElem?_eq_some_iff.mp hx).1
      omega
    · omega
  refine ⟨va_P.app (fun k x hx => ?_) hP1, va_D.app ⟨fun i j x y hi hj => hD.1 i j x y (hw i x hi) (hw j y hj), fun k x hx => hD.2 k x (hw k x hx)⟩ ⟨hD1.1, fun k x hx => ?_⟩ (fun i j x y hi hj hxy => ?_)⟩
  · obtain ⟨h1, h2⟩ := apart k x hx
    exact (hP k x (hw k x hx)).kept (hk x.1 h1 h2)
  · rcases hD1.2 k x hx with h | h
    · rw [h]
      exact hD.2 _ _ atq
    · exact hA _ h
  · exact (apart i x hi).2 (hxy ▸ hD1.2 j y hj)
section ZMK
variable {p : Program} {l : Launch} {e : Env} {R : Room} {s : State} {m : MethodId} {args : Array Value} {below : List Frame} {meth : Method} {c : Code} {H : Heap} {locs : List Loc} {cells slots : Nat} {Q : State → Prop}
variable {cc : ByteArray} {pc : Nat} {ls : Array Slot} {rest : List Value} {G : zG} {A : Nat → Prop} {nL : Nat} {Ts : List Cond} {own : String} {i1 i2 : Nat} {ws : va_W}
/-- new Network() -/
theorem z_mkN (S : CallFix p m c cc nL s args Ts own) (hin : ∀ w ∈ wsX10, w ∈ Ts) (hcl : (Cond.classLink own i1 RX1).before args s = true) (hinst : (Cond.instantiable RX1 11).before args s = true) (hini : (Cond.initialized RX1).before args s = true)
    (cw : CallB R s args own i2 yX1_init cX1_init 2 none wsX1_init ({ frames := 2, cells := 14, slots := 150, locals := 64 } : Room) 14 150 0 ∧ yX1_init.name = "<init>" ∧ (Cond.instanceMethod yX1_init).before args s = true)
    (hE : zEn A s s.heap) (hA : ∀ q, s.heap.size ≤ q → A q) (hK : zK G s) (hP : va_P G.1 vwCl ws H) (hD : va_D A ws) (hS : va_S A s.heap H locs) (hsz : ls.size = nL) (hrm : ∀ q : Nat, ((Value.ref q :: rest).map fun v => v.category).sum ≤ 8)
    (d1 : decode cc pc = .ok (.new i1, 3)) (d2 : decode cc (pc + 3) = .ok (.dup, 1)) (d3 : decode cc (pc + 4) = .ok (.invokespecial i2, 3)) (hc : cells + 15 ≤ R.cells) (hs : slots + 161 ≤ R.slots)
    (kk : ∀ (H1 : Heap) (locs1 : List Loc) (ad : Nat → Nat), va_P G.1 vwCl (ws ++ zNet G ad 0 zg0 zτ0) H1 → va_D A (ws ++ zNet G ad 0 zg0 zτ0) → va_S A s.heap H1 locs1 → W p l e R s m args below meth c H1 locs1 (cells + 15) (slots + 161) Q (F0 m (pc + 7) ls (.ref (ad 0) :: rest))) : W p l e R s m args below meth c H locs cells slots Q (F0 m pc ls rest) := by
  obtain ⟨hx, hb, hml, hown, hts⟩ := id S
  refine va_new (ci := 1) (C := RX1) (T := TX1) (N := 11) (fs := zO1) hx hb hts hin tyX1 tyX1_ok hown hcl hinst hini hK hP hD hS hA rfl (by decide) (by omega) (by omega) d1 (fun q H hP hD hS => ?_)
  refine lv_dup hx hb d2 rfl ?_
  have hq : (ws ++ [((q, .inr (1, zO1)) : Nat × va_E)])[ws.length]? = some (q, .inr (1, zO1)) := by simp
  have hql : q < H.size := (hP _ _ hq).lt
  have hA2 : ∀ r, zFr q H.size r → A r := fun r h => h.elim (fun h => h ▸ hD.2 _ _ hq) (fun h => hA r (Nat.le_trans hS.1 h))
  refine z_ic (As := []) (b := q) (rest := .ref q :: rest) S (k_X1_init l G q H.size) cw (z_preC ⟨rfl, hql, fun k x hk => ?_⟩ hK hE hS hA2) hS hA2 hsz rfl rfl (hrm q) d3 ⟨by omega, by omega⟩ (fun H1 locs1 hP1 hS1 hF => ?_)
  · have h1 : k < 1 := (List.getElem?_eq_some_iff.mp hk).1
    rw [show k = 0 by omega] at hk
    cases hk
    exact hP _ _ hq
  · obtain ⟨ad, rfl, hP2, hD2⟩ := hP1
    obtain ⟨hP3, hD3⟩ := zJoin hP hD hF.2 hP2 hD2 (fun r h => hA r (Nat.le_trans hS.1 h))
    exact kk H1 locs1 ad hP3 hD3 hS1
end ZMK
theorem in_X2_init_X2 : ∀ w ∈ wsX20, w ∈ wsX2_init := by decide +kernel
set_option maxHeartbeats 4000000 in
theorem k_X2_init (l : Launch) (G : zG) (a b : Nat) : zMv l G (fun q => q = a) yX2_init wsX2_init 1 13 [.ref a, .ref b] (va_P G.1 vwCl [(a, .inr (2, [.null]))]) (va_P G.1 vwCl [(a, .inr (2, [.ref b]))]) := by
  refine z_met (cc := cX2_init) (maxL := 2) (ret := none) (by decide) rfl (Nat.le_of_ble_eq_true rfl) ?_
  intro p e s m below meth c ls S hr hlk hnm hP hK hl
  have S : CallFix p m c cX2_init 2 s _ wsX2_init RX2 := S
  obtain ⟨hx, hb, hml, hown, hts⟩ := id S
  have hS : va_S (fun q => q = a) s.heap s.heap [] := va_S.rf
  have hD : va_D (fun q => q = a) [((a, .inr (2, [.null])) : Nat × va_E)] := ⟨fun i j p q hi hj _ => by
    have h1 : i < 1 := (List.getElem?_eq_some_iff.mp hi).1
    have h2 : j < 1 := (List.getElem?_eq_some_iff.mp hj).1
    omega, fun k q hk => by
    have h1 : k < 1 := (List.getElem?_eq_some_iff.mp hk).1
    rw [show k = 0 by omega] at hk
    cases hk
    rfl⟩
  have hl : lv_has ls 2 [(0, .ref a), (1, .ref b)] := hl
  refine lv_aload_n hx hb dX2_init_0 rfl (lv_at hl 0 rfl) ?_
  refine W.objInit hx hb hown (hts _ (List.mem_of_getElem? (i := 1) (by decide +kernel))) (hts _ (List.mem_of_getElem? (i := 2) (by decide +kernel))) (hts _ (List.mem_of_getElem? (i := 3) (by decide +kernel))) rfl (by rw [hml]; exact hl.1) rfl dX2_init_1 (Nat.le_of_ble_eq_true rfl) (Nat.le_of_ble_eq_true rfl) ?_
  refine W.eq (g2 := F0 m 4 ls []) rfl ?_
  refine lv_aload_n hx hb dX2_init_4 rfl (lv_at hl 0 rfl) ?_
  refine lv_aload_n hx hb dX2_init_5 rfl (lv_at hl 1 rfl) ?_
  refine va_putF (D := G.1) (ci := 2) (C := RX2) (T := TX2) (N := 1) hx hb hts in_X2_init_X2 tyX2 tyX2_ok nmX2 hown hK hP hD hS 0 (fs := [.null]) rfl rfl 0 (by decide) (hts _ (List.mem_of_getElem? (i := 4) (by decide +kernel))) (fun _ h => h) rfl hnm rfl (tyX2_ok 0 (by decide)) rfl rfl (by decide) dX2_init_6 (fun H locs hP hD hS => ?_)
  exact z_vret hx hb hr hlk hK hS hP dX2_init_9
/-- a history that is being made: k networks -/
def zHk (G : zG) (a b : Nat) (na : Nat → Nat → Nat) (k : Nat) : va_W := (a, .inr (0, [.ref b, .int 0])) :: (b, .inl (G.2.2.2.1, 6, .inr (.inr (.inr (.inr (fun i => if i < k then some (na i 0) else none)))))) :: (List.range k).flatMap (fun j => zNet G (na j) 0 zg0 zτ0)
theorem zHk_s (G : zG) (a b : Nat) (na : Nat → Nat → Nat) (k : Nat) (ad : Nat → Nat) : (zHk G a b na k ++ zNet G ad 0 zg0 zτ0).set 1 (b, .inl (G.2.2.2.1, 6, .inr (.inr (.inr (.inr (va_up (fun i => if i < k then some (na i 0) else none) k (some (ad 0)))))))) = zHk G a b (va_up na k ad) (k + 1) := by
  unfold zHk
  rw [List.range_succ, List.flatMap_append]
  have e : va_up (fun i => if i < k then some (na i 0) else none) k (some (ad 0)) = fun i => if i < k + 1 then some (va_up na k ad i 0) else none := by
    funext i
    by_cases h : i = k
    · subst h
      rw [va_up_self, if_pos (by omega), va_up_self]
    · rw [va_up_ne _ _ h, va_up_ne _ _ h]
      by_cases h2 : i < k
      · rw [if_pos h2, if_pos (by omega)]
      · rw [if_neg h2, if_neg (by omega)]
  have e2 : (List.range k).flatMap (fun j => zNet G (va_up na k ad j) 0 zg0 zτ0) = (List.range k).flatMap (fun j => zNet G (na j) 0 zg0 zτ0) := by
    rw [List.flatMap_def, List.flatMap_def]
    congr 1
    apply List.map_congr_left
    intro j hj
    rw [va_up_ne _ _ (by have := List.mem_range.mp hj; omega)]
  rw [e, e2]
  simp [va_up_self]
theorem in_X0_init_X0 : ∀ w ∈ wsX00, w ∈ wsX0_init := by decide +kernel
theorem in_X0_init_X1 : ∀ w ∈ wsX10, w ∈ wsX0_init := by decide +kernel
set_option maxHeartbeats 4000000 in
theorem k_X0_init (l : Launch) (G : zG) (a sz : Nat) : zMc l G (zFr a sz) yX0_init wsX0_init 3 90 91 972 [.ref a] (fun H => H.size = sz ∧ a < sz ∧ va_P G.1 vwCl [(a, .inr (0, [.null, .int 0]))] H) (fun H => ∃ (b : Nat) (na : Nat → Nat → Nat), va_P G.1 vwCl (zHk G a b na 6) H ∧ va_D (zFr a sz) (zHk G a b na 6)) := by
  refine z_metC (cc := cX0_init) (maxL := 2) (ret := none) (by decide) rfl (Nat.le_of_ble_eq_true rfl) ?_
  intro p e s m below meth c ls S hr hlk hnm hP hK hE hl
  have S : CallFix p m c cX0_init 2 s _ wsX0_init RX0 := S
  obtain ⟨hx, hb, hml, hown, hts⟩ := id S
  obtain ⟨rfl, hasz, hP⟩ := hP
  have hA : ∀ q : Nat, s.heap.size ≤ q → zFr a s.heap.size q := fun q h => Or.inr h
  have hD : va_D (zFr a s.heap.size) [((a, .inr (0, [.null, .int 0])) : Nat × va_E)] := ⟨fun i j p q hi hj _ => by
    have h1 : i < 1 := (List.getElem?_eq_some_iff.mp hi).1
    have h2 : j < 1 := (List.getElem?_eq_some_iff.mp hj).1
    omega, fun k q hk => by
    have h1 : k < 1 := (List.getElem?_eq_some_iff.mp hk).1
    rw [show k = 0 by omega] at hk
    cases hk
    exact Or.inl rfl⟩
  generalize hAe : zFr a s.heap.size = A at hA hD hE ⊢
  have hS : va_S A s.heap s.heap [] := va_S.rf
  have hl : lv_has ls 2 [(0, .ref a)] := hl
  refine lv_aload_n hx hb dX0_init_0 rfl (lv_at hl 0 rfl) ?_
  refine W.objInit hx hb hown (hts _ (List.mem_of_getElem? (i := 1) (by decide +kernel))) (hts _ (List.mem_of_getElem? (i := 2) (by decide +kernel))) (hts _ (List.mem_of_getElem? (i := 3) (by decide +kernel))) rfl (by rw [hml]; exact hl.1) rfl dX0_init_1 (Nat.le_of_ble_eq_true rfl) (Nat.le_of_ble_eq_true rfl) ?_
  refine W.eq (g2 := F0 m 4 ls []) rfl ?_
  refine lv_aload_n hx hb dX0_init_4 rfl (lv_at hl 0 rfl) ?_
  refine lv_bipush (v := 6) hx hb dX0_init_5 (by decide) ?_
  refine va_newq (C := RX1) (N' := 6) hx hb hown (hts _ (List.mem_of_getElem? (i := 4) (by decide +kernel))) hE.2.2.1 hK hP hD hS hA (by decide) (by decide) (Nat.le_of_ble_eq_true rfl) (Nat.le_of_ble_eq_true rfl) (Nat.le_of_ble_eq_true rfl) dX0_init_7 (fun b cA H hK2 hP hD hS => ?_)
  obtain rfl : cA = G.2.2.2.1 := zCA_o (zK_of hK2) (hK.2 2 _ rfl).2
  refine va_putF (D := G.1) (ci := 0) (C := RX0) (T := TX0) (N := 2) hx hb hts in_X0_init_X0 tyX0 tyX0_ok nmX0 hown hK hP hD hS 0 (fs := [.null, .int 0]) rfl rfl 0 (by decide) (hts _ (List.mem_of_getElem? (i := 5) (by decide +kernel))) (fun _ h => h) rfl hnm rfl (tyX0_ok 0 (by decide)) rfl rfl (by decide) dX0_init_10 (fun H locs hP hD hS => ?_)
  refine lv_iconst (v := 0) hx hb dX0_init_13 (by decide) ?_
  refine lv_istore_n (lv' := [(1, .int (nI 0)), (0, .ref a)]) hx hb dX0_init_14 rfl hl (by decide) rfl (fun ls hl => ?_)
  have loop1 : ∀ (f k : Nat) (H : Heap) (locs : List Loc) (ls : Array Slot) (na : Nat → Nat → Nat), k ≤ 6 → 6 < k + f → va_P G.1 vwCl (zHk G a b na k) H → va_D A (zHk G a b na k) → va_S A s.heap H locs → lv_has ls 2 [(1, .int (nI k)), (0, .ref a)] → W p l e ({ frames := 3, cells := 91, slots := 972, locals := 90 } : Room) s m ([.ref a] : List Value).toArray below meth c H locs (1 + 15 * k) (6 + 161 * k) (MQ below (zQv G (fun H => ∃ (b : Nat) (na : Nat → Nat → Nat), va_P G.1 vwCl (zHk G a b na 6) H ∧ va_D A (zHk G a b na 6)) A) ([.ref a] : List Value).toArray s 91 972 A) (F0 m 15 ls []) := by
    intro f
    induction f with
    | zero => intro k H locs ls na h1 h2; exact absurd h2 (by omega)
    | succ f ih =>
      intro k H locs ls na hk hf hP hD hS hl
      refine lv_iload_n hx hb dX0_init_15 rfl (lv_at hl 0 rfl) ?_
      refine lv_bipush (v := 6) hx hb dX0_init_16 (by decide) ?_
      refine lv_icmp_ge (tgt := 40) hx hb dX0_init_18 (by decide) (fun c1 => ?_) (fun c1 => ?_)
      · have c1 := (z_leI (a := 6) (b := k) (by omega) (by omega)).mp c1
        obtain rfl : k = 6 := by omega
        exact z_vret hx hb hr hlk hK hS ⟨b, na, hP, hD⟩ dX0_init_40
      · have c1 := (not_congr (z_leI (a := 6) (b := k) (by omega) (by omega))).mp c1
        refine lv_aload_n hx hb dX0_init_21 rfl (lv_at hl 1 rfl) ?_
        refine va_get (D := G.1) (ci := 0) (C := RX0) (T := TX0) (N := 2) (v := .ref b) (ws := zHk G a b na k) hx hb hts in_X0_init_X0 hown hK hP 0 rfl rfl 0 (by decide) (hts _ (List.mem_of_getElem? (i := 5) (by decide +kernel))) (fun _ h => h) rfl dX0_init_22 ?_
        refine lv_iload_n hx hb dX0_init_25 rfl (lv_at hl 0 rfl) ?_
        refine z_mkN S in_X0_init_X1 (hts _ (List.mem_of_getElem? (i := 4) (by decide +kernel))) (hts _ (List.mem_of_getElem? (i := 6) (by decide +kernel))) (hts _ (List.mem_of_getElem? (i := 7) (by decide +kernel))) (cwI 0 hts gX0_init_X1_init rfl rfl rfl (hts _ (List.mem_of_getElem? (i := 7) (by decide +kernel))) (hts _ (List.mem_of_getElem? (i := 8) (by decide +kernel))) (hts _ (List.mem_of_getElem? (i := 9) (by decide +kernel))) rfl (by decide +kernel) ⟨Nat.le_of_ble_eq_true rfl, Nat.le_of_ble_eq_true rfl⟩) hE hA hK hP hD hS hl.1 (fun _ => Nat.le_of_ble_eq_true rfl) dX0_init_26 dX0_init_29 dX0_init_30 (by show 1 + 15 * k + 15 ≤ 91; omega) (by show 6 + 161 * k + 161 ≤ 972; omega) (fun H locs ad hP hD hS => ?_)
        refine va_astq (r := (RX1, TX1, 11)) hx hb hK hP hD hS 1 2 (zHk G a b na k).length 1 (cA := G.2.2.2.1) (n := 6) (f := fun i => if i < k then some (na i 0) else none) (v := ad 0) (vs := zObj ad 0 zg0 zτ0) rfl rfl (by rw [List.getElem?_append_right (Nat.le_refl _), Nat.sub_self]; rfl) rfl (vp_in_nI (by omega) (by omega)) dX0_init_33 (fun H locs hP hD hS => ?_)
        refine lv_iinc (v := nI (k + 1)) (lv' := [(1, .int (nI (k + 1))), (0, .ref a)]) hx hb dX0_init_34 hl (k := 0) rfl (nI_1 _) (by decide) rfl (fun ls hl => ?_)
        refine lv_goto (tgt := 15) hx hb dX0_init_37 (by decide) ?_
        rw [nI_clamp (by omega)] at hP hD
        rw [zHk_s] at hP hD
        have hI := ih (k + 1) H locs ls _ (by omega) (by omega) hP hD hS hl
        rw [show 6 + 161 * (k + 1) = 6 + 161 * k + 161 by omega, show 1 + 15 * (k + 1) = 1 + 15 * k + 15 by omega] at hI
        exact hI
  exact loop1 7 0 _ _ _ (fun _ _ => 0) (by omega) (by omega) hP hD hS (lv_sub hl [0, 1] rfl)
end
section
/-! rows laid by my own program (wip/whole/gen) -/
theorem zAt {w1 w2 : va_W} (x : Nat × va_E) (k : Nat) (h : w2[k]? = some x) : (w1 ++ w2)[w1.length + k]? = some x := by
  rw [List.getElem?_append_right (by omega), Nat.add_sub_cancel_left]
  exact h
theorem zSetA {w1 w2 : va_W} {x y : Nat × va_E} : (w1 ++ (x :: w2)).set w1.length y = w1 ++ (y :: w2) := by simp
theorem zArrE (u v : Option Nat) : va_up (va_up (fun _ : Nat => (none : Option Nat)) 0 u) 1 v = fun i => if i = 0 then u else if i = 1 then v else none := by
  funext i
  unfold va_up
  by_cases h : i = 0
  · subst h
    simp
  · by_cases h1 : i = 1
    · subst h1
      simp
    · simp [h, h1]
theorem zOne {A : Nat → Prop} {a : Nat} {e : va_E} (h : A a) : va_D A [((a, e) : Nat × va_E)] := ⟨fun i j p q hi hj _ => by
    have h1 : i < 1 := (List.getElem?_eq_some_iff.mp hi).1
    have h2 : j < 1 := (List.getElem?_eq_some_iff.mp hj).1
    omega, fun k q hk => by
    have h1 : k < 1 := (List.getElem?_eq_some_iff.mp hk).1
    rw [show k = 0 by omega] at hk
    cases hk
    exact h⟩
theorem zOneP {G : zG} {ws : va_W} {q : Nat} {e : va_E} {H : Heap} (hP : va_P G.1 vwCl (ws ++ [(q, e)]) H) : va_P G.1 vwCl [(q, e)] H := fun k x hk => by
  have h1 : k < 1 := (List.getElem?_eq_some_iff.mp hk).1
  rw [show k = 0 by omega] at hk
  cases hk
  exact hP ws.length _ (by simp)
theorem zLast {ws : va_W} {q : Nat} {e : va_E} : (ws ++ [((q, e) : Nat × va_E)])[ws.length]? = some (q, e) := by simp
/-- the finished class's cells, in the order of their making -/
def zW4 (G : zG) (a : Nat) (ad bd : Nat → Nat) (p1 p2 h b s f : Nat) (na c0 c1 : Nat → Nat → Nat) : va_W := (a, .inr (4, [.ref (ad 0), .ref p1, .ref (bd 0), .ref p2, .ref h, .ref s, .ref f])) :: (zNet G ad 0 zg0 zτ0 ++ ((p1, .inr (2, [.ref (ad 0)])) :: (zNet G bd 0 zg0 zτ0 ++ ((p2, .inr (2, [.ref (bd 0)])) :: (zHk G h b na 6 ++ ((s, .inl (G.2.2.2.1, 2, .inr (.inr (.inr (.inr (fun i => if i = 0 then some (c0 0 0) else if i = 1 then some (c1 0 0) else none)))))) :: (zNet G (c0 0) 0 zg0 zτ0 ++ (zNet G (c1 0) 0 zg0 zτ0 ++ [(f, .inl (G.2.2.2.2, 2, .inl (fun _ => 0)))]))))))))
theorem in_X4_init_X4 : ∀ w ∈ wsX40, w ∈ wsX4_init := by decide +kernel
theorem in_X4_init_X1 : ∀ w ∈ wsX10, w ∈ wsX4_init := by decide +kernel
theorem in_X4_init_X2 : ∀ w ∈ wsX20, w ∈ wsX4_init := by decide +kernel
theorem in_X4_init_X0 : ∀ w ∈ wsX00, w ∈ wsX4_init := by decide +kernel
set_option maxHeartbeats 8000000 in
set_option maxRecDepth 100000 in
theorem k_X4_init (l : Launch) (G : zG) (a sz : Nat) : zMc l G (zFr a sz) yX4_init wsX4_init 4 120 156 1624 [.ref a] (fun H => H.size = sz ∧ a < sz ∧ va_P G.1 vwCl [(a, .inr (4, [.null, .null, .null, .null, .null, .null, .null]))] H) (fun H => ∃ (ad bd : Nat → Nat) (p1 p2 h b s f : Nat) (na c0 c1 : Nat → Nat → Nat), va_P G.1 vwCl (zW4 G a ad bd p1 p2 h b s f na c0 c1) H ∧ va_D (zFr a sz) (zW4 G a ad bd p1 p2 h b s f na c0 c1)) := by
  refine z_metC (cc := cX4_init) (maxL := 2) (ret := none) (by decide) rfl (Nat.le_of_ble_eq_true rfl) ?_
  intro p e s m below meth c ls S hr hlk hnm hP hK hE hl
  have S : CallFix p m c cX4_init 2 s _ wsX4_init RX4 := S
  obtain ⟨hx, hb, hml, hown, hts⟩ := id S
  obtain ⟨rfl, hasz, hP⟩ := hP
  have hA : ∀ q : Nat, s.heap.size ≤ q → zFr a s.heap.size q := fun q h => Or.inr h
  have hD : va_D (zFr a s.heap.size) [((a, .inr (4, [.null, .null, .null, .null, .null, .null, .null])) : Nat × va_E)] := zOne (Or.inl rfl)
  generalize hAe : zFr a s.heap.size = A at hA hD hE ⊢
  have hS : va_S A s.heap s.heap [] := va_S.rf
  have hl : lv_has ls 2 [(0, .ref a)] := hl
  refine lv_aload_n hx hb dX4_init_0 rfl (lv_at hl 0 rfl) ?_
  refine W.objInit hx hb hown (hts _ (List.mem_of_getElem? (i := 1) (by decide +kernel))) (hts _ (List.mem_of_getElem? (i := 2) (by decide +kernel))) (hts _ (List.mem_of_getElem? (i := 3) (by decide +kernel))) rfl (by rw [hml]; exact hl.1) rfl dX4_init_1 (Nat.le_of_ble_eq_true rfl) (Nat.le_of_ble_eq_true rfl) ?_
  refine W.eq (g2 := F0 m 4 ls []) rfl ?_
  refine lv_aload_n hx hb dX4_init_4 rfl (lv_at hl 0 rfl) ?_
  refine z_mkN (ws := ((a, .inr (4, [.null, .null, .null, .null, .null, .null, .null])) :: ([]))) S in_X4_init_X1 (hts _ (List.mem_of_getElem? (i := 4) (by decide +kernel))) (hts _ (List.mem_of_getElem? (i := 5) (by decide +kernel))) (hts _ (List.mem_of_getElem? (i := 6) (by decide +kernel))) (cwI 0 hts gX4_init_X1_init rfl rfl rfl (hts _ (List.mem_of_getElem? (i := 6) (by decide +kernel))) (hts _ (List.mem_of_getElem? (i := 21) (by decide +kernel))) (hts _ (List.mem_of_getElem? (i := 22) (by decide +kernel))) rfl (by decide +kernel) ⟨Nat.le_of_ble_eq_true rfl, Nat.le_of_ble_eq_true rfl⟩) hE hA hK hP hD hS hl.1 (fun _ => Nat.le_of_ble_eq_true rfl) dX4_init_5 dX4_init_8 dX4_init_9 (Nat.le_of_ble_eq_true rfl) (Nat.le_of_ble_eq_true rfl) (fun H locs ad hP hD hS => ?_)
  have hP : va_P G.1 vwCl ((a, .inr (4, [.null, .null, .null, .null, .null, .null, .null])) :: (zNet G ad 0 zg0 zτ0)) H := hP
  have hD : va_D A ((a, .inr (4, [.null, .null, .null, .null, .null, .null, .null])) :: (zNet G ad 0 zg0 zτ0)) := hD
  refine va_putF (D := G.1) (ci := 4) (C := RX4) (T := TX4) (N := 7) (ws := ((a, .inr (4, [.null, .null, .null, .null, .null, .null, .null])) :: (zNet G ad 0 zg0 zτ0))) hx hb hts in_X4_init_X4 tyX4 tyX4_ok nmX4 hown hK hP hD hS 0 (fs := [.null, .null, .null, .null, .null, .null, .null]) rfl rfl 0 (by decide) (hts _ (List.mem_of_getElem? (i := 7) (by decide +kernel))) (fun _ h => h) rfl hnm rfl (tyX4_ok 0 (by decide)) rfl rfl (by simp) dX4_init_12 (fun H locs hP hD hS => ?_)
  have hP : va_P G.1 vwCl ((a, .inr (4, [.ref (ad 0), .null, .null, .null, .null, .null, .null])) :: (zNet G ad 0 zg0 zτ0)) H := hP
  have hD : va_D A ((a, .inr (4, [.ref (ad 0), .null, .null, .null, .null, .null, .null])) :: (zNet G ad 0 zg0 zτ0)) := hD
  refine lv_aload_n hx hb dX4_init_15 rfl (lv_at hl 0 rfl) ?_
  refine va_new (ci := 2) (C := RX2) (T := TX2) (N := 1) (fs := [.null]) (ws := ((a, .inr (4, [.ref (ad 0), .null, .null, .null, .null, .null, .null])) :: (zNet G ad 0 zg0 zτ0))) hx hb hts in_X4_init_X2 tyX2 tyX2_ok hown (hts _ (List.mem_of_getElem? (i := 8) (by decide +kernel))) (hts _ (List.mem_of_getElem? (i := 9) (by decide +kernel))) (hts _ (List.mem_of_getElem? (i := 10) (by decide +kernel))) hK hP hD hS hA rfl (by decide) (Nat.le_of_ble_eq_true rfl) (Nat.le_of_ble_eq_true rfl) dX4_init_16 (fun p1 H hP hD hS => ?_)
  refine lv_dup hx hb dX4_init_19 rfl ?_
  refine lv_aload_n hx hb dX4_init_20 rfl (lv_at hl 0 rfl) ?_
  refine va_get (D := G.1) (ci := 4) (C := RX4) (T := TX4) (N := 7) (v := .ref (ad 0)) (fs := [.ref (ad 0), .null, .null, .null, .null, .null, .null]) (ws := ((a, .inr (4, [.ref (ad 0), .null, .null, .null, .null, .null, .null])) :: (zNet G ad 0 zg0 zτ0)) ++ [(p1, .inr (2, [.null]))]) hx hb hts in_X4_init_X4 hown hK hP 0 rfl rfl 0 (by decide) (hts _ (List.mem_of_getElem? (i := 7) (by decide +kernel))) (fun _ h => h) rfl dX4_init_21 ?_
  refine z_ic (As := [.ref (ad 0)]) (b := p1) (rest := [.ref p1, .ref a]) S (k_X2_init l G p1 _) (cwI 1 hts gX4_init_X2_init rfl rfl rfl (hts _ (List.mem_of_getElem? (i := 10) (by decide +kernel))) (hts _ (List.mem_of_getElem? (i := 42) (by decide +kernel))) (hts _ (List.mem_of_getElem? (i := 43) (by decide +kernel))) rfl (by decide +kernel) ⟨Nat.le_of_ble_eq_true rfl, Nat.le_of_ble_eq_true rfl⟩) (z_preP (zOneP hP) hK) hS (fun r h => h ▸ hD.2 _ _ zLast) hl.1 rfl rfl (Nat.le_of_ble_eq_true rfl) dX4_init_24 ⟨Nat.le_of_ble_eq_true rfl, Nat.le_of_ble_eq_true rfl⟩ (fun H1 locs hP1 hS1 hF => ?_)
  obtain ⟨hP, hD⟩ := zJoin hP hD (fun r h1 h2 => hF.2 r h1 (fun e => h2 (Or.inl e))) hP1 (zOne (Or.inl rfl)) (fun r h => hA r (Nat.le_trans hS.1 h))
  clear hS hF hP1
  have hS := hS1
  clear hS1
  generalize H1 = H at hP hS ⊢
  have hP : va_P G.1 vwCl ((a, .inr (4, [.ref (ad 0), .null, .null, .null, .null, .null, .null])) :: (zNet G ad 0 zg0 zτ0 ++ [((p1, .inr (2, [.ref (ad 0)])) : Nat × va_E)])) H := hP
  have hD : va_D A ((a, .inr (4, [.ref (ad 0), .null, .null, .null, .null, .null, .null])) :: (zNet G ad 0 zg0 zτ0 ++ [((p1, .inr (2, [.ref (ad 0)])) : Nat × va_E)])) := hD
  refine va_putF (D := G.1) (ci := 4) (C := RX4) (T := TX4) (N := 7) (ws := ((a, .inr (4, [.ref (ad 0), .null, .null, .null, .null, .null, .null])) :: (zNet G ad 0 zg0 zτ0 ++ [((p1, .inr (2, [.ref (ad 0)])) : Nat × va_E)]))) hx hb hts in_X4_init_X4 tyX4 tyX4_ok nmX4 hown hK hP hD hS 0 (fs := [.ref (ad 0), .null, .null, .null, .null, .null, .null]) rfl rfl 1 (by decide) (hts _ (List.mem_of_getElem? (i := 11) (by decide +kernel))) (fun _ h => h) rfl hnm rfl (tyX4_ok 1 (by decide)) rfl rfl (by simp) dX4_init_27 (fun H locs hP hD hS => ?_)
  have hP : va_P G.1 vwCl ((a, .inr (4, [.ref (ad 0), .ref p1, .null, .null, .null, .null, .null])) :: (zNet G ad 0 zg0 zτ0 ++ [((p1, .inr (2, [.ref (ad 0)])) : Nat × va_E)])) H := hP
  have hD : va_D A ((a, .inr (4, [.ref (ad 0), .ref p1, .null, .null, .null, .null, .null])) :: (zNet G ad 0 zg0 zτ0 ++ [((p1, .inr (2, [.ref (ad 0)])) : Nat × va_E)])) := hD
  refine lv_aload_n hx hb dX4_init_30 rfl (lv_at hl 0 rfl) ?_
  refine z_mkN (ws := ((a, .inr (4, [.ref (ad 0), .ref p1, .null, .null, .null, .null, .null])) :: (zNet G ad 0 zg0 zτ0 ++ [((p1, .inr (2, [.ref (ad 0)])) : Nat × va_E)]))) S in_X4_init_X1 (hts _ (List.mem_of_getElem? (i := 4) (by decide +kernel))) (hts _ (List.mem_of_getElem? (i := 5) (by decide +kernel))) (hts _ (List.mem_of_getElem? (i := 6) (by decide +kernel))) (cwI 0 hts gX4_init_X1_init rfl rfl rfl (hts _ (List.mem_of_getElem? (i := 6) (by decide +kernel))) (hts _ (List.mem_of_getElem? (i := 21) (by decide +kernel))) (hts _ (List.mem_of_getElem? (i := 22) (by decide +kernel))) rfl (by decide +kernel) ⟨Nat.le_of_ble_eq_true rfl, Nat.le_of_ble_eq_true rfl⟩) hE hA hK hP hD hS hl.1 (fun _ => Nat.le_of_ble_eq_true rfl) dX4_init_31 dX4_init_34 dX4_init_35 (Nat.le_of_ble_eq_true rfl) (Nat.le_of_ble_eq_true rfl) (fun H locs bd hP hD hS => ?_)
  have hP : va_P G.1 vwCl ((a, .inr (4, [.ref (ad 0), .ref p1, .null, .null, .null, .null, .null])) :: (zNet G ad 0 zg0 zτ0 ++ [((p1, .inr (2, [.ref (ad 0)])) : Nat × va_E)] ++ zNet G bd 0 zg0 zτ0)) H := hP
  have hD : va_D A ((a, .inr (4, [.ref (ad 0), .ref p1, .null, .null, .null, .null, .null])) :: (zNet G ad 0 zg0 zτ0 ++ [((p1, .inr (2, [.ref (ad 0)])) : Nat × va_E)] ++ zNet G bd 0 zg0 zτ0)) := hD
  refine va_putF (D := G.1) (ci := 4) (C := RX4) (T := TX4) (N := 7) (ws := ((a, .inr (4, [.ref (ad 0), .ref p1, .null, .null, .null, .null, .null])) :: (zNet G ad 0 zg0 zτ0 ++ [((p1, .inr (2, [.ref (ad 0)])) : Nat × va_E)] ++ zNet G bd 0 zg0 zτ0))) hx hb hts in_X4_init_X4 tyX4 tyX4_ok nmX4 hown hK hP hD hS 0 (fs := [.ref (ad 0), .ref p1, .null, .null, .null, .null, .null]) rfl rfl 2 (by decide) (hts _ (List.mem_of_getElem? (i := 12) (by decide +kernel))) (fun _ h => h) rfl hnm rfl (tyX4_ok 2 (by decide)) rfl rfl (by simp) dX4_init_38 (fun H locs hP hD hS => ?_)
  have hP : va_P G.1 vwCl ((a, .inr (4, [.ref (ad 0), .ref p1, .ref (bd 0), .null, .null, .null, .null])) :: (zNet G ad 0 zg0 zτ0 ++ [((p1, .inr (2, [.ref (ad 0)])) : Nat × va_E)] ++ zNet G bd 0 zg0 zτ0)) H := hP
  have hD : va_D A ((a, .inr (4, [.ref (ad 0), .ref p1, .ref (bd 0), .null, .null, .null, .null])) :: (zNet G ad 0 zg0 zτ0 ++ [((p1, .inr (2, [.ref (ad 0)])) : Nat × va_E)] ++ zNet G bd 0 zg0 zτ0)) := hD
  refine lv_aload_n hx hb dX4_init_41 rfl (lv_at hl 0 rfl) ?_
  refine va_new (ci := 2) (C := RX2) (T := TX2) (N := 1) (fs := [.null]) (ws := ((a, .inr (4, [.ref (ad 0), .ref p1, .ref (bd 0), .null, .null, .null, .null])) :: (zNet G ad 0 zg0 zτ0 ++ [((p1, .inr (2, [.ref (ad 0)])) : Nat × va_E)] ++ zNet G bd 0 zg0 zτ0))) hx hb hts in_X4_init_X2 tyX2 tyX2_ok hown (hts _ (List.mem_of_getElem? (i := 8) (by decide +kernel))) (hts _ (List.mem_of_getElem? (i := 9) (by decide +kernel))) (hts _ (List.mem_of_getElem? (i := 10) (by decide +kernel))) hK hP hD hS hA rfl (by decide) (Nat.le_of_ble_eq_true rfl) (Nat.le_of_ble_eq_true rfl) dX4_init_42 (fun p2 H hP hD hS => ?_)
  refine lv_dup hx hb dX4_init_45 rfl ?_
  refine lv_aload_n hx hb dX4_init_46 rfl (lv_at hl 0 rfl) ?_
  refine va_get (D := G.1) (ci := 4) (C := RX4) (T := TX4) (N := 7) (v := .ref (bd 0)) (fs := [.ref (ad 0), .ref p1, .ref (bd 0), .null, .null, .null, .null]) (ws := ((a, .inr (4, [.ref (ad 0), .ref p1, .ref (bd 0), .null, .null, .null, .null])) :: (zNet G ad 0 zg0 zτ0 ++ [((p1, .inr (2, [.ref (ad 0)])) : Nat × va_E)] ++ zNet G bd 0 zg0 zτ0)) ++ [(p2, .inr (2, [.null]))]) hx hb hts in_X4_init_X4 hown hK hP 0 rfl rfl 2 (by decide) (hts _ (List.mem_of_getElem? (i := 12) (by decide +kernel))) (fun _ h => h) rfl dX4_init_47 ?_
  refine z_ic (As := [.ref (bd 0)]) (b := p2) (rest := [.ref p2, .ref a]) S (k_X2_init l G p2 _) (cwI 1 hts gX4_init_X2_init rfl rfl rfl (hts _ (List.mem_of_getElem? (i := 10) (by decide +kernel))) (hts _ (List.mem_of_getElem? (i := 42) (by decide +kernel))) (hts _ (List.mem_of_getElem? (i := 43) (by decide +kernel))) rfl (by decide +kernel) ⟨Nat.le_of_ble_eq_true rfl, Nat.le_of_ble_eq_true rfl⟩) (z_preP (zOneP hP) hK) hS (fun r h => h ▸ hD.2 _ _ zLast) hl.1 rfl rfl (Nat.le_of_ble_eq_true rfl) dX4_init_50 ⟨Nat.le_of_ble_eq_true rfl, Nat.le_of_ble_eq_true rfl⟩ (fun H1 locs hP1 hS1 hF => ?_)
  obtain ⟨hP, hD⟩ := zJoin hP hD (fun r h1 h2 => hF.2 r h1 (fun e => h2 (Or.inl e))) hP1 (zOne (Or.inl rfl)) (fun r h => hA r (Nat.le_trans hS.1 h))
  clear hS hF hP1
  have hS := hS1
  clear hS1
  generalize H1 = H at hP hS ⊢
  have hP : va_P G.1 vwCl ((a, .inr (4, [.ref (ad 0), .ref p1, .ref (bd 0), .null, .null, .null, .null])) :: (zNet G ad 0 zg0 zτ0 ++ [((p1, .inr (2, [.ref (ad 0)])) : Nat × va_E)] ++ zNet G bd 0 zg0 zτ0 ++ [((p2, .inr (2, [.ref (bd 0)])) : Nat × va_E)])) H := hP
  have hD : va_D A ((a, .inr (4, [.ref (ad 0), .ref p1, .ref (bd 0), .null, .null, .null, .null])) :: (zNet G ad 0 zg0 zτ0 ++ [((p1, .inr (2, [.ref (ad 0)])) : Nat × va_E)] ++ zNet G bd 0 zg0 zτ0 ++ [((p2, .inr (2, [.ref (bd 0)])) : Nat × va_E)])) := hD
  refine va_putF (D := G.1) (ci := 4) (C := RX4) (T := TX4) (N := 7) (ws := ((a, .inr (4, [.ref (ad 0), .ref p1, .ref (bd 0), .null, .null, .null, .null])) :: (zNet G ad 0 zg0 zτ0 ++ [((p1, .inr (2, [.ref (ad 0)])) : Nat × va_E)] ++ zNet G bd 0 zg0 zτ0 ++ [((p2, .inr (2, [.ref (bd 0)])) : Nat × va_E)]))) hx hb hts in_X4_init_X4 tyX4 tyX4_ok nmX4 hown hK hP hD hS 0 (fs := [.ref (ad 0), .ref p1, .ref (bd 0), .null, .null, .null, .null]) rfl rfl 3 (by decide) (hts _ (List.mem_of_getElem? (i := 13) (by decide +kernel))) (fun _ h => h) rfl hnm rfl (tyX4_ok 3 (by decide)) rfl rfl (by simp) dX4_init_53 (fun H locs hP hD hS => ?_)
  have hP : va_P G.1 vwCl ((a, .inr (4, [.ref (ad 0), .ref p1, .ref (bd 0), .ref p2, .null, .null, .null])) :: (zNet G ad 0 zg0 zτ0 ++ [((p1, .inr (2, [.ref (ad 0)])) : Nat × va_E)] ++ zNet G bd 0 zg0 zτ0 ++ [((p2, .inr (2, [.ref (bd 0)])) : Nat × va_E)])) H := hP
  have hD : va_D A ((a, .inr (4, [.ref (ad 0), .ref p1, .ref (bd 0), .ref p2, .null, .null, .null])) :: (zNet G ad 0 zg0 zτ0 ++ [((p1, .inr (2, [.ref (ad 0)])) : Nat × va_E)] ++ zNet G bd 0 zg0 zτ0 ++ [((p2, .inr (2, [.ref (bd 0)])) : Nat × va_E)])) := hD
  refine lv_aload_n hx hb dX4_init_56 rfl (lv_at hl 0 rfl) ?_
  refine va_new (ci := 0) (C := RX0) (T := TX0) (N := 2) (fs := [.null, .int 0]) (ws := ((a, .inr (4, [.ref (ad 0), .ref p1, .ref (bd 0), .ref p2, .null, .null, .null])) :: (zNet G ad 0 zg0 zτ0 ++ [((p1, .inr (2, [.ref (ad 0)])) : Nat × va_E)] ++ zNet G bd 0 zg0 zτ0 ++ [((p2, .inr (2, [.ref (bd 0)])) : Nat × va_E)]))) hx hb hts in_X4_init_X0 tyX0 tyX0_ok hown (hts _ (List.mem_of_getElem? (i := 14) (by decide +kernel))) (hts _ (List.mem_of_getElem? (i := 15) (by decide +kernel))) (hts _ (List.mem_of_getElem? (i := 16) (by decide +kernel))) hK hP hD hS hA rfl (by decide) (Nat.le_of_ble_eq_true rfl) (Nat.le_of_ble_eq_true rfl) dX4_init_57 (fun h H hP hD hS => ?_)
  refine lv_dup hx hb dX4_init_60 rfl ?_
  have hA2 : ∀ r, zFr h H.size r → A r := fun r z => z.elim (fun z => z ▸ hD.2 _ _ zLast) (fun z => hA r (Nat.le_trans hS.1 z))
  refine z_ic (As := []) (b := h) (rest := [.ref h, .ref a]) S (k_X0_init l G h H.size) (cwI 0 hts gX4_init_X0_init rfl rfl rfl (hts _ (List.mem_of_getElem? (i := 16) (by decide +kernel))) (hts _ (List.mem_of_getElem? (i := 47) (by decide +kernel))) (hts _ (List.mem_of_getElem? (i := 48) (by decide +kernel))) rfl (by decide +kernel) ⟨Nat.le_of_ble_eq_true rfl, Nat.le_of_ble_eq_true rfl⟩) (z_preC ⟨rfl, (hP _ _ zLast).lt, zOneP hP⟩ hK hE hS hA2) hS hA2 hl.1 rfl rfl (Nat.le_of_ble_eq_true rfl) dX4_init_61 ⟨Nat.le_of_ble_eq_true rfl, Nat.le_of_ble_eq_true rfl⟩ (fun H1 locs hP1 hS1 hF => ?_)
  obtain ⟨b, na, hP2, hD2⟩ := hP1
  obtain ⟨hP, hD⟩ := zJoin hP hD hF.2 hP2 hD2 (fun r z => hA r (Nat.le_trans hS.1 z))
  clear hS hF hP2 hD2 hA2
  have hS := hS1
  clear hS1
  generalize H1 = H at hP hS ⊢
  have hP : va_P G.1 vwCl ((a, .inr (4, [.ref (ad 0), .ref p1, .ref (bd 0), .ref p2, .null, .null, .null])) :: (zNet G ad 0 zg0 zτ0 ++ [((p1, .inr (2, [.ref (ad 0)])) : Nat × va_E)] ++ zNet G bd 0 zg0 zτ0 ++ [((p2, .inr (2, [.ref (bd 0)])) : Nat × va_E)] ++ zHk G h b na 6)) H := hP
  have hD : va_D A ((a, .inr (4, [.ref (ad 0), .ref p1, .ref (bd 0), .ref p2, .null, .null, .null])) :: (zNet G ad 0 zg0 zτ0 ++ [((p1, .inr (2, [.ref (ad 0)])) : Nat × va_E)] ++ zNet G bd 0 zg0 zτ0 ++ [((p2, .inr (2, [.ref (bd 0)])) : Nat × va_E)] ++ zHk G h b na 6)) := hD
  refine va_putF (D := G.1) (ci := 4) (C := RX4) (T := TX4) (N := 7) (ws := ((a, .inr (4, [.ref (ad 0), .ref p1, .ref (bd 0), .ref p2, .null, .null, .null])) :: (zNet G ad 0 zg0 zτ0 ++ [((p1, .inr (2, [.ref (ad 0)])) : Nat × va_E)] ++ zNet G bd 0 zg0 zτ0 ++ [((p2, .inr (2, [.ref (bd 0)])) : Nat × va_E)] ++ zHk G h b na 6))) hx hb hts in_X4_init_X4 tyX4 tyX4_ok nmX4 hown hK hP hD hS 0 (fs := [.ref (ad 0), .ref p1, .ref (bd 0), .ref p2, .null, .null, .null]) rfl rfl 4 (by decide) (hts _ (List.mem_of_getElem? (i := 17) (by decide +kernel))) (fun _ h => h) rfl hnm rfl (tyX4_ok 4 (by decide)) rfl rfl (by simp) dX4_init_64 (fun H locs hP hD hS => ?_)
  have hP : va_P G.1 vwCl ((a, .inr (4, [.ref (ad 0), .ref p1, .ref (bd 0), .ref p2, .ref h, .null, .null])) :: (zNet G ad 0 zg0 zτ0 ++ [((p1, .inr (2, [.ref (ad 0)])) : Nat × va_E)] ++ zNet G bd 0 zg0 zτ0 ++ [((p2, .inr (2, [.ref (bd 0)])) : Nat × va_E)] ++ zHk G h b na 6)) H := hP
  have hD : va_D A ((a, .inr (4, [.ref (ad 0), .ref p1, .ref (bd 0), .ref p2, .ref h, .null, .null])) :: (zNet G ad 0 zg0 zτ0 ++ [((p1, .inr (2, [.ref (ad 0)])) : Nat × va_E)] ++ zNet G bd 0 zg0 zτ0 ++ [((p2, .inr (2, [.ref (bd 0)])) : Nat × va_E)] ++ zHk G h b na 6)) := hD
  refine lv_aload_n hx hb dX4_init_67 rfl (lv_at hl 0 rfl) ?_
  refine lv_iconst (v := 2) hx hb dX4_init_68 (by decide) ?_
  refine va_newq (C := RX1) (N' := 2) (ws := ((a, .inr (4, [.ref (ad 0), .ref p1, .ref (bd 0), .ref p2, .ref h, .null, .null])) :: (zNet G ad 0 zg0 zτ0 ++ [((p1, .inr (2, [.ref (ad 0)])) : Nat × va_E)] ++ zNet G bd 0 zg0 zτ0 ++ [((p2, .inr (2, [.ref (bd 0)])) : Nat × va_E)] ++ zHk G h b na 6))) hx hb hown (hts _ (List.mem_of_getElem? (i := 4) (by decide +kernel))) hE.2.2.1 hK hP hD hS hA (by decide) (by decide) (Nat.le_of_ble_eq_true rfl) (Nat.le_of_ble_eq_true rfl) (Nat.le_of_ble_eq_true rfl) dX4_init_69 (fun sa cA H hK2 hP hD hS => ?_)
  obtain rfl : cA = G.2.2.2.1 := zCA_o (zK_of hK2) (hK.2 2 _ rfl).2
  have hP : va_P G.1 vwCl ((a, .inr (4, [.ref (ad 0), .ref p1, .ref (bd 0), .ref p2, .ref h, .null, .null])) :: (zNet G ad 0 zg0 zτ0 ++ [((p1, .inr (2, [.ref (ad 0)])) : Nat × va_E)] ++ zNet G bd 0 zg0 zτ0 ++ [((p2, .inr (2, [.ref (bd 0)])) : Nat × va_E)] ++ zHk G h b na 6 ++ [((sa, .inl (G.2.2.2.1, 2, .inr (.inr (.inr (.inr (fun _ => none)))))) : Nat × va_E)])) H := hP
  have hD : va_D A ((a, .inr (4, [.ref (ad 0), .ref p1, .ref (bd 0), .ref p2, .ref h, .null, .null])) :: (zNet G ad 0 zg0 zτ0 ++ [((p1, .inr (2, [.ref (ad 0)])) : Nat × va_E)] ++ zNet G bd 0 zg0 zτ0 ++ [((p2, .inr (2, [.ref (bd 0)])) : Nat × va_E)] ++ zHk G h b na 6 ++ [((sa, .inl (G.2.2.2.1, 2, .inr (.inr (.inr (.inr (fun _ => none)))))) : Nat × va_E)])) := hD
  refine va_putF (D := G.1) (ci := 4) (C := RX4) (T := TX4) (N := 7) (ws := ((a, .inr (4, [.ref (ad 0), .ref p1, .ref (bd 0), .ref p2, .ref h, .null, .null])) :: (zNet G ad 0 zg0 zτ0 ++ [((p1, .inr (2, [.ref (ad 0)])) : Nat × va_E)] ++ zNet G bd 0 zg0 zτ0 ++ [((p2, .inr (2, [.ref (bd 0)])) : Nat × va_E)] ++ zHk G h b na 6 ++ [((sa, .inl (G.2.2.2.1, 2, .inr (.inr (.inr (.inr (fun _ => none)))))) : Nat × va_E)]))) hx hb hts in_X4_init_X4 tyX4 tyX4_ok nmX4 hown hK hP hD hS 0 (fs := [.ref (ad 0), .ref p1, .ref (bd 0), .ref p2, .ref h, .null, .null]) rfl rfl 5 (by decide) (hts _ (List.mem_of_getElem? (i := 18) (by decide +kernel))) (fun _ h => h) rfl hnm rfl (tyX4_ok 5 (by decide)) rfl rfl (by simp) dX4_init_72 (fun H locs hP hD hS => ?_)
  have hP : va_P G.1 vwCl ((a, .inr (4, [.ref (ad 0), .ref p1, .ref (bd 0), .ref p2, .ref h, .ref sa, .null])) :: (zNet G ad 0 zg0 zτ0 ++ [((p1, .inr (2, [.ref (ad 0)])) : Nat × va_E)] ++ zNet G bd 0 zg0 zτ0 ++ [((p2, .inr (2, [.ref (bd 0)])) : Nat × va_E)] ++ zHk G h b na 6 ++ [((sa, .inl (G.2.2.2.1, 2, .inr (.inr (.inr (.inr (fun _ => none)))))) : Nat × va_E)])) H := hP
  have hD : va_D A ((a, .inr (4, [.ref (ad 0), .ref p1, .ref (bd 0), .ref p2, .ref h, .ref sa, .null])) :: (zNet G ad 0 zg0 zτ0 ++ [((p1, .inr (2, [.ref (ad 0)])) : Nat × va_E)] ++ zNet G bd 0 zg0 zτ0 ++ [((p2, .inr (2, [.ref (bd 0)])) : Nat × va_E)] ++ zHk G h b na 6 ++ [((sa, .inl (G.2.2.2.1, 2, .inr (.inr (.inr (.inr (fun _ => none)))))) : Nat × va_E)])) := hD
  refine lv_iconst (v := 0) hx hb dX4_init_75 (by decide) ?_
  refine lv_istore_n (lv' := [(1, .int 0), (0, .ref a)]) hx hb dX4_init_76 rfl hl (by decide) rfl (fun ls hl => ?_)
  refine lv_iload_n hx hb dX4_init_77 rfl (lv_at hl 0 rfl) ?_
  refine lv_iconst (v := 2) hx hb dX4_init_78 (by decide) ?_
  refine lv_icmp_ge (tgt := 101) hx hb dX4_init_79 (by decide) (fun q => absurd q (by decide)) (fun _ => ?_)
  refine lv_aload_n hx hb dX4_init_82 rfl (lv_at hl 1 rfl) ?_
  refine va_get (D := G.1) (ci := 4) (C := RX4) (T := TX4) (N := 7) (v := .ref sa) (ws := ((a, .inr (4, [.ref (ad 0), .ref p1, .ref (bd 0), .ref p2, .ref h, .ref sa, .null])) :: (zNet G ad 0 zg0 zτ0 ++ [((p1, .inr (2, [.ref (ad 0)])) : Nat × va_E)] ++ zNet G bd 0 zg0 zτ0 ++ [((p2, .inr (2, [.ref (bd 0)])) : Nat × va_E)] ++ zHk G h b na 6 ++ [((sa, .inl (G.2.2.2.1, 2, .inr (.inr (.inr (.inr (fun _ => none)))))) : Nat × va_E)]))) hx hb hts in_X4_init_X4 hown hK hP 0 rfl rfl 5 (by decide) (hts _ (List.mem_of_getElem? (i := 18) (by decide +kernel))) (fun _ h => h) rfl dX4_init_83 ?_
  refine lv_iload_n hx hb dX4_init_86 rfl (lv_at hl 0 rfl) ?_
  refine z_mkN (ws := ((a, .inr (4, [.ref (ad 0), .ref p1, .ref (bd 0), .ref p2, .ref h, .ref sa, .null])) :: (zNet G ad 0 zg0 zτ0 ++ [((p1, .inr (2, [.ref (ad 0)])) : Nat × va_E)] ++ zNet G bd 0 zg0 zτ0 ++ [((p2, .inr (2, [.ref (bd 0)])) : Nat × va_E)] ++ zHk G h b na 6 ++ [((sa, .inl (G.2.2.2.1, 2, .inr (.inr (.inr (.inr (fun _ => none)))))) : Nat × va_E)]))) S in_X4_init_X1 (hts _ (List.mem_of_getElem? (i := 4) (by decide +kernel))) (hts _ (List.mem_of_getElem? (i := 5) (by decide +kernel))) (hts _ (List.mem_of_getElem? (i := 6) (by decide +kernel))) (cwI 0 hts gX4_init_X1_init rfl rfl rfl (hts _ (List.mem_of_getElem? (i := 6) (by decide +kernel))) (hts _ (List.mem_of_getElem? (i := 21) (by decide +kernel))) (hts _ (List.mem_of_getElem? (i := 22) (by decide +kernel))) rfl (by decide +kernel) ⟨Nat.le_of_ble_eq_true rfl, Nat.le_of_ble_eq_true rfl⟩) hE hA hK hP hD hS hl.1 (fun _ => Nat.le_of_ble_eq_true rfl) dX4_init_87 dX4_init_90 dX4_init_91 (Nat.le_of_ble_eq_true rfl) (Nat.le_of_ble_eq_true rfl) (fun H locs c0 hP hD hS => ?_)
  have hP : va_P G.1 vwCl (((a, .inr (4, [.ref (ad 0), .ref p1, .ref (bd 0), .ref p2, .ref h, .ref sa, .null])) :: (zNet G ad 0 zg0 zτ0 ++ [((p1, .inr (2, [.ref (ad 0)])) : Nat × va_E)] ++ zNet G bd 0 zg0 zτ0 ++ [((p2, .inr (2, [.ref (bd 0)])) : Nat × va_E)] ++ zHk G h b na 6)) ++ (((sa, .inl (G.2.2.2.1, 2, .inr (.inr (.inr (.inr (fun _ => none)))))) : Nat × va_E) :: (zNet G c0 0 zg0 zτ0)) : va_W) H := by first | exact hP | simpa only [List.append_assoc, List.cons_append, List.nil_append] using hP
  have hD : va_D A (((a, .inr (4, [.ref (ad 0), .ref p1, .ref (bd 0), .ref p2, .ref h, .ref sa, .null])) :: (zNet G ad 0 zg0 zτ0 ++ [((p1, .inr (2, [.ref (ad 0)])) : Nat × va_E)] ++ zNet G bd 0 zg0 zτ0 ++ [((p2, .inr (2, [.ref (bd 0)])) : Nat × va_E)] ++ zHk G h b na 6)) ++ (((sa, .inl (G.2.2.2.1, 2, .inr (.inr (.inr (.inr (fun _ => none)))))) : Nat × va_E) :: (zNet G c0 0 zg0 zτ0)) : va_W) := by first | exact hD | simpa only [List.append_assoc, List.cons_append, List.nil_append] using hD
  refine va_astq (r := (RX1, TX1, 11)) hx hb hK hP hD hS (((a, .inr (4, [.ref (ad 0), .ref p1, .ref (bd 0), .ref p2, .ref h, .ref sa, .null])) :: (zNet G ad 0 zg0 zτ0 ++ [((p1, .inr (2, [.ref (ad 0)])) : Nat × va_E)] ++ zNet G bd 0 zg0 zτ0 ++ [((p2, .inr (2, [.ref (bd 0)])) : Nat × va_E)] ++ zHk G h b na 6) : va_W)).length 2 ((((a, .inr (4, [.ref (ad 0), .ref p1, .ref (bd 0), .ref p2, .ref h, .ref sa, .null])) :: (zNet G ad 0 zg0 zτ0 ++ [((p1, .inr (2, [.ref (ad 0)])) : Nat × va_E)] ++ zNet G bd 0 zg0 zτ0 ++ [((p2, .inr (2, [.ref (bd 0)])) : Nat × va_E)] ++ zHk G h b na 6) : va_W)).length + 1) 1 (cA := G.2.2.2.1) (n := 2) (f := fun _ => none) (v := c0 0) (vs := zObj c0 0 zg0 zτ0) (zAt _ 0 rfl) rfl (zAt _ 1 rfl) rfl (by unfold vp_in; decide) dX4_init_94 (fun H locs hP hD hS => ?_)
  rw [zSetA] at hP hD
  have hP : va_P G.1 vwCl (((a, .inr (4, [.ref (ad 0), .ref p1, .ref (bd 0), .ref p2, .ref h, .ref sa, .null])) :: (zNet G ad 0 zg0 zτ0 ++ [((p1, .inr (2, [.ref (ad 0)])) : Nat × va_E)] ++ zNet G bd 0 zg0 zτ0 ++ [((p2, .inr (2, [.ref (bd 0)])) : Nat × va_E)] ++ zHk G h b na 6)) ++ (((sa, .inl (G.2.2.2.1, 2, .inr (.inr (.inr (.inr (va_up (fun _ => none) 0 (some (c0 0)))))))) : Nat × va_E) :: (zNet G c0 0 zg0 zτ0)) : va_W) H := hP
  have hD : va_D A (((a, .inr (4, [.ref (ad 0), .ref p1, .ref (bd 0), .ref p2, .ref h, .ref sa, .null])) :: (zNet G ad 0 zg0 zτ0 ++ [((p1, .inr (2, [.ref (ad 0)])) : Nat × va_E)] ++ zNet G bd 0 zg0 zτ0 ++ [((p2, .inr (2, [.ref (bd 0)])) : Nat × va_E)] ++ zHk G h b na 6)) ++ (((sa, .inl (G.2.2.2.1, 2, .inr (.inr (.inr (.inr (va_up (fun _ => none) 0 (some (c0 0)))))))) : Nat × va_E) :: (zNet G c0 0 zg0 zτ0)) : va_W) := hD
  have hP : va_P G.1 vwCl ((a, .inr (4, [.ref (ad 0), .ref p1, .ref (bd 0), .ref p2, .ref h, .ref sa, .null])) :: ((zNet G ad 0 zg0 zτ0 ++ [((p1, .inr (2, [.ref (ad 0)])) : Nat × va_E)] ++ zNet G bd 0 zg0 zτ0 ++ [((p2, .inr (2, [.ref (bd 0)])) : Nat × va_E)] ++ zHk G h b na 6) ++ (((sa, .inl (G.2.2.2.1, 2, .inr (.inr (.inr (.inr (va_up (fun _ => none) 0 (some (c0 0)))))))) : Nat × va_E) :: (zNet G c0 0 zg0 zτ0)))) H := hP
  have hD : va_D A ((a, .inr (4, [.ref (ad 0), .ref p1, .ref (bd 0), .ref p2, .ref h, .ref sa, .null])) :: ((zNet G ad 0 zg0 zτ0 ++ [((p1, .inr (2, [.ref (ad 0)])) : Nat × va_E)] ++ zNet G bd 0 zg0 zτ0 ++ [((p2, .inr (2, [.ref (bd 0)])) : Nat × va_E)] ++ zHk G h b na 6) ++ (((sa, .inl (G.2.2.2.1, 2, .inr (.inr (.inr (.inr (va_up (fun _ => none) 0 (some (c0 0)))))))) : Nat × va_E) :: (zNet G c0 0 zg0 zτ0)))) := hD
  refine lv_iinc (v := 1) (lv' := [(1, .int 1), (0, .ref a)]) hx hb dX4_init_95 hl (k := 0) rfl (by decide) (by decide) rfl (fun ls hl => ?_)
  refine lv_goto (tgt := 77) hx hb dX4_init_98 (by decide) ?_
  refine lv_iload_n hx hb dX4_init_77 rfl (lv_at hl 0 rfl) ?_
  refine lv_iconst (v := 2) hx hb dX4_init_78 (by decide) ?_
  refine lv_icmp_ge (tgt := 101) hx hb dX4_init_79 (by decide) (fun q => absurd q (by decide)) (fun _ => ?_)
  refine lv_aload_n hx hb dX4_init_82 rfl (lv_at hl 1 rfl) ?_
  refine va_get (D := G.1) (ci := 4) (C := RX4) (T := TX4) (N := 7) (v := .ref sa) (ws := ((a, .inr (4, [.ref (ad 0), .ref p1, .ref (bd 0), .ref p2, .ref h, .ref sa, .null])) :: ((zNet G ad 0 zg0 zτ0 ++ [((p1, .inr (2, [.ref (ad 0)])) : Nat × va_E)] ++ zNet G bd 0 zg0 zτ0 ++ [((p2, .inr (2, [.ref (bd 0)])) : Nat × va_E)] ++ zHk G h b na 6) ++ (((sa, .inl (G.2.2.2.1, 2, .inr (.inr (.inr (.inr (va_up (fun _ => none) 0 (some (c0 0)))))))) : Nat × va_E) :: (zNet G c0 0 zg0 zτ0))))) hx hb hts in_X4_init_X4 hown hK hP 0 rfl rfl 5 (by decide) (hts _ (List.mem_of_getElem? (i := 18) (by decide +kernel))) (fun _ h => h) rfl dX4_init_83 ?_
  refine lv_iload_n hx hb dX4_init_86 rfl (lv_at hl 0 rfl) ?_
  refine z_mkN (ws := ((a, .inr (4, [.ref (ad 0), .ref p1, .ref (bd 0), .ref p2, .ref h, .ref sa, .null])) :: ((zNet G ad 0 zg0 zτ0 ++ [((p1, .inr (2, [.ref (ad 0)])) : Nat × va_E)] ++ zNet G bd 0 zg0 zτ0 ++ [((p2, .inr (2, [.ref (bd 0)])) : Nat × va_E)] ++ zHk G h b na 6) ++ (((sa, .inl (G.2.2.2.1, 2, .inr (.inr (.inr (.inr (va_up (fun _ => none) 0 (some (c0 0)))))))) : Nat × va_E) :: (zNet G c0 0 zg0 zτ0))))) S in_X4_init_X1 (hts _ (List.mem_of_getElem? (i := 4) (by decide +kernel))) (hts _ (List.mem_of_getElem? (i := 5) (by decide +kernel))) (hts _ (List.mem_of_getElem? (i := 6) (by decide +kernel))) (cwI 0 hts gX4_init_X1_init rfl rfl rfl (hts _ (List.mem_of_getElem? (i := 6) (by decide +kernel))) (hts _ (List.mem_of_getElem? (i := 21) (by decide +kernel))) (hts _ (List.mem_of_getElem? (i := 22) (by decide +kernel))) rfl (by decide +kernel) ⟨Nat.le_of_ble_eq_true rfl, Nat.le_of_ble_eq_true rfl⟩) hE hA hK hP hD hS hl.1 (fun _ => Nat.le_of_ble_eq_true rfl) dX4_init_87 dX4_init_90 dX4_init_91 (Nat.le_of_ble_eq_true rfl) (Nat.le_of_ble_eq_true rfl) (fun H locs c1 hP hD hS => ?_)
  have hP : va_P G.1 vwCl (((a, .inr (4, [.ref (ad 0), .ref p1, .ref (bd 0), .ref p2, .ref h, .ref sa, .null])) :: (zNet G ad 0 zg0 zτ0 ++ [((p1, .inr (2, [.ref (ad 0)])) : Nat × va_E)] ++ zNet G bd 0 zg0 zτ0 ++ [((p2, .inr (2, [.ref (bd 0)])) : Nat × va_E)] ++ zHk G h b na 6)) ++ (((sa, .inl (G.2.2.2.1, 2, .inr (.inr (.inr (.inr (va_up (fun _ => none) 0 (some (c0 0)))))))) : Nat × va_E) :: (zNet G c0 0 zg0 zτ0 ++ zNet G c1 0 zg0 zτ0)) : va_W) H := by first | exact hP | simpa only [List.append_assoc, List.cons_append, List.nil_append] using hP
  have hD : va_D A (((a, .inr (4, [.ref (ad 0), .ref p1, .ref (bd 0), .ref p2, .ref h, .ref sa, .null])) :: (zNet G ad 0 zg0 zτ0 ++ [((p1, .inr (2, [.ref (ad 0)])) : Nat × va_E)] ++ zNet G bd 0 zg0 zτ0 ++ [((p2, .inr (2, [.ref (bd 0)])) : Nat × va_E)] ++ zHk G h b na 6)) ++ (((sa, .inl (G.2.2.2.1, 2, .inr (.inr (.inr (.inr (va_up (fun _ => none) 0 (some (c0 0)))))))) : Nat × va_E) :: (zNet G c0 0 zg0 zτ0 ++ zNet G c1 0 zg0 zτ0)) : va_W) := by first | exact hD | simpa only [List.append_assoc, List.cons_append, List.nil_append] using hD
  refine va_astq (r := (RX1, TX1, 11)) hx hb hK hP hD hS (((a, .inr (4, [.ref (ad 0), .ref p1, .ref (bd 0), .ref p2, .ref h, .ref sa, .null])) :: (zNet G ad 0 zg0 zτ0 ++ [((p1, .inr (2, [.ref (ad 0)])) : Nat × va_E)] ++ zNet G bd 0 zg0 zτ0 ++ [((p2, .inr (2, [.ref (bd 0)])) : Nat × va_E)] ++ zHk G h b na 6) : va_W)).length 2 ((((a, .inr (4, [.ref (ad 0), .ref p1, .ref (bd 0), .ref p2, .ref h, .ref sa, .null])) :: (zNet G ad 0 zg0 zτ0 ++ [((p1, .inr (2, [.ref (ad 0)])) : Nat × va_E)] ++ zNet G bd 0 zg0 zτ0 ++ [((p2, .inr (2, [.ref (bd 0)])) : Nat × va_E)] ++ zHk G h b na 6) : va_W)).length + 16) 1 (cA := G.2.2.2.1) (n := 2) (f := va_up (fun _ => none) 0 (some (c0 0))) (v := c1 0) (vs := zObj c1 0 zg0 zτ0) (zAt _ 0 rfl) rfl (zAt _ 16 rfl) rfl (by unfold vp_in; decide) dX4_init_94 (fun H locs hP hD hS => ?_)
  rw [zSetA] at hP hD
  have hP : va_P G.1 vwCl (((a, .inr (4, [.ref (ad 0), .ref p1, .ref (bd 0), .ref p2, .ref h, .ref sa, .null])) :: (zNet G ad 0 zg0 zτ0 ++ [((p1, .inr (2, [.ref (ad 0)])) : Nat × va_E)] ++ zNet G bd 0 zg0 zτ0 ++ [((p2, .inr (2, [.ref (bd 0)])) : Nat × va_E)] ++ zHk G h b na 6)) ++ (((sa, .inl (G.2.2.2.1, 2, .inr (.inr (.inr (.inr (va_up (va_up (fun _ => none) 0 (some (c0 0))) 1 (some (c1 0)))))))) : Nat × va_E) :: (zNet G c0 0 zg0 zτ0 ++ zNet G c1 0 zg0 zτ0)) : va_W) H := hP
  have hD : va_D A (((a, .inr (4, [.ref (ad 0), .ref p1, .ref (bd 0), .ref p2, .ref h, .ref sa, .null])) :: (zNet G ad 0 zg0 zτ0 ++ [((p1, .inr (2, [.ref (ad 0)])) : Nat × va_E)] ++ zNet G bd 0 zg0 zτ0 ++ [((p2, .inr (2, [.ref (bd 0)])) : Nat × va_E)] ++ zHk G h b na 6)) ++ (((sa, .inl (G.2.2.2.1, 2, .inr (.inr (.inr (.inr (va_up (va_up (fun _ => none) 0 (some (c0 0))) 1 (some (c1 0)))))))) : Nat × va_E) :: (zNet G c0 0 zg0 zτ0 ++ zNet G c1 0 zg0 zτ0)) : va_W) := hD
  have hP : va_P G.1 vwCl ((a, .inr (4, [.ref (ad 0), .ref p1, .ref (bd 0), .ref p2, .ref h, .ref sa, .null])) :: ((zNet G ad 0 zg0 zτ0 ++ [((p1, .inr (2, [.ref (ad 0)])) : Nat × va_E)] ++ zNet G bd 0 zg0 zτ0 ++ [((p2, .inr (2, [.ref (bd 0)])) : Nat × va_E)] ++ zHk G h b na 6) ++ (((sa, .inl (G.2.2.2.1, 2, .inr (.inr (.inr (.inr (va_up (va_up (fun _ => none) 0 (some (c0 0))) 1 (some (c1 0)))))))) : Nat × va_E) :: (zNet G c0 0 zg0 zτ0 ++ zNet G c1 0 zg0 zτ0)))) H := hP
  have hD : va_D A ((a, .inr (4, [.ref (ad 0), .ref p1, .ref (bd 0), .ref p2, .ref h, .ref sa, .null])) :: ((zNet G ad 0 zg0 zτ0 ++ [((p1, .inr (2, [.ref (ad 0)])) : Nat × va_E)] ++ zNet G bd 0 zg0 zτ0 ++ [((p2, .inr (2, [.ref (bd 0)])) : Nat × va_E)] ++ zHk G h b na 6) ++ (((sa, .inl (G.2.2.2.1, 2, .inr (.inr (.inr (.inr (va_up (va_up (fun _ => none) 0 (some (c0 0))) 1 (some (c1 0)))))))) : Nat × va_E) :: (zNet G c0 0 zg0 zτ0 ++ zNet G c1 0 zg0 zτ0)))) := hD
  refine lv_iinc (v := 2) (lv' := [(1, .int 2), (0, .ref a)]) hx hb dX4_init_95 hl (k := 0) rfl (by decide) (by decide) rfl (fun ls hl => ?_)
  refine lv_goto (tgt := 77) hx hb dX4_init_98 (by decide) ?_
  refine lv_iload_n hx hb dX4_init_77 rfl (lv_at hl 0 rfl) ?_
  refine lv_iconst (v := 2) hx hb dX4_init_78 (by decide) ?_
  refine lv_icmp_ge (tgt := 101) hx hb dX4_init_79 (by decide) (fun _ => ?_) (fun q => absurd (by decide) q)
  refine lv_aload_n hx hb dX4_init_101 rfl (lv_at hl 1 rfl) ?_
  refine lv_iconst (v := 2) hx hb dX4_init_102 (by decide) ?_
  refine va_newa (atype := .boolean) (ty := .boolean) (N' := 2) (a0 := (2, .inl (fun _ => 0))) (ws := ((a, .inr (4, [.ref (ad 0), .ref p1, .ref (bd 0), .ref p2, .ref h, .ref sa, .null])) :: ((zNet G ad 0 zg0 zτ0 ++ [((p1, .inr (2, [.ref (ad 0)])) : Nat × va_E)] ++ zNet G bd 0 zg0 zτ0 ++ [((p2, .inr (2, [.ref (bd 0)])) : Nat × va_E)] ++ zHk G h b na 6) ++ (((sa, .inl (G.2.2.2.1, 2, .inr (.inr (.inr (.inr (va_up (va_up (fun _ => none) 0 (some (c0 0))) 1 (some (c1 0)))))))) : Nat × va_E) :: (zNet G c0 0 zg0 zτ0 ++ zNet G c1 0 zg0 zτ0))))) hx hb (hts _ (List.mem_of_getElem? (i := 19) (by decide +kernel))) rfl hK hP hD hS hA (fun _ => rfl) (by decide) (by decide) (Nat.le_of_ble_eq_true rfl) (Nat.le_of_ble_eq_true rfl) (Nat.le_of_ble_eq_true rfl) dX4_init_103 (fun f cA H hK2 hP hD hS => ?_)
  obtain rfl : cA = G.2.2.2.2 := zCA_z (zK_of hK2) (hK.2 3 _ rfl).2
  have hP : va_P G.1 vwCl ((a, .inr (4, [.ref (ad 0), .ref p1, .ref (bd 0), .ref p2, .ref h, .ref sa, .null])) :: (((zNet G ad 0 zg0 zτ0 ++ [((p1, .inr (2, [.ref (ad 0)])) : Nat × va_E)] ++ zNet G bd 0 zg0 zτ0 ++ [((p2, .inr (2, [.ref (bd 0)])) : Nat × va_E)] ++ zHk G h b na 6) ++ (((sa, .inl (G.2.2.2.1, 2, .inr (.inr (.inr (.inr (va_up (va_up (fun _ => none) 0 (some (c0 0))) 1 (some (c1 0)))))))) : Nat × va_E) :: (zNet G c0 0 zg0 zτ0 ++ zNet G c1 0 zg0 zτ0))) ++ [((f, .inl (G.2.2.2.2, 2, .inl (fun _ => 0))) : Nat × va_E)])) H := hP
  have hD : va_D A ((a, .inr (4, [.ref (ad 0), .ref p1, .ref (bd 0), .ref p2, .ref h, .ref sa, .null])) :: (((zNet G ad 0 zg0 zτ0 ++ [((p1, .inr (2, [.ref (ad 0)])) : Nat × va_E)] ++ zNet G bd 0 zg0 zτ0 ++ [((p2, .inr (2, [.ref (bd 0)])) : Nat × va_E)] ++ zHk G h b na 6) ++ (((sa, .inl (G.2.2.2.1, 2, .inr (.inr (.inr (.inr (va_up (va_up (fun _ => none) 0 (some (c0 0))) 1 (some (c1 0)))))))) : Nat × va_E) :: (zNet G c0 0 zg0 zτ0 ++ zNet G c1 0 zg0 zτ0))) ++ [((f, .inl (G.2.2.2.2, 2, .inl (fun _ => 0))) : Nat × va_E)])) := hD
  refine va_putF (D := G.1) (ci := 4) (C := RX4) (T := TX4) (N := 7) (ws := ((a, .inr (4, [.ref (ad 0), .ref p1, .ref (bd 0), .ref p2, .ref h, .ref sa, .null])) :: (((zNet G ad 0 zg0 zτ0 ++ [((p1, .inr (2, [.ref (ad 0)])) : Nat × va_E)] ++ zNet G bd 0 zg0 zτ0 ++ [((p2, .inr (2, [.ref (bd 0)])) : Nat × va_E)] ++ zHk G h b na 6) ++ (((sa, .inl (G.2.2.2.1, 2, .inr (.inr (.inr (.inr (va_up (va_up (fun _ => none) 0 (some (c0 0))) 1 (some (c1 0)))))))) : Nat × va_E) :: (zNet G c0 0 zg0 zτ0 ++ zNet G c1 0 zg0 zτ0))) ++ [((f, .inl (G.2.2.2.2, 2, .inl (fun _ => 0))) : Nat × va_E)]))) hx hb hts in_X4_init_X4 tyX4 tyX4_ok nmX4 hown hK hP hD hS 0 (fs := [.ref (ad 0), .ref p1, .ref (bd 0), .ref p2, .ref h, .ref sa, .null]) rfl rfl 6 (by decide) (hts _ (List.mem_of_getElem? (i := 20) (by decide +kernel))) (fun _ h => h) rfl hnm rfl (tyX4_ok 6 (by decide)) rfl rfl (by simp) dX4_init_105 (fun H locs hP hD hS => ?_)
  have hP : va_P G.1 vwCl ((a, .inr (4, [.ref (ad 0), .ref p1, .ref (bd 0), .ref p2, .ref h, .ref sa, .ref f])) :: (((zNet G ad 0 zg0 zτ0 ++ [((p1, .inr (2, [.ref (ad 0)])) : Nat × va_E)] ++ zNet G bd 0 zg0 zτ0 ++ [((p2, .inr (2, [.ref (bd 0)])) : Nat × va_E)] ++ zHk G h b na 6) ++ (((sa, .inl (G.2.2.2.1, 2, .inr (.inr (.inr (.inr (va_up (va_up (fun _ => none) 0 (some (c0 0))) 1 (some (c1 0)))))))) : Nat × va_E) :: (zNet G c0 0 zg0 zτ0 ++ zNet G c1 0 zg0 zτ0))) ++ [((f, .inl (G.2.2.2.2, 2, .inl (fun _ => 0))) : Nat × va_E)])) H := hP
  have hD : va_D A ((a, .inr (4, [.ref (ad 0), .ref p1, .ref (bd 0), .ref p2, .ref h, .ref sa, .ref f])) :: (((zNet G ad 0 zg0 zτ0 ++ [((p1, .inr (2, [.ref (ad 0)])) : Nat × va_E)] ++ zNet G bd 0 zg0 zτ0 ++ [((p2, .inr (2, [.ref (bd 0)])) : Nat × va_E)] ++ zHk G h b na 6) ++ (((sa, .inl (G.2.2.2.1, 2, .inr (.inr (.inr (.inr (va_up (va_up (fun _ => none) 0 (some (c0 0))) 1 (some (c1 0)))))))) : Nat × va_E) :: (zNet G c0 0 zg0 zτ0 ++ zNet G c1 0 zg0 zτ0))) ++ [((f, .inl (G.2.2.2.2, 2, .inl (fun _ => 0))) : Nat × va_E)])) := hD
  have eW : (((a, .inr (4, [.ref (ad 0), .ref p1, .ref (bd 0), .ref p2, .ref h, .ref sa, .ref f])) :: (((zNet G ad 0 zg0 zτ0 ++ [((p1, .inr (2, [.ref (ad 0)])) : Nat × va_E)] ++ zNet G bd 0 zg0 zτ0 ++ [((p2, .inr (2, [.ref (bd 0)])) : Nat × va_E)] ++ zHk G h b na 6) ++ (((sa, .inl (G.2.2.2.1, 2, .inr (.inr (.inr (.inr (va_up (va_up (fun _ => none) 0 (some (c0 0))) 1 (some (c1 0)))))))) : Nat × va_E) :: (zNet G c0 0 zg0 zτ0 ++ zNet G c1 0 zg0 zτ0))) ++ [((f, .inl (G.2.2.2.2, 2, .inl (fun _ => 0))) : Nat × va_E)])) : va_W) = zW4 G a ad bd p1 p2 h b sa f na (fun _ => c0) (fun _ => c1) := by
    unfold zW4
    rw [zArrE]
    simp only [List.append_assoc, List.cons_append, List.nil_append]
  rw [eW] at hP hD
  exact z_vret hx hb hr hlk hK hS ⟨ad, bd, p1, p2, h, b, sa, f, na, fun _ => c0, fun _ => c1, hP, hD⟩ dX4_init_108
end
section
/-! ===== the finished class, as its methods take it ===== -/
theorem zNet_c {G : zG} {ad : Nat → Nat} {n : Nat} {g : Nat → Int32} {τ : zT} (X : va_W) {c : Nat} (hc : c < 15) : (zNet G ad n g τ ++ X)[c]? = some (zNc G ad (n, g, τ) c) := by
  rw [List.getElem?_append_left (by rw [zNet_len]; exact hc)]
  exact zNc_at G ad (n, g, τ) hc
theorem zCk (x : Nat × va_E) (w : va_W) (k : Nat) : (x :: w)[1 + k]? = w[k]? := by rw [Nat.add_comm]; rfl
theorem zHk6 (G : zG) (h b : Nat) (na : Nat → Nat → Nat) : zHk G h b na 6 = (h, .inr (0, [.ref b, .int 0])) :: (b, .inl (G.2.2.2.1, 6, .inr (.inr (.inr (.inr (fun i => if i < 6 then some (na i 0) else none)))))) :: (zNet G (na 0) 0 zg0 zτ0 ++ (zNet G (na 1) 0 zg0 zτ0 ++ (zNet G (na 2) 0 zg0 zτ0 ++ (zNet G (na 3) 0 zg0 zτ0 ++ (zNet G (na 4) 0 zg0 zτ0 ++ (zNet G (na 5) 0 zg0 zτ0 ++ [])))))) := rfl
section ZEND
variable {G : zG} {a : Nat} {ad bd : Nat → Nat} {p1 p2 h b s f : Nat} {na c0 c1 : Nat → Nat → Nat}
def zNa (bd : Nat → Nat) (na c0 c1 : Nat → Nat → Nat) : Nat → Nat → Nat := fun j => if j = 1 then bd else if j < 8 then na (j - 2) else if j = 8 then c0 0 else c1 0
def zMa (a p1 p2 h b s f : Nat) : Nat → Nat := fun i => if i = 0 then a else if i = 1 then p1 else if i = 2 then p2 else if i = 3 then h else if i = 4 then b else if i = 5 then s else f
theorem zW4_n0 {c : Nat} (hc : c < 15) : (zW4 G a ad bd p1 p2 h b s f na c0 c1)[1 + c]? = some (zNc G ad (0, zg0, zτ0) c) := by
  unfold zW4
  rw [zCk]
  exact zNet_c _ hc
theorem zW4_1 (k : Nat) : (zW4 G a ad bd p1 p2 h b s f na c0 c1)[1 + (15 + (1 + k))]? = (zNet G bd 0 zg0 zτ0 ++ ((p2, .inr (2, [.ref (bd 0)])) :: (zHk G h b na 6 ++ ((s, .inl (G.2.2.2.1, 2, .inr (.inr (.inr (.inr (fun i => if i = 0 then some (c0 0 0) else if i = 1 then some (c1 0 0) else none)))))) :: (zNet G (c0 0) 0 zg0 zτ0 ++ (zNet G (c1 0) 0 zg0 zτ0 ++ [(f, .inl (G.2.2.2.2, 2, .inl (fun _ => 0)))]))))) : va_W)[k]? := by
  unfold zW4
  rw [zCk, zNet_X, zCk]
theorem zW4_2 (k : Nat) : (zW4 G a ad bd p1 p2 h b s f na c0 c1)[1 + (15 + (1 + (15 + (1 + k))))]? = (zHk G h b na 6 ++ ((s, .inl (G.2.2.2.1, 2, .inr (.inr (.inr (.inr (fun i => if i = 0 then some (c0 0 0) else if i = 1 then some (c1 0 0) else none)))))) :: (zNet G (c0 0) 0 zg0 zτ0 ++ (zNet G (c1 0) 0 zg0 zτ0 ++ [(f, .inl (G.2.2.2.2, 2, .inl (fun _ => 0)))]))) : va_W)[k]? := by
  rw [zW4_1, zNet_X, zCk]
theorem zW4_3 (k : Nat) : (zW4 G a ad bd p1 p2 h b s f na c0 c1)[1 + (15 + (1 + (15 + (1 + (1 + (1 + k))))))]? = (zNet G (na 0) 0 zg0 zτ0 ++ (zNet G (na 1) 0 zg0 zτ0 ++ (zNet G (na 2) 0 zg0 zτ0 ++ (zNet G (na 3) 0 zg0 zτ0 ++ (zNet G (na 4) 0 zg0 zτ0 ++ (zNet G (na 5) 0 zg0 zτ0 ++ ((s, .inl (G.2.2.2.1, 2, .inr (.inr (.inr (.inr (fun i => if i = 0 then some (c0 0 0) else if i = 1 then some (c1 0 0) else none)))))) :: (zNet G (c0 0) 0 zg0 zτ0 ++ (zNet G (c1 0) 0 zg0 zτ0 ++ [(f, .inl (G.2.2.2.2, 2, .inl (fun _ => 0)))])))))))) : va_W)[k]? := by
  rw [zW4_2, zHk6]
  simp only [List.cons_append, List.append_assoc, List.nil_append]
  rw [zCk, zCk]
/-- where the cells stand in the order of their making -/
def zOrd (i : Nat) : Nat := if i < 15 then 1 + i else if i = 15 then 0 else if i = 16 then 16 else if i = 17 then 32 else if i = 18 then 33 else if i = 19 then 34 else if i = 20 then 125 else if i = 21 then 156 else if i < 37 then 17 + (i - 22) else if i < 127 then 35 + (i - 37) else 126 + (i - 127)
theorem zOrd_all : ∀ i : Fin 157, ∀ j : Fin 157, zOrd i.val = zOrd j.val → i.val = j.val := by decide +kernel
theorem zOrd_inj {i j : Nat} (hi : i < 157) (hj : j < 157) (h : zOrd i = zOrd j) : i = j := zOrd_all ⟨i, hi⟩ ⟨j, hj⟩ h
theorem zOrd_a {i : Nat} (h1 : 22 ≤ i) (h2 : i < 37) : zOrd i = 17 + (i - 22) := by
  unfold zOrd
  rw [if_neg (by omega), if_neg (by omega), if_neg (by omega), if_neg (by omega), if_neg (by omega), if_neg (by omega), if_neg (by omega), if_neg (by omega), if_pos h2]
theorem zOrd_b {i : Nat} (h1 : 37 ≤ i) (h2 : i < 127) : zOrd i = 35 + (i - 37) := by
  unfold zOrd
  rw [if_neg (by omega), if_neg (by omega), if_neg (by omega), if_neg (by omega), if_neg (by omega), if_neg (by omega), if_neg (by omega), if_neg (by omega), if_neg (by omega), if_pos h2]
theorem zOrd_c {i : Nat} (h1 : 127 ≤ i) : zOrd i = 126 + (i - 127) := by
  unfold zOrd
  rw [if_neg (by omega), if_neg (by omega), if_neg (by omega), if_neg (by omega), if_neg (by omega), if_neg (by omega), if_neg (by omega), if_neg (by omega), if_neg (by omega), if_neg (by omega)]
theorem zNa_1 : zNa bd na c0 c1 1 = bd := rfl
theorem zNa_h {j : Nat} (h : j < 6) : zNa bd na c0 c1 (j + 2) = na j := by
  unfold zNa
  rw [if_neg (by omega), if_pos (by omega)]
  rfl
theorem zNa_8 : zNa bd na c0 c1 8 = c0 0 := rfl
theorem zNa_9 : zNa bd na c0 c1 9 = c1 0 := rfl
/-- net j, cell c -/
theorem zW4_j {j c : Nat} (h1 : 1 ≤ j) (h10 : j < 10) (hc : c < 15) : (zW4 G a ad bd p1 p2 h b s f na c0 c1)[zOrd (22 + 15 * (j - 1) + c)]? = some (zNc G (zNa bd na c0 c1 j) (0, zg0, zτ0) c) := by
  have cs : j = 1 ∨ j = 2 ∨ j = 3 ∨ j = 4 ∨ j = 5 ∨ j = 6 ∨ j = 7 ∨ j = 8 ∨ j = 9 := by omega
  rcases cs with rfl | rfl | rfl | rfl | rfl | rfl | rfl | rfl | rfl
  · rw [show zOrd (22 + 15 * (1 - 1) + c) = 1 + (15 + (1 + c)) by rw [zOrd_a (by omega) (by omega)]; omega, zW4_1]
    exact zNet_c _ hc
  · rw [show zOrd (22 + 15 * (2 - 1) + c) = 1 + (15 + (1 + (15 + (1 + (1 + (1 + c)))))) by rw [zOrd_b (by omega) (by omega)]; omega, zW4_3]
    exact zNet_c _ hc
  · rw [show zOrd (22 + 15 * (3 - 1) + c) = 1 + (15 + (1 + (15 + (1 + (1 + (1 + (15 + c))))))) by rw [zOrd_b (by omega) (by omega)]; omega, zW4_3, zNet_X]
    exact zNet_c _ hc
  · rw [show zOrd (22 + 15 * (4 - 1) + c) = 1 + (15 + (1 + (15 + (1 + (1 + (1 + (15 + (15 + c)))))))) by rw [zOrd_b (by omega) (by omega)]; omega, zW4_3, zNet_X, zNet_X]
    exact zNet_c _ hc
  · rw [show zOrd (22 + 15 * (5 - 1) + c) = 1 + (15 + (1 + (15 + (1 + (1 + (1 + (15 + (15 + (15 + c))))))))) by rw [zOrd_b (by omega) (by omega)]; omega, zW4_3, zNet_X, zNet_X, zNet_X]
    exact zNet_c _ hc
  · rw [show zOrd (22 + 15 * (6 - 1) + c) = 1 + (15 + (1 + (15 + (1 + (1 + (1 + (15 + (15 + (15 + (15 + c)))))))))) by rw [zOrd_b (by omega) (by omega)]; omega, zW4_3, zNet_X, zNet_X, zNet_X, zNet_X]
    exact zNet_c _ hc
  · rw [show zOrd (22 + 15 * (7 - 1) + c) = 1 + (15 + (1 + (15 + (1 + (1 + (1 + (15 + (15 + (15 + (15 + (15 + c))))))))))) by rw [zOrd_b (by omega) (by omega)]; omega, zW4_3, zNet_X, zNet_X, zNet_X, zNet_X, zNet_X]
    exact zNet_c _ hc
  · rw [show zOrd (22 + 15 * (8 - 1) + c) = 1 + (15 + (1 + (15 + (1 + (1 + (1 + (15 + (15 + (15 + (15 + (15 + (15 + (1 + c))))))))))))) by rw [zOrd_c (by omega)]; omega, zW4_3, zNet_X, zNet_X, zNet_X, zNet_X, zNet_X, zNet_X, zCk]
    exact zNet_c _ hc
  · rw [show zOrd (22 + 15 * (9 - 1) + c) = 1 + (15 + (1 + (15 + (1 + (1 + (1 + (15 + (15 + (15 + (15 + (15 + (15 + (1 + (15 + c)))))))))))))) by rw [zOrd_c (by omega)]; omega, zW4_3, zNet_X, zNet_X, zNet_X, zNet_X, zNet_X, zNet_X, zCk, zNet_X]
    exact zNet_c _ hc
theorem zW4_s : (zW4 G a ad bd p1 p2 h b s f na c0 c1)[125]? = some (s, .inl (G.2.2.2.1, 2, .inr (.inr (.inr (.inr (fun i => if i = 0 then some (c0 0 0) else if i = 1 then some (c1 0 0) else none)))))) := by
  rw [show 125 = 1 + (15 + (1 + (15 + (1 + (1 + (1 + (15 + (15 + (15 + (15 + (15 + (15 + 0)))))))))))) by decide, zW4_3, zNet_X, zNet_X, zNet_X, zNet_X, zNet_X, zNet_X]
  rfl
theorem zW4_f : (zW4 G a ad bd p1 p2 h b s f na c0 c1)[156]? = some (f, .inl (G.2.2.2.2, 2, .inl (fun _ => 0))) := by
  rw [show 156 = 1 + (15 + (1 + (15 + (1 + (1 + (1 + (15 + (15 + (15 + (15 + (15 + (15 + (1 + (15 + (15 + 0)))))))))))))))by decide, zW4_3, zNet_X, zNet_X, zNet_X, zNet_X, zNet_X, zNet_X, zCk, zNet_X, zNet_X]
  rfl
/-- the address of cell i stands at its place -/
theorem zW4_ad {i : Nat} (hi : i < 157) : ∃ q : Nat × va_E, (zW4 G a ad bd p1 p2 h b s f na c0 c1)[zOrd i]? = some q ∧ q.1 = if i < 15 then ad i else if i < 22 then zMa a p1 p2 h b s f (i - 15) else zNa bd na c0 c1 ((i - 22) / 15 + 1) ((i - 22) % 15) := by
  by_cases h1 : i < 15
  · rw [if_pos h1, show zOrd i = 1 + i by unfold zOrd; rw [if_pos h1]]
    exact ⟨_, zW4_n0 h1, zNc_ad _ _ _ h1⟩
  · rw [if_neg h1]
    by_cases h2 : i < 22
    · rw [if_pos h2]
      have cs : i = 15 ∨ i = 16 ∨ i = 17 ∨ i = 18 ∨ i = 19 ∨ i = 20 ∨ i = 21 := by omega
      rcases cs with rfl | rfl | rfl | rfl | rfl | rfl | rfl
      · exact ⟨_, rfl, rfl⟩
      · refine ⟨(p1, .inr (2, [.ref (ad 0)])), ?_, rfl⟩
        show (zW4 G a ad bd p1 p2 h b s f na c0 c1)[1 + (15 + 0)]? = _
        unfold zW4
        rw [zCk, zNet_X]
        rfl
      · refine ⟨(p2, .inr (2, [.ref (bd 0)])), ?_, rfl⟩
        show (zW4 G a ad bd p1 p2 h b s f na c0 c1)[1 + (15 + (1 + (15 + 0)))]? = _
        rw [zW4_1, zNet_X]
        rfl
      · refine ⟨(h, .inr (0, [.ref b, .int 0])), ?_, rfl⟩
        show (zW4 G a ad bd p1 p2 h b s f na c0 c1)[1 + (15 + (1 + (15 + (1 + 0))))]? = _
        rw [zW4_2]
        rfl
      · refine ⟨(b, .inl (G.2.2.2.1, 6, .inr (.inr (.inr (.inr (fun i => if i < 6 then some (na i 0) else none)))))), ?_, rfl⟩
        show (zW4 G a ad bd p1 p2 h b s f na c0 c1)[1 + (15 + (1 + (15 + (1 + 1))))]? = _
        rw [zW4_2]
        rfl
      · exact ⟨_, zW4_s, rfl⟩
      · exact ⟨_, zW4_f, rfl⟩
    · rw [if_neg h2]
      have e := zW4_j (G := G) (a := a) (ad := ad) (bd := bd) (p1 := p1) (p2 := p2) (h := h) (b := b) (s := s) (f := f) (na := na) (c0 := c0) (c1 := c1) (j := (i - 22) / 15 + 1) (c := (i - 22) % 15) (by omega) (by omega) (by omega)
      rw [show 22 + 15 * ((i - 22) / 15 + 1 - 1) + (i - 22) % 15 = i by omega] at e
      exact ⟨_, e, zNc_ad _ _ _ (by omega)⟩
theorem zW4_end {A : Nat → Prop} {H : Heap} (hP : va_P G.1 vwCl (zW4 G a ad bd p1 p2 h b s f na c0 c1) H) (hD : va_D A (zW4 G a ad bd p1 p2 h b s f na c0 c1)) : zTd ad (zNa bd na c0 c1) (zMa a p1 p2 h b s f) ∧ zBig G ad (zNa bd na c0 c1) (zMa a p1 p2 h b s f) (fun i => i + 2) 0 (fun _ => 0) (fun _ => (0, zg0, zτ0)) H ∧ ∀ q, zAll ad (zNa bd na c0 c1) (zMa a p1 p2 h b s f) q → A q := by
  have hA : ∀ i, i < 157 → A (if i < 15 then ad i else if i < 22 then zMa a p1 p2 h b s f (i - 15) else zNa bd na c0 c1 ((i - 22) / 15 + 1) ((i - 22) % 15)) := fun i hi => by
    obtain ⟨q, h1, h2⟩ := zW4_ad (G := G) (a := a) (ad := ad) (bd := bd) (p1 := p1) (p2 := p2) (h := h) (b := b) (s := s) (f := f) (na := na) (c0 := c0) (c1 := c1) hi
    rw [← h2]
    exact hD.2 _ _ h1
  refine ⟨fun i j hi hj hij => ?_, ⟨fun k q hk => ?_, fun c hc => hP _ _ (zW4_n0 hc), fun j c h1 h10 hc => hP _ _ (zW4_j h1 h10 hc)⟩, fun q hq => ?_⟩
  · obtain ⟨q1, a1, a2⟩ := zW4_ad (G := G) (a := a) (ad := ad) (bd := bd) (p1 := p1) (p2 := p2) (h := h) (b := b) (s := s) (f := f) (na := na) (c0 := c0) (c1 := c1) hi
    obtain ⟨q2, b1, b2⟩ := zW4_ad (G := G) (a := a) (ad := ad) (bd := bd) (p1 := p1) (p2 := p2) (h := h) (b := b) (s := s) (f := f) (na := na) (c0 := c0) (c1 := c1) hj
    exact zOrd_inj hi hj (hD.1 _ _ q1 q2 a1 b1 (a2.trans (hij.trans b2.symm)))
  · match k with
    | 0 => cases hk; exact hP 0 _ rfl
    | 1 =>
      cases hk
      refine hP (1 + (15 + 0)) _ ?_
      unfold zW4
      rw [zCk, zNet_X]
      rfl
    | 2 =>
      cases hk
      refine hP (1 + (15 + (1 + (15 + 0)))) _ ?_
      rw [zW4_1, zNet_X]
      rfl
    | 3 =>
      cases hk
      refine hP (1 + (15 + (1 + (15 + (1 + 0))))) _ ?_
      rw [zW4_2]
      rfl
    | 4 =>
      cases hk
      have e : (zW4 G a ad bd p1 p2 h b s f na c0 c1)[1 + (15 + (1 + (15 + (1 + 1))))]? = some (b, .inl (G.2.2.2.1, 6, .inr (.inr (.inr (.inr (fun i => if i < 6 then some (na i 0) else none)))))) := by
        rw [zW4_2]
        rfl
      have hx : H[b]? = some (vp_cell G.2.2.2.1 (6, .inr (.inr (.inr (.inr (fun i => if i < 6 then some (na i 0) else none)))))) := hP _ _ e
      show H[b]? = some (vp_cell _ _)
      rw [hx, zArr_ext]
      intro i hi
      rw [if_pos hi, zNa_h hi]
    | 5 =>
      cases hk
      have hx : H[s]? = some (vp_cell G.2.2.2.1 (2, .inr (.inr (.inr (.inr (fun i => if i = 0 then some (c0 0 0) else if i = 1 then some (c1 0 0) else none)))))) := hP _ _ zW4_s
      show H[s]? = some (vp_cell _ _)
      rw [hx, zArr_ext]
      intro i hi
      have cs : i = 0 ∨ i = 1 := by omega
      rcases cs with rfl | rfl <;> rfl
    | 6 => cases hk; exact hP _ _ zW4_f
    | k + 7 => cases hk
  · rcases hq with ⟨c, hc, rfl⟩ | ⟨i, hi, rfl⟩ | ⟨j, c, h1, h10, hc, rfl⟩
    · have := hA c (by omega)
      rwa [if_pos hc] at this
    · have := hA (15 + i) (by omega)
      rwa [if_neg (by omega), if_pos (by omega), Nat.add_sub_cancel_left] at this
    · have := hA (22 + (15 * (j - 1) + c)) (by omega)
      rwa [if_neg (by omega), if_neg (by omega), Nat.add_sub_cancel_left, show (15 * (j - 1) + c) / 15 + 1 = j by omega, show (15 * (j - 1) + c) % 15 = c by omega] at this
end ZEND
end
section
/-! ===== the class's picture over a known state: the current network, the depth, the saved ones ===== -/
/-- what holds of every state that a run of calls meets -/
def zGd (t : zS3) : Prop := t.1 ≤ 12 ∧ 0 < t.2.1 3 ∧ 0 < t.2.1 5 ∧ 0 ≤ t.2.2 11 9
/-- the class's exact network t2 stands for the state t -/
def zSm (t t2 : zS3) : Prop := t2.1 = t.1 ∧ (∀ j, 1 ≤ j → j < 9 → t2.2.1 j = t.2.1 j) ∧ zRp t.1 t.2.2 t2.2.2
theorem zSm.cpy {n : Nat} {g : Nat → Int32} {τ : zT} {t : zS3} (h : zSm t (n, g, τ)) (u : zS3) : zSm t (zCpy n g τ u) := by
  obtain ⟨h1, h2, h3⟩ := h
  have h1 : n = t.1 := h1
  subst h1
  exact ⟨rfl, h2, h3.cpy u⟩
theorem zSm.n {t : zS3} {n : Nat} {g : Nat → Int32} {τ : zT} (h : zSm t (n, g, τ)) : n = t.1 := h.1
theorem zSm.k {t : zS3} {n : Nat} {g : Nat → Int32} {τ : zT} (h : zSm t (n, g, τ)) {k : Nat} (h1 : 9 ≤ k) (h2 : k < 15) : τ 11 k = t.2.2 11 k := h.2.2.1 k h1 h2
theorem zSm.f {t : zS3} {n : Nat} {g : Nat → Int32} {τ : zT} (h : zSm t (n, g, τ)) {f i : Nat} (h1 : f < 9) (h2 : i < t.1) : τ f i = t.2.2 f i := h.2.2.2 f i h1 h2
theorem zSm.g {t : zS3} {n : Nat} {g : Nat → Int32} {τ : zT} (h : zSm t (n, g, τ)) {j : Nat} (h1 : 1 ≤ j) (h2 : j < 9) : g j = t.2.1 j := h.2.1 j h1 h2
def zKd (d : Nat) : Nat := if d = 6 then 5 else d
/-- the history behind a push -/
def zHp (d : Nat) (t : zS3) (hs : Nat → zS3) : Nat → zS3 := fun i => if i = zKd d then t else if d = 6 then hs (i + 1) else hs i
theorem zKd_P {d : Nat} (h : d ≤ 6) : zPd2 d = zKd d := by
  unfold zPd2 zKd
  by_cases e : d = 6
  · rw [if_neg (by omega), if_pos e]
  · rw [if_pos (by omega), if_neg e]
theorem zKd_lt {d : Nat} (h : d ≤ 6) : zKd d < 6 := by
  unfold zKd
  split <;> omega
theorem zSm_push {d : Nat} {π : Nat → Nat} {T : Nat → zS3} {hs : Nat → zS3} {t : zS3} {n : Nat} {g : Nat → Int32} {τ : zT} (hd : d ≤ 6) (hπ : zPi π) (hc : zSm t (n, g, τ)) (h : ∀ i, i < d → zSm (hs i) (T (π i))) : ∀ i, i < zKd d + 1 → zSm (zHp d t hs i) ((va_up T ((zPp d π) (zPd2 d)) (zCpy n g τ (T ((zPp d π) (zPd2 d))))) ((zPp d π) i)) := by
  intro i hi
  have hp := zPp_pi (d := d) hπ
  have hk := zKd_lt hd
  rw [zKd_P hd]
  unfold zHp
  by_cases e : i = zKd d
  · rw [if_pos e, e, va_up_self]
    exact hc.cpy _
  · rw [if_neg e, va_up_ne _ _ (fun q => e (hp.2 i (zKd d) (by omega) hk q))]
    have hkd : zKd d = if d = 6 then 5 else d := rfl
    unfold zPp
    by_cases e6 : d = 6
    · rw [if_pos e6] at hkd
      rw [if_pos e6, if_neg (by omega), zRot_at π (by omega), if_pos (by omega)]
      exact h (i + 1) (by omega)
    · rw [if_neg e6] at hkd
      rw [if_neg e6, if_pos (by omega)]
      exact h i (by omega)
/-- what is known: current, depth, history -/
abbrev zSg : Type := zS3 × Nat × (Nat → zS3)
def zOk (S : zSg) : Prop := zGd S.1 ∧ S.2.1 ≤ 6 ∧ (∀ i, i < S.2.1 → zGd (S.2.2 i))
/-- the class's picture -/
def zCP (G : zG) (ad : Nat → Nat) (na : Nat → Nat → Nat) (ma : Nat → Nat) (S : zSg) (H : Heap) : Prop := ∃ (π : Nat → Nat) (T : Nat → zS3) (n : Nat) (g : Nat → Int32) (τ : zT) (fl : Nat → Int32), zPi π ∧ zSm S.1 (n, g, τ) ∧ (∀ i, i < S.2.1 → zSm (S.2.2 i) (T (π i))) ∧ (∀ j, 1 ≤ j → j < 10 → (T j).1 ≤ 12) ∧ zNA G ad n 12 g (zRest G ad na ma π S.2.1 fl T) τ H
/-- behind a push, with the new current state t -/
def zPu (S : zSg) (t : zS3) : zSg := (t, zKd S.2.1 + 1, zHp S.2.1 S.1 S.2.2)
theorem zPu_ok {S : zSg} {t : zS3} (hS : zOk S) (ht : zGd t) : zOk (zPu S t) := by
  have hk := zKd_lt hS.2.1
  refine ⟨ht, by show zKd S.2.1 + 1 ≤ 6; omega, fun i hi => ?_⟩
  have hi : i < zKd S.2.1 + 1 := hi
  have hkd : zKd S.2.1 = if S.2.1 = 6 then 5 else S.2.1 := rfl
  show zGd (zHp S.2.1 S.1 S.2.2 i)
  unfold zHp
  by_cases e : i = zKd S.2.1
  · rw [if_pos e]
    exact hS.1
  · rw [if_neg e]
    by_cases e6 : S.2.1 = 6
    · rw [if_pos e6] at hkd
      rw [if_pos e6]
      exact hS.2.2 _ (by omega)
    · rw [if_neg e6] at hkd
      rw [if_neg e6]
      exact hS.2.2 _ (by omega)
theorem zCP_push {G : zG} {ad : Nat → Nat} {na : Nat → Nat → Nat} {ma : Nat → Nat} {S : zSg} {t : zS3} {π : Nat → Nat} {T : Nat → zS3} {n n2 : Nat} {g g2 : Nat → Int32} {τ τ2 : zT} {fl : Nat → Int32} {H : Heap} (hS : zOk S) (hπ : zPi π) (hc : zSm S.1 (n, g, τ)) (hh : ∀ i, i < S.2.1 → zSm (S.2.2 i) (T (π i))) (hT : ∀ j, 1 ≤ j → j < 10 → (T j).1 ≤ 12) (ht : zSm t (n2, g2, τ2))
    (hN : zNA G ad n2 12 g2 (zRest G ad na ma (zPp S.2.1 π) (zPd2 S.2.1 + 1) fl (va_up T ((zPp S.2.1 π) (zPd2 S.2.1)) (zCpy n g τ (T ((zPp S.2.1 π) (zPd2 S.2.1)))))) τ2 H) : zCP G ad na ma (zPu S t) H := by
  have hk := zKd_lt hS.2.1
  have hp := zPp_pi (d := S.2.1) hπ
  have hr := hp.1 (zPd2 S.2.1) (by rw [zKd_P hS.2.1]; exact hk)
  refine ⟨zPp S.2.1 π, _, n2, g2, τ2, fl, hp, ht, zSm_push hS.2.1 hπ hc hh, fun j h1 h10 => ?_, ?_⟩
  · by_cases e : j = (zPp S.2.1 π) (zPd2 S.2.1)
    · rw [e, va_up_self]
      have := hc.n
      show n ≤ 12
      rw [this]
      exact hS.1.1
    · rw [va_up_ne _ _ e]
      exact hT j h1 h10
  · show zNA G ad n2 12 g2 (zRest G ad na ma (zPp S.2.1 π) (zKd S.2.1 + 1) fl _) τ2 H
    rw [← zKd_P hS.2.1]
    exact hN
theorem zIt_cong {α : Type} {F K : Nat → α → α} {a : α} {n : Nat} (h : ∀ k b, k < n → F k b = K k b) : ∀ k, k ≤ n → zIt F k a = zIt K k a := by
  intro k
  induction k with
  | zero => exact fun _ => rfl
  | succ k ih =>
    intro hk
    rw [zIt_s, zIt_s, ih (by omega)]
    exact h k _ (by omega)
theorem zSm.ca {t : zS3} {n : Nat} {g : Nat → Int32} {τ : zT} (h : zSm t (n, g, τ)) : zCa n τ = zCa t.1 t.2.2 := by
  obtain rfl := h.n
  unfold zCa
  refine zIt_cong (fun k v hk => ?_) _ (Nat.le_refl _)
  unfold zCaS
  rw [h.f (by decide) hk]
theorem zSm.ph {t : zS3} {n : Nat} {g : Nat → Int32} {τ : zT} (h : zSm t (n, g, τ)) : zPh g τ = zPh t.2.1 t.2.2 := by
  unfold zPh
  rw [h.k (by decide) (by decide), h.g (j := 3) (by decide) (by decide)]
theorem zIdx {n : Nat} {x : Int32} (hn : n ≤ 12) (h : ¬ x < 0 ∧ x < nI n) : x.toNatClampNeg < n := by
  obtain ⟨j, hj, rfl⟩ := nI_of h.1
  have h2 := (nI_ltI (by exact hj) (by omega)).mp h.2
  rw [nI_clamp (by exact hj)]
  exact h2
theorem zIxn {n k : Nat} (hn : n ≤ 12) (hk : k < n) : ¬ nI k < 0 ∧ nI k < nI n := ⟨nI_pos (by omega), nI_lt hk (by omega)⟩
section ZASK
variable {l : Launch} {G : zG} {ad : Nat → Nat} {na : Nat → Nat → Nat} {ma : Nat → Nat} {A : Nat → Prop} {y : MethodName} {ws : List Cond} {fr lo : Nat} {av : List Value} {r : Int32}
theorem zGetC {S : zSg} (hc : ∀ (π : Nat → Nat) (T : Nat → zS3) (n : Nat) (g : Nat → Int32) (τ : zT) (fl : Nat → Int32), zPi π → zSm S.1 (n, g, τ) → ∃ r2 : Int32, r2 = r ∧ zMi l G (zAll ad na ma) y ws fr lo av (zNA G ad n 12 g (zRest G ad na ma π S.2.1 fl T) τ) r2 (zNA G ad n 12 g (zRest G ad na ma π S.2.1 fl T) τ)) : zMi l G (zAll ad na ma) y ws fr lo av (zCP G ad na ma S) r (zCP G ad na ma S) := by
  refine z_lift (A := zAll ad na ma) (fun H hH => ?_) (fun _ h => h)
  obtain ⟨π, T, n, g, τ, fl, h1, h2, h3, h5, h6⟩ := hH
  obtain ⟨r2, rfl, hm⟩ := hc π T n g τ fl h1 h2
  exact ⟨_, _, h6, hm, fun H1 _ _ q => ⟨π, T, n, g, τ, fl, h1, h2, h3, h5, q⟩⟩
end ZASK
theorem zRr {l : Launch} {G : zG} {A : Nat → Prop} {y : MethodName} {ws : List Cond} {fr lo : Nat} {av : List Value} {r : Int32} {P P2 : Heap → Prop} {q : Prop} (_ : q) (h : zMi l G A y ws fr lo av P r P2) : zMi l G A y ws fr lo av P r P2 := h
theorem zRi {l : Launch} {G : zG} {A : Nat → Prop} {y : MethodName} {ws : List Cond} {fr lo : Nat} {av : List Value} {r : Int32} {P P2 : Heap → Prop} {c : Prop} [Decidable c] (h : zMi l G A y ws fr lo av P r (if c then P2 else P2)) : zMi l G A y ws fr lo av P r P2 := by rwa [ite_self] at h
theorem zRb {l : Launch} {G : zG} {A : Nat → Prop} {y : MethodName} {ws : List Cond} {fr lo : Nat} {av : List Value} {r r2 : Int32} {P P2 : Heap → Prop} (e : r = r2) (h : zMi l G A y ws fr lo av P r P2) : zMi l G A y ws fr lo av P r2 P2 := by rwa [e] at h
end
section
/-! ===== calls that only ask ===== -/
theorem s_X4_roundNumber (l : Launch) (G : zG) (ad : Nat → Nat) (na : Nat → Nat → Nat) (ma : Nat → Nat) (hd : zTd ad na ma) (S : zSg) (hS : zOk S) : zMi l G (zAll ad na ma) yX4_roundNumber wsX4_roundNumber 0 0 [.ref (ma 0)] (zCP G ad na ma S) (S.1.2.2 11 10) (zCP G ad na ma S) :=
  zGetC (fun π T n g τ fl hπ hm => ⟨_, hm.k (by decide) (by decide), zRr trivial (p_X4_roundNumber l G ad na ma hd π hπ S.2.1 hS.2.1 fl T n (hm.n ▸ hS.1.1) g τ)⟩)
theorem s_X4_headCount (l : Launch) (G : zG) (ad : Nat → Nat) (na : Nat → Nat → Nat) (ma : Nat → Nat) (hd : zTd ad na ma) (S : zSg) (hS : zOk S) : zMi l G (zAll ad na ma) yX4_headCount wsX4_headCount 0 0 [.ref (ma 0)] (zCP G ad na ma S) (S.1.2.2 11 11) (zCP G ad na ma S) :=
  zGetC (fun π T n g τ fl hπ hm => ⟨_, hm.k (by decide) (by decide), zRr trivial (p_X4_headCount l G ad na ma hd π hπ S.2.1 hS.2.1 fl T n (hm.n ▸ hS.1.1) g τ)⟩)
theorem s_X4_lastDelivered (l : Launch) (G : zG) (ad : Nat → Nat) (na : Nat → Nat → Nat) (ma : Nat → Nat) (hd : zTd ad na ma) (S : zSg) (hS : zOk S) : zMi l G (zAll ad na ma) yX4_lastDelivered wsX4_lastDelivered 0 0 [.ref (ma 0)] (zCP G ad na ma S) (S.1.2.2 11 12) (zCP G ad na ma S) :=
  zGetC (fun π T n g τ fl hπ hm => ⟨_, hm.k (by decide) (by decide), zRr trivial (p_X4_lastDelivered l G ad na ma hd π hπ S.2.1 hS.2.1 fl T n (hm.n ▸ hS.1.1) g τ)⟩)
theorem s_X4_deliveredTotal (l : Launch) (G : zG) (ad : Nat → Nat) (na : Nat → Nat → Nat) (ma : Nat → Nat) (hd : zTd ad na ma) (S : zSg) (hS : zOk S) : zMi l G (zAll ad na ma) yX4_deliveredTotal wsX4_deliveredTotal 0 0 [.ref (ma 0)] (zCP G ad na ma S) (S.1.2.2 11 13) (zCP G ad na ma S) :=
  zGetC (fun π T n g τ fl hπ hm => ⟨_, hm.k (by decide) (by decide), zRr trivial (p_X4_deliveredTotal l G ad na ma hd π hπ S.2.1 hS.2.1 fl T n (hm.n ▸ hS.1.1) g τ)⟩)
theorem s_X4_energyPaid (l : Launch) (G : zG) (ad : Nat → Nat) (na : Nat → Nat → Nat) (ma : Nat → Nat) (hd : zTd ad na ma) (S : zSg) (hS : zOk S) : zMi l G (zAll ad na ma) yX4_energyPaid wsX4_energyPaid 0 0 [.ref (ma 0)] (zCP G ad na ma S) (S.1.2.2 11 14) (zCP G ad na ma S) :=
  zGetC (fun π T n g τ fl hπ hm => ⟨_, hm.k (by decide) (by decide), zRr trivial (p_X4_energyPaid l G ad na ma hd π hπ S.2.1 hS.2.1 fl T n (hm.n ▸ hS.1.1) g τ)⟩)
theorem s_X4_aliveCount (l : Launch) (G : zG) (ad : Nat → Nat) (na : Nat → Nat → Nat) (ma : Nat → Nat) (hd : zTd ad na ma) (S : zSg) (hS : zOk S) : zMi l G (zAll ad na ma) yX4_aliveCount wsX4_aliveCount 1 22 [.ref (ma 0)] (zCP G ad na ma S) (zCa S.1.1 S.1.2.2) (zCP G ad na ma S) :=
  zGetC (fun π T n g τ fl hπ hm => ⟨_, hm.ca, zRr trivial (p_X4_aliveCount l G ad na ma hd π hπ S.2.1 hS.2.1 fl T n (hm.n ▸ hS.1.1) g τ)⟩)
theorem s_X4_battery (l : Launch) (G : zG) (ad : Nat → Nat) (na : Nat → Nat → Nat) (ma : Nat → Nat) (hd : zTd ad na ma) (S : zSg) (hS : zOk S) (k : Nat) (hk : k < S.1.1) : zMi l G (zAll ad na ma) yX4_battery wsX4_battery 1 21 [.ref (ma 0), .int (nI k)] (zCP G ad na ma S) (S.1.2.2 2 k) (zCP G ad na ma S) :=
  zGetC (fun π T n g τ fl hπ hm => ⟨_, (by
    rw [if_neg (not_not_intro (zIxn (hm.n ▸ hS.1.1) (show k < n from hm.n ▸ hk))), nI_clamp (by have := hS.1.1; omega)]
    exact hm.f (by decide) hk), zRi (p_X4_battery l G ad na ma hd π hπ S.2.1 hS.2.1 fl T n (hm.n ▸ hS.1.1) g τ (nI k))⟩)
theorem s_X4_deathRound (l : Launch) (G : zG) (ad : Nat → Nat) (na : Nat → Nat → Nat) (ma : Nat → Nat) (hd : zTd ad na ma) (S : zSg) (hS : zOk S) (k : Nat) (hk : k < S.1.1) : zMi l G (zAll ad na ma) yX4_deathRound wsX4_deathRound 1 21 [.ref (ma 0), .int (nI k)] (zCP G ad na ma S) (S.1.2.2 6 k) (zCP G ad na ma S) :=
  zGetC (fun π T n g τ fl hπ hm => ⟨_, (by
    rw [if_neg (not_not_intro (zIxn (hm.n ▸ hS.1.1) (show k < n from hm.n ▸ hk))), nI_clamp (by have := hS.1.1; omega)]
    exact hm.f (by decide) hk), zRi (p_X4_deathRound l G ad na ma hd π hπ S.2.1 hS.2.1 fl T n (hm.n ▸ hS.1.1) g τ (nI k))⟩)
theorem s_X4_headOf (l : Launch) (G : zG) (ad : Nat → Nat) (na : Nat → Nat → Nat) (ma : Nat → Nat) (hd : zTd ad na ma) (S : zSg) (hS : zOk S) (k : Nat) (hk : k < S.1.1) : zMi l G (zAll ad na ma) yX4_headOf wsX4_headOf 1 21 [.ref (ma 0), .int (nI k)] (zCP G ad na ma S) (S.1.2.2 7 k) (zCP G ad na ma S) :=
  zGetC (fun π T n g τ fl hπ hm => ⟨_, (by
    rw [if_neg (not_not_intro (zIxn (hm.n ▸ hS.1.1) (show k < n from hm.n ▸ hk))), nI_clamp (by have := hS.1.1; omega)]
    exact hm.f (by decide) hk), zRi (p_X4_headOf l G ad na ma hd π hπ S.2.1 hS.2.1 fl T n (hm.n ▸ hS.1.1) g τ (nI k))⟩)
theorem s_X4_slotOf (l : Launch) (G : zG) (ad : Nat → Nat) (na : Nat → Nat → Nat) (ma : Nat → Nat) (hd : zTd ad na ma) (S : zSg) (hS : zOk S) (k : Nat) (hk : k < S.1.1) : zMi l G (zAll ad na ma) yX4_slotOf wsX4_slotOf 1 21 [.ref (ma 0), .int (nI k)] (zCP G ad na ma S) (S.1.2.2 8 k) (zCP G ad na ma S) :=
  zGetC (fun π T n g τ fl hπ hm => ⟨_, (by
    rw [if_neg (not_not_intro (zIxn (hm.n ▸ hS.1.1) (show k < n from hm.n ▸ hk))), nI_clamp (by have := hS.1.1; omega)]
    exact hm.f (by decide) hk), zRi (p_X4_slotOf l G ad na ma hd π hπ S.2.1 hS.2.1 fl T n (hm.n ▸ hS.1.1) g τ (nI k))⟩)
theorem s_X4_isAlive (l : Launch) (G : zG) (ad : Nat → Nat) (na : Nat → Nat → Nat) (ma : Nat → Nat) (hd : zTd ad na ma) (S : zSg) (hS : zOk S) (k : Nat) (hk : k < S.1.1) : zMi l G (zAll ad na ma) yX4_isAlive wsX4_isAlive 1 21 [.ref (ma 0), .int (nI k)] (zCP G ad na ma S) (zBi (S.1.2.2 3 k = 1)) (zCP G ad na ma S) :=
  zGetC (fun π T n g τ fl hπ hm => ⟨_, (by
    rw [if_neg (not_not_intro (zIxn (hm.n ▸ hS.1.1) (show k < n from hm.n ▸ hk))), nI_clamp (by have := hS.1.1; omega)]
    have e3 : τ 3 k = S.1.2.2 3 k := hm.f (by decide) hk
    exact zBi_iff (by rw [e3])), zRi (p_X4_isAlive l G ad na ma hd π hπ S.2.1 hS.2.1 fl T n (hm.n ▸ hS.1.1) g τ (nI k))⟩)
theorem s_X4_isEligible (l : Launch) (G : zG) (ad : Nat → Nat) (na : Nat → Nat → Nat) (ma : Nat → Nat) (hd : zTd ad na ma) (S : zSg) (hS : zOk S) (k : Nat) (hk : k < S.1.1) : zMi l G (zAll ad na ma) yX4_isEligible wsX4_isEligible 1 21 [.ref (ma 0), .int (nI k)] (zCP G ad na ma S) (zBi (S.1.2.2 3 k = 1 ∧ (S.1.2.2 4 k = 1 ∨ zPh S.1.2.1 S.1.2.2 = 0))) (zCP G ad na ma S) :=
  zGetC (fun π T n g τ fl hπ hm => ⟨_, (by
    rw [if_neg (not_not_intro (zIxn (hm.n ▸ hS.1.1) (show k < n from hm.n ▸ hk))), nI_clamp (by have := hS.1.1; omega)]
    have e3 : τ 3 k = S.1.2.2 3 k := hm.f (by decide) hk
    have e4 : τ 4 k = S.1.2.2 4 k := hm.f (by decide) hk
    have e5 : zPh g τ = zPh S.1.2.1 S.1.2.2 := hm.ph
    exact zBi_iff (by rw [e3, e4, e5])), zRi (p_X4_isEligible l G ad na ma hd π hπ S.2.1 hS.2.1 fl T n (hm.n ▸ hS.1.1) g (hm.g (j := 3) (by decide) (by decide) ▸ hS.1.2.1) τ (nI k))⟩)
end
section
/-! ===== calls that change the state ===== -/
theorem zRp.stt {n : Nat} {a b : zT} (h : zRp n a b) (f i : Nat) {v w : Int32} (hv : w = v) : zRp n (zSt a f i v) (zSt b f i w) := by
  subst hv
  refine ⟨fun k h1 h2 => ?_, fun f2 i2 h1 h2 => ?_⟩
  · rw [zSt_ap, zSt_ap, h.1 k h1 h2]
  · rw [zSt_ap, zSt_ap, h.2 f2 i2 h1 h2]
theorem s_X4_setGenerator (l : Launch) (G : zG) (ad : Nat → Nat) (na : Nat → Nat → Nat) (ma : Nat → Nat) (hd : zTd ad na ma) (S : zSg) (hS : zOk S) (x : Int32) (hx : ¬ x < 0) : zMi l G (zAll ad na ma) yX4_setGenerator wsX4_setGenerator 3 64 [.ref (ma 0), .int x] (zCP G ad na ma S) (S.1.2.2 11 10) (zCP G ad na ma (zPu S (S.1.1, S.1.2.1, zSt S.1.2.2 11 9 x))) := by
  refine z_lift (A := zAll ad na ma) (fun H hH => ?_) (fun _ h => h)
  obtain ⟨π, T, n, g, τ, fl, h1, h2, h3, h5, h6⟩ := hH
  have p := p_X4_setGenerator l G ad na ma hd π h1 S.2.1 hS.2.1 fl T n (h2.n ▸ hS.1.1) g τ x
  rw [if_neg hx, if_neg hx, h2.k (by decide) (by decide)] at p
  exact ⟨_, _, h6, p, fun H1 _ _ q => zCP_push (τ2 := zSt τ 11 9 x) hS h1 h2 h3 h5 ⟨h2.1, h2.2.1, h2.2.2.stt 11 9 rfl⟩ q⟩
theorem z_liftT {l : Launch} {G : zG} {A : Nat → Prop} {y : MethodName} {ws : List Cond} {fr lo : Nat} {av : List Value} {r : Int32} {P' P2' : Heap → Prop} (h : ∀ H : Heap, P' H → ∃ P P2 : Heap → Prop, P H ∧ zMiT l G A y ws fr lo av P r P2 ∧ ∀ H1 : Heap, H.size ≤ H1.size → (∀ q, q < H.size → ¬ A q → H1[q]? = H[q]?) → P2 H1 → P2' H1) : zMiT l G A y ws fr lo av P' r P2' := by
  intro p e ha hc hk s m args below hf happ hp hk'
  obtain ⟨⟨hav, hP, hK⟩, hT⟩ := hp
  obtain ⟨P, P2, h1, h2, h3⟩ := h s.heap hP
  obtain ⟨n, o, w1, w2, w3, ⟨⟨r1, u, e1, e2, hB⟩, hF⟩, L, hL, hfr⟩ := h2 p e ha hc hk s m args below hf happ ⟨⟨hav, h1, hK⟩, hT⟩ hk'
  exact ⟨n, o, w1, w2, w3, ⟨⟨r1, u, e1, e2, h3 _ hF.1 hF.2 hB.1, hB.2⟩, hF⟩, L, hL, hfr⟩
def zSsS (S : zSg) (j : Nat) (v : Int32) : zSg := if v = S.1.2.1 (3 + j) then S else zPu S (S.1.1, upd S.1.2.1 (3 + j) v, S.1.2.2)
def zSsR (S : zSg) (j : Nat) (v : Int32) : Int32 := if v = S.1.2.1 (3 + j) then -2 else S.1.2.1 (3 + j)
theorem zSsS_1 (S : zSg) (j : Nat) (v : Int32) : (zSsS S j v).1 = (S.1.1, upd S.1.2.1 (3 + j) v, S.1.2.2) := by
  unfold zSsS
  by_cases c : v = S.1.2.1 (3 + j)
  · rw [if_pos c]
    have e : upd S.1.2.1 (3 + j) v = S.1.2.1 := by
      funext i
      unfold upd
      split
      · rename_i h
        rw [h, c]
      · rfl
    rw [e]
  · rw [if_neg c]
    rfl
theorem zSs_ok {S : zSg} (hS : zOk S) (j : Nat) (v : Int32) (h1 : 0 < upd S.1.2.1 (3 + j) v 3) (h2 : 0 < upd S.1.2.1 (3 + j) v 5) : zOk (zSsS S j v) := by
  unfold zSsS
  split
  · exact hS
  · exact zPu_ok hS ⟨hS.1.1, h1, h2, hS.1.2.2.2⟩
theorem s_X4_setSetting (l : Launch) (G : zG) (ad : Nat → Nat) (na : Nat → Nat → Nat) (ma : Nat → Nat) (hd : zTd ad na ma) (S : zSg) (hS : zOk S) (j : Nat) (hj : j < 6) (v : Int32) (hv : ¬ v < zLe j ∧ ¬ zGr j < v) : zMiT l G (zAll ad na ma) yX4_setSetting wsX4_setSetting 3 64 [.ref (ma 0), .int (nI j), .int v] (zCP G ad na ma S) (zSsR S j v) (zCP G ad na ma (zSsS S j v)) := by
  refine z_liftT (fun H hH => ?_)
  obtain ⟨π, T, n, g, τ, fl, h1, h2, h3, h5, h6⟩ := hH
  have p := p_X4_setSetting l G ad na ma hd π h1 S.2.1 hS.2.1 fl T n (h2.n ▸ hS.1.1) g τ (nI j) v
  have c1 : ¬ nI j < 0 ∧ ¬ 5 < nI j := ⟨nI_pos (by omega), fun q => by
    have q : nI 5 < nI j := q
    have := (nI_ltI (by omega) (by omega)).mp q
    omega⟩
  have ej : (nI j).toNatClampNeg = j := nI_clamp (by omega)
  have eg : g (3 + j) = S.1.2.1 (3 + j) := h2.g (by omega) (by omega)
  rw [ej] at p
  rw [if_neg (not_not_intro c1), if_neg (not_not_intro c1), if_neg (not_not_intro hv), if_neg (not_not_intro hv), eg] at p
  refine ⟨_, _, h6, p, fun H1 _ _ q => ?_⟩
  unfold zSsS
  by_cases c : v = S.1.2.1 (3 + j)
  · rw [if_pos c] at q ⊢
    exact ⟨π, T, n, g, τ, fl, h1, h2, h3, h5, q⟩
  · rw [if_neg c] at q ⊢
    refine zCP_push (g2 := upd g (3 + j) v) hS h1 h2 h3 h5 ⟨h2.1, fun i a b => ?_, h2.2.2⟩ q
    show upd g (3 + j) v i = upd S.1.2.1 (3 + j) v i
    unfold upd
    rw [h2.g a b]
/-- charging a sensor by 50 -/
def zChS (S : zSg) (k : Nat) : zSg := if ¬ (S.1.2.2 3 k = 1 ∧ ¬ 1000000 < S.1.2.2 2 k + 50) then S else zPu S (S.1.1, S.1.2.1, zSt S.1.2.2 2 k (S.1.2.2 2 k + 50))
def zChR (S : zSg) (k : Nat) : Int32 := if ¬ (S.1.2.2 3 k = 1 ∧ ¬ 1000000 < S.1.2.2 2 k + 50) then -2 else S.1.2.2 2 k + 50
theorem zCh_ok {S : zSg} (hS : zOk S) (k : Nat) : zOk (zChS S k) := by
  unfold zChS
  split
  · exact hS
  · refine zPu_ok hS ⟨hS.1.1, hS.1.2.1, hS.1.2.2.1, ?_⟩
    show 0 ≤ (zSt S.1.2.2 2 k (S.1.2.2 2 k + 50)) 11 9
    rw [zSt_nf _ _ _ _ (by decide)]
    exact hS.1.2.2.2
theorem s_X4_charge (l : Launch) (G : zG) (ad : Nat → Nat) (na : Nat → Nat → Nat) (ma : Nat → Nat) (hd : zTd ad na ma) (S : zSg) (hS : zOk S) (k : Nat) (hk : k < S.1.1) : zMi l G (zAll ad na ma) yX4_charge wsX4_charge 3 64 [.ref (ma 0), .int (nI k), .int 50] (zCP G ad na ma S) (zChR S k) (zCP G ad na ma (zChS S k)) := by
  refine z_lift (A := zAll ad na ma) (fun H hH => ?_) (fun _ h => h)
  obtain ⟨π, T, n, g, τ, fl, h1, h2, h3, h5, h6⟩ := hH
  obtain rfl := h2.n
  have p := p_X4_charge l G ad na ma hd π h1 S.2.1 hS.2.1 fl T S.1.1 hS.1.1 g τ (nI k) 50
  have c : (¬ nI k < 0 ∧ nI k < nI S.1.1) ∧ (¬ (50 : Int32) < 1 ∧ ¬ 100000 < (50 : Int32)) := ⟨zIxn hS.1.1 hk, by decide, by decide⟩
  have ek : (nI k).toNatClampNeg = k := nI_clamp (by have := hS.1.1; omega)
  have e3 : τ 3 k = S.1.2.2 3 k := h2.f (by decide) hk
  have e2 : τ 2 k = S.1.2.2 2 k := h2.f (by decide) hk
  rw [if_neg (not_not_intro c), if_neg (not_not_intro c), ek, e3, e2] at p
  unfold zChR zChS
  by_cases c2 : ¬ (S.1.2.2 3 k = 1 ∧ ¬ 1000000 < S.1.2.2 2 k + 50)
  · rw [if_pos c2, if_pos c2] at p
    rw [if_pos c2, if_pos c2]
    exact ⟨_, _, h6, p, fun H1 _ _ q => ⟨π, T, S.1.1, g, τ, fl, h1, h2, h3, h5, q⟩⟩
  · rw [if_neg c2, if_neg c2] at p
    rw [if_neg c2, if_neg c2]
    exact ⟨_, _, h6, p, fun H1 _ _ q => zCP_push (τ2 := zSt τ 2 k (S.1.2.2 2 k + 50)) hS h1 h2 h3 h5 ⟨h2.1, h2.2.1, h2.2.2.stt 2 k rfl⟩ q⟩
theorem zRp_add {n : Nat} {a b : zT} (h : zRp n a b) (x y w : Int32) : zRp (n + 1) (zNs a n x y w) (zPlc b n x y w) := by
  have key : ∀ f i, (f = 11 ∧ 9 ≤ i ∧ i < 15) ∨ (f < 9 ∧ i < n + 1) → zPlc b n x y w f i = zNs a n x y w f i := by
    intro f i q
    unfold zPlc zNs zBr
    simp only [zSt_ap]
    by_cases e : i = n
    · subst e
      rcases q with q | q
      · have := h.1 i q.2.1 q.2.2
        have h1 := q.1
        subst h1
        simp [this]
      · have cs : f = 0 ∨ f = 1 ∨ f = 2 ∨ f = 3 ∨ f = 4 ∨ f = 5 ∨ f = 6 ∨ f = 7 ∨ f = 8 := by omega
        rcases cs with rfl | rfl | rfl | rfl | rfl | rfl | rfl | rfl | rfl <;> simp
    · have hb : b f i = a f i := by
        rcases q with q | q
        · rw [q.1]
          exact h.1 i q.2.1 q.2.2
        · exact h.2 f i q.1 (by omega)
      simp [e, hb]
  exact ⟨fun k h1 h2 => key 11 k (Or.inl ⟨rfl, h1, h2⟩), fun f i h1 h2 => key f i (Or.inr ⟨h1, h2⟩)⟩
theorem zNs_9 (a : zT) (n : Nat) (x y b : Int32) : zNs a n x y b 11 9 = a 11 9 := by
  unfold zNs
  simp [zSt_ap]
theorem zAd_ok {S : zSg} (hS : zOk S) (hk : S.1.1 < 12) (x y b : Int32) : zOk (zPu S (S.1.1 + 1, S.1.2.1, zNs S.1.2.2 S.1.1 x y b)) := by
  refine zPu_ok hS ⟨by show S.1.1 + 1 ≤ 12; omega, hS.1.2.1, hS.1.2.2.1, ?_⟩
  show 0 ≤ zNs S.1.2.2 S.1.1 x y b 11 9
  rw [zNs_9]
  exact hS.1.2.2.2
theorem s_X4_addSensor (l : Launch) (G : zG) (ad : Nat → Nat) (na : Nat → Nat → Nat) (ma : Nat → Nat) (hd : zTd ad na ma) (S : zSg) (hS : zOk S) (hk : S.1.1 < 12) (x y b : Int32) (hc : zC3 x y b) : zMi l G (zAll ad na ma) yX4_addSensor wsX4_addSensor 3 64 [.ref (ma 0), .int x, .int y, .int b] (zCP G ad na ma S) (nI S.1.1) (zCP G ad na ma (zPu S (S.1.1 + 1, S.1.2.1, zNs S.1.2.2 S.1.1 x y b))) := by
  refine z_lift (A := zAll ad na ma) (fun H hH => ?_) (fun _ h => h)
  obtain ⟨π, T, n, g, τ, fl, h1, h2, h3, h5, h6⟩ := hH
  obtain rfl := h2.n
  have p := p_X4_addSensor l G ad na ma hd π h1 S.2.1 hS.2.1 fl T S.1.1 hS.1.1 g τ x y b
  have c2 : ¬ S.1.1 = 12 := by omega
  rw [if_neg (not_not_intro hc), if_neg (not_not_intro hc), if_neg c2, if_neg c2] at p
  exact ⟨_, _, h6, p, fun H1 _ _ q => zCP_push (τ2 := zPlc τ S.1.1 x y b) (n2 := S.1.1 + 1) hS h1 h2 h3 h5 ⟨rfl, h2.2.1, zRp_add h2.2.2 x y b⟩ q⟩
theorem zNA_g {G : zG} {ad : Nat → Nat} {n N : Nat} {g g2 : Nat → Int32} {X : va_W} {τ : zT} {H : Heap} (hg : ∀ j, 1 ≤ j → j < 9 → g j = g2 j) (h : zNA G ad n N g X τ H) : zNA G ad n N g2 X τ H := by
  obtain ⟨τ2, h1, hP⟩ := h
  refine ⟨τ2, h1, fun k q hk => ?_⟩
  match k with
  | 0 =>
    cases hk
    have e : zObj ad n g2 τ2 = zObj ad n g τ2 := by
      unfold zObj
      rw [hg 1 (by decide) (by decide), hg 2 (by decide) (by decide)]
    rw [e]
    exact hP 0 _ rfl
  | 1 => cases hk; exact hP 1 _ rfl
  | 2 =>
    cases hk
    have hx : H[ad 2]? = some (vp_cell G.2.2.1 (6, .inl (fun j => g (3 + j)))) := hP 2 _ rfl
    show H[ad 2]? = some (vp_cell _ _)
    rw [hx, zArr_exI]
    intro i hi
    exact hg _ (by omega) (by omega)
  | k + 3 => exact hP (k + 3) q hk
/-- run -/
def zRnS (S : zSg) (k : Nat) : zSg := if zCa S.1.1 S.1.2.2 = 0 then S else zPu S (S.1.1, S.1.2.1, (zPf S.1.1 S.1.2.1 k S.1.2.2).2)
def zRnR (S : zSg) (k : Nat) : Int32 := if zCa S.1.1 S.1.2.2 = 0 then -2 else nI (zPf S.1.1 S.1.2.1 k S.1.2.2).1
theorem zRn_ok {S : zSg} (hS : zOk S) (k : Nat) : zOk (zRnS S k) := by
  unfold zRnS
  split
  · exact hS
  · exact zPu_ok hS ⟨hS.1.1, hS.1.2.1, hS.1.2.2.1, zPf_gen hS.1.2.2.2 k⟩
theorem s_X4_run (l : Launch) (G : zG) (ad : Nat → Nat) (na : Nat → Nat → Nat) (ma : Nat → Nat) (hd : zTd ad na ma) (S : zSg) (hS : zOk S) (k : Nat) (h1k : 1 ≤ k) (h2k : k ≤ 50) : zMi l G (zAll ad na ma) yX4_run wsX4_run 6 136 [.ref (ma 0), .int (nI k)] (zCP G ad na ma S) (zRnR S k) (zCP G ad na ma (zRnS S k)) := by
  refine z_lift (A := zAll ad na ma) (fun H hH => ?_) (fun _ h => h)
  obtain ⟨π, T, n, g, τ, fl, h1, h2, h3, h5, h6⟩ := hH
  obtain rfl := h2.n
  have h6 := zNA_g (fun j a b => h2.g a b) h6
  have h2 : zSm S.1 (S.1.1, S.1.2.1, τ) := ⟨rfl, fun _ _ _ => rfl, h2.2.2⟩
  have p := p_X4_run l G ad na ma hd π h1 S.2.1 hS.2.1 fl T S.1.1 hS.1.1 S.1.2.1 τ hS.1.2.1 hS.1.2.2.1 S.1.2.2 h2.2.2 hS.1.2.2.2 (nI k)
  have ek : (nI k).toNatClampNeg = k := nI_clamp (by omega)
  have c1 : ¬ nI k < 1 ∧ ¬ 50 < nI k := ⟨fun q => by
    have q : nI k < nI 1 := q
    have := (nI_ltI (by omega) (by omega)).mp q
    omega, fun q => by
    have q : nI 50 < nI k := q
    have := (nI_ltI (by omega) (by omega)).mp q
    omega⟩
  have ec : zCa S.1.1 τ = zCa S.1.1 S.1.2.2 := h2.ca
  rw [if_neg (not_not_intro c1), if_neg (not_not_intro c1), ec, ek] at p
  unfold zRnR zRnS
  by_cases c2 : zCa S.1.1 S.1.2.2 = 0
  · rw [if_pos c2, if_pos c2] at p
    rw [if_pos c2, if_pos c2]
    exact ⟨_, _, h6, p, fun H1 _ _ q => ⟨π, T, S.1.1, S.1.2.1, τ, fl, h1, h2, h3, h5, q⟩⟩
  · rw [if_neg c2, if_neg c2] at p
    rw [if_neg c2, if_neg c2]
    refine ⟨_, _, h6, p, fun H1 _ _ q => ?_⟩
    obtain ⟨τ2, q1, q2⟩ := q
    exact zCP_push (τ2 := τ2) hS h1 h2 h3 h5 ⟨rfl, fun _ _ _ => rfl, q1⟩ q2
/-- undo -/
def zUnS (S : zSg) : zSg := (S.2.2 (S.2.1 - 1), S.2.1 - 1, S.2.2)
theorem zUn_ok {S : zSg} (hS : zOk S) (h0 : ¬ S.2.1 = 0) : zOk (zUnS S) := by
  have := hS.2.1
  exact ⟨hS.2.2 _ (by omega), by show S.2.1 - 1 ≤ 6; omega, fun i hi => hS.2.2 i (by have hi : i < S.2.1 - 1 := hi; omega)⟩
theorem s_X4_undo (l : Launch) (G : zG) (ad : Nat → Nat) (na : Nat → Nat → Nat) (ma : Nat → Nat) (hd : zTd ad na ma) (S : zSg) (hS : zOk S) (h0 : ¬ S.2.1 = 0) : zMi l G (zAll ad na ma) yX4_undo wsX4_undo 3 64 [.ref (ma 0)] (zCP G ad na ma S) (nI (S.2.1 - 1)) (zCP G ad na ma (zUnS S)) := by
  refine z_lift (A := zAll ad na ma) (fun H hH => ?_) (fun _ h => h)
  obtain ⟨π, T, n, g, τ, fl, h1, h2, h3, h5, h6⟩ := hH
  have p := p_X4_undo l G ad na ma hd π h1 S.2.1 hS.2.1 fl T n (h2.n ▸ hS.1.1) g τ h5
  rw [if_neg h0, if_neg h0] at p
  exact ⟨_, _, h6, p, fun H1 _ _ q => ⟨π, T, _, _, _, fl, h1, (zSm.cpy (n := (T (π (S.2.1 - 1))).1) (g := (T (π (S.2.1 - 1))).2.1) (τ := (T (π (S.2.1 - 1))).2.2) (h3 _ (by omega)) (0, g, τ)), fun i hi => h3 i (by have hi : i < S.2.1 - 1 := hi; omega), h5, q⟩⟩
end
section
/-! ===== numbers of the law: energy, sums; what a round keeps ===== -/
theorem zIt_inv2 {α : Type} {f : Nat → α → α} {n : Nat} (I : Nat → α → Prop) {a : α} (h0 : I 0 a) (hs : ∀ k a, k < n → I k a → I (k + 1) (f k a)) : ∀ k, k ≤ n → I k (zIt f k a) := by
  intro k
  induction k with
  | zero => exact fun _ => h0
  | succ k ih => exact fun hk => hs k _ (by omega) (ih (by omega))
/-- the energy that the law counts -/
def zEgS (τ : zT) (k : Nat) (v : Int32) : Int32 := v + τ 2 k
def zEg (n : Nat) (τ : zT) : Int32 := zIt (zEgS τ) n (τ 11 14)
theorem zEg_eq {n : Nat} {τ τ2 : zT} (h : ∀ i, i < n → τ2 2 i = τ 2 i) (h2 : τ2 11 14 = τ 11 14) : zEg n τ2 = zEg n τ := by
  unfold zEg
  rw [h2]
  refine zIt_cong (fun k b hk => ?_) n (Nat.le_refl n)
  unfold zEgS
  rw [h k hk]
theorem zEg_mv {τ τ2 : zT} {i : Nat} {c b : Int32} (h1 : τ2 2 i = τ 2 i - c) (h2 : ∀ j, j ≠ i → τ2 2 j = τ 2 j) : ∀ k, zIt (zEgS τ2) k (b + c) = zIt (zEgS τ) k b + (if i < k then 0 else c) := by
  intro k
  induction k with
  | zero => rfl
  | succ k ih =>
    rw [zIt_s, zIt_s, ih]
    unfold zEgS
    by_cases hi : i < k
    · rw [if_pos hi, if_pos (by omega), h2 k (by omega)]
      grind
    · rw [if_neg hi]
      by_cases e : i = k
      · subst e
        rw [if_pos (by omega), h1]
        grind
      · rw [if_neg (by omega), h2 k (fun q => e q.symm)]
        grind
theorem zEg_pd {n i : Nat} (hi : i < n) (τ : zT) (c : Int32) : zEg n (zPd τ i c) = zEg n τ := by
  unfold zEg
  have e : (zPd τ i c) 11 14 = τ 11 14 + c := by
    unfold zPd
    exact zSt_self _ _ _ _
  rw [e, zEg_mv (τ := τ) (i := i), if_pos hi]
  · exact Int32.add_zero _
  · unfold zPd
    rw [zSt_nf _ _ _ _ (by decide), zSt_self]
  · intro j hj
    unfold zPd
    rw [zSt_nf _ _ _ _ (by decide), zSt_ni _ _ _ _ hj]
theorem zEg_add {n i : Nat} (hi : i < n) (τ : zT) (c : Int32) : zEg n (zSt τ 2 i (τ 2 i + c)) = zEg n τ + c := by
  have h := zEg_mv (τ := zSt τ 2 i (τ 2 i + c)) (τ2 := τ) (i := i) (c := c) (b := τ 11 14 + 0) (by rw [zSt_self]; grind) (fun j hj => by rw [zSt_ni _ _ _ _ hj]) n
  rw [if_pos hi] at h
  have h3 : ∀ (k : Nat) (b c : Int32), zIt (zEgS τ) k (b + c) = zIt (zEgS τ) k b + c := by
    intro k b c
    induction k with
    | zero => rfl
    | succ k ih =>
      rw [zIt_s, zIt_s, ih]
      unfold zEgS
      grind
  unfold zEg
  rw [show (zSt τ 2 i (τ 2 i + c)) 11 14 = τ 11 14 from zSt_nf _ _ _ _ (by decide)]
  rw [h3] at h
  have h0 : τ 11 14 + 0 = τ 11 14 := Int32.add_zero _
  rw [h0] at h
  rw [h]
  grind
/-- sums of naturals -/
def zSu (f : Nat → Nat) : Nat → Nat
  | 0 => 0
  | k + 1 => zSu f k + f k
theorem zSu_le {f g : Nat → Nat} : ∀ n, (∀ i, i < n → f i ≤ g i) → zSu f n ≤ zSu g n := by
  intro n
  induction n with
  | zero => exact fun _ => Nat.le_refl _
  | succ n ih => exact fun h => Nat.add_le_add (ih fun i hi => h i (by omega)) (h n (by omega))
theorem zSu_lt {f g : Nat → Nat} {j : Nat} (hj : f j < g j) : ∀ n, j < n → (∀ i, i < n → f i ≤ g i) → zSu f n < zSu g n := by
  intro n
  induction n with
  | zero => exact fun h => absurd h (by omega)
  | succ n ih =>
    intro h h2
    show zSu f n + f n < zSu g n + g n
    by_cases e : j = n
    · subst e
      have := zSu_le (f := f) (g := g) j (fun i hi => h2 i (by omega))
      omega
    · have := ih (by omega) (fun i hi => h2 i (by omega))
      have := h2 n (by omega)
      omega
theorem zSu_eq {f g : Nat → Nat} : ∀ n, (∀ i, i < n → f i = g i) → zSu f n = zSu g n := fun n h => Nat.le_antisymm (zSu_le n fun i hi => Nat.le_of_eq (h i hi)) (zSu_le n fun i hi => Nat.le_of_eq (h i hi).symm)
theorem zSu_add (f g : Nat → Nat) : ∀ n, zSu (fun i => f i + g i) n = zSu f n + zSu g n := by
  intro n
  induction n with
  | zero => rfl
  | succ n ih =>
    show zSu (fun i => f i + g i) n + (f n + g n) = zSu f n + f n + (zSu g n + g n)
    rw [ih]
    omega
theorem zSu_0 : ∀ n, zSu (fun _ => 0) n = 0 := by
  intro n
  induction n with
  | zero => rfl
  | succ n ih => exact ih
theorem zSu_swap (f : Nat → Nat → Nat) (m : Nat) : ∀ n, zSu (fun h => zSu (f h) m) n = zSu (fun i => zSu (fun h => f h i) n) m := by
  intro n
  induction n with
  | zero => exact (zSu_0 m).symm
  | succ n ih =>
    show zSu (fun h => zSu (f h) m) n + zSu (f n) m = zSu (fun i => zSu (fun h => f h i) n + f n i) m
    rw [ih, zSu_add]
theorem zSu_b {f : Nat → Nat} {c : Nat} : ∀ n, (∀ i, i < n → f i ≤ c) → zSu f n ≤ n * c := by
  intro n
  induction n with
  | zero => exact fun _ => Nat.zero_le _
  | succ n ih =>
    intro h
    have := ih fun i hi => h i (by omega)
    have := h n (by omega)
    show zSu f n + f n ≤ (n + 1) * c
    rw [Nat.succ_mul]
    omega
/-- at most one place counts -/
theorem zSu_one {f : Nat → Nat} {a N : Nat} (h1 : ∀ i, f i ≤ 1) (h2 : ∀ i, i < N → f i ≠ 0 → i = a) : ∀ n, n ≤ N → zSu f n ≤ 1 ∧ (n ≤ a → zSu f n = 0) := by
  intro n
  induction n with
  | zero => exact fun _ => ⟨Nat.zero_le 1, fun _ => rfl⟩
  | succ n ih =>
    intro hn
    have ih := ih (by omega)
    show zSu f n + f n ≤ 1 ∧ (n + 1 ≤ a → zSu f n + f n = 0)
    by_cases e : n = a
    · have := ih.2 (by omega)
      have := h1 n
      exact ⟨by omega, fun q => by omega⟩
    · have : f n = 0 := Classical.byContradiction fun q => e (h2 n (by omega) q)
      exact ⟨by have := ih.1; omega, fun q => by have := ih.2 (by omega); omega⟩
theorem zSu_cut {f : Nat → Nat} {r : Nat} : ∀ n, r < n → zSu (fun j => if j = r then 0 else f j) n + f r = zSu f n := by
  intro n
  induction n with
  | zero => exact fun h => absurd h (by omega)
  | succ n ih =>
    intro h
    show zSu (fun j => if j = r then 0 else f j) n + (if n = r then 0 else f n) + f r = zSu f n + f n
    by_cases e : n = r
    · subst e
      rw [if_pos rfl]
      have := zSu_eq (f := fun j => if j = n then 0 else f j) (g := f) n (fun i hi => if_neg (by omega))
      omega
    · rw [if_neg e]
      have := ih (by omega)
      omega
/-- a counter of int32 -/
def zCnS (P : Nat → Bool) (i : Nat) (v : Int32) : Int32 := v + (if P i = true then 1 else 0)
theorem zCn_nI (P : Nat → Bool) : ∀ k, zIt (zCnS P) k 0 = nI (zSu (fun i => if P i = true then 1 else 0) k) := by
  intro k
  induction k with
  | zero => rfl
  | succ k ih =>
    rw [zIt_s, ih]
    unfold zCnS
    show _ = nI (zSu (fun i => if P i = true then 1 else 0) k + (if P k = true then 1 else 0))
    split
    · exact nI_1 _
    · exact Int32.add_zero _
/-- a sensor's life: what the round's number is R -/
def zLf (τ : zT) (R : Nat) (i : Nat) : Prop := (τ 3 i = 1 ∧ τ 6 i = -9) ∨ (τ 3 i = 0 ∧ ∃ d, d ≤ R ∧ τ 6 i = nI d)
/-- inside round R: energy E; a0: who was alive when it began; what is frozen (F) is as K has it -/
def zIv (n : Nat) (E : Int32) (R : Nat) (a0 : Nat → Bool) (F : Nat → Nat → Prop) (K : zT) (τ : zT) : Prop := zEg n τ = E ∧ τ 11 10 = nI R ∧ (∀ i, i < n → ∃ b, b ≤ 1000000 ∧ τ 2 i = nI b) ∧ (∀ i, i < n → zLf τ R i ∧ (τ 3 i = 1 → a0 i = true)) ∧ (∀ f i, F f i → τ f i = K f i) ∧ τ 11 13 = K 11 13
/-- what may be frozen -/
def zFz (F : Nat → Nat → Prop) : Prop := ∀ f i, F f i → f ≠ 2 ∧ f ≠ 3 ∧ f ≠ 6 ∧ ¬ (f = 11 ∧ i = 14)
section ZIV
variable {n : Nat} {E : Int32} {R : Nat} {a0 : Nat → Bool} {F : Nat → Nat → Prop} {K τ : zT}
theorem zIv.st (h : zIv n E R a0 F K τ) (f i : Nat) (v : Int32) (h1 : ¬ F f i) (h2 : f ≠ 2) (h3 : f ≠ 3) (h6 : f ≠ 6) (h11 : ¬ (f = 11 ∧ (i = 10 ∨ i = 13 ∨ i = 14))) : zIv n E R a0 F K (zSt τ f i v) := by
  obtain ⟨q1, q2, q3, q4, q5, q6⟩ := h
  refine ⟨(zEg_eq (fun j _ => zSt_nf _ _ _ _ (Ne.symm h2)) (by rw [zSt_ap, if_neg (by omega)])).trans q1, by rw [zSt_ap, if_neg (by omega)]; exact q2, fun j hj => by rw [zSt_nf _ _ _ _ (Ne.symm h2)]; exact q3 j hj, fun j hj => ?_, fun f2 i2 hF => ?_, by rw [zSt_ap, if_neg (by omega)]; exact q6⟩
  · have := q4 j hj
    unfold zLf at this ⊢
    rw [zSt_nf _ _ _ _ (Ne.symm h3), zSt_nf _ _ _ _ (Ne.symm h6)]
    exact this
  · rw [zSt_ap, if_neg (fun q => h1 (by rw [← q.1, ← q.2]; exact hF))]
    exact q5 f2 i2 hF
theorem zIv.die (h : zIv n E R a0 F K τ) (hF : zFz F) (i : Nat) : zIv n E R a0 F K (zDie τ i) := by
  obtain ⟨q1, q2, q3, q4, q5, q6⟩ := h
  have e : ∀ f j, f ≠ 3 → f ≠ 6 → (zDie τ i) f j = τ f j := fun f j a b => by
    unfold zDie
    rw [zSt_nf _ _ _ _ b, zSt_nf _ _ _ _ a]
  refine ⟨(zEg_eq (fun j _ => e 2 j (by decide) (by decide)) (e 11 14 (by decide) (by decide))).trans q1, (e 11 10 (by decide) (by decide)).trans q2, fun j hj => by rw [e 2 j (by decide) (by decide)]; exact q3 j hj, fun j hj => ?_, fun f2 i2 hf => (e f2 i2 (hF _ _ hf).2.1 (hF _ _ hf).2.2.1).trans (q5 f2 i2 hf), (e 11 13 (by decide) (by decide)).trans q6⟩
  have e3 : (zDie τ i) 3 j = if j = i then 0 else τ 3 j := by
    unfold zDie
    rw [zSt_nf _ _ _ _ (by decide), zSt_ap]
    simp
  have e6 : (zDie τ i) 6 j = if j = i then τ 11 10 else τ 6 j := by
    unfold zDie
    rw [zSt_ap]
    simp only [true_and]
    rw [zSt_nf _ _ _ _ (by decide)]
  unfold zLf
  rw [e3, e6]
  by_cases c : j = i
  · rw [if_pos c, if_pos c]
    exact ⟨Or.inr ⟨rfl, R, Nat.le_refl R, q2⟩, fun z => absurd z (by decide)⟩
  · rw [if_neg c, if_neg c]
    exact q4 j hj
theorem zIv.pd (h : zIv n E R a0 F K τ) (hF : zFz F) {i : Nat} (hi : i < n) {c : Nat} (hc : c < 1000000) (h2 : ¬ τ 2 i < nI c) : zIv n E R a0 F K (zPd τ i (nI c)) := by
  obtain ⟨q1, q2, q3, q4, q5, q6⟩ := h
  have e : ∀ f j, f ≠ 2 → ¬ (f = 11 ∧ j = 14) → (zPd τ i (nI c)) f j = τ f j := fun f j a b => by
    unfold zPd
    rw [zSt_ap, if_neg b, zSt_nf _ _ _ _ a]
  refine ⟨(zEg_pd hi τ _).trans q1, (e 11 10 (by decide) (by decide)).trans q2, fun j hj => ?_, fun j hj => ?_, fun f2 i2 hf => (e f2 i2 (hF _ _ hf).1 (hF _ _ hf).2.2.2).trans (q5 f2 i2 hf), (e 11 13 (by decide) (by decide)).trans q6⟩
  · obtain ⟨b, hb, eb⟩ := q3 j hj
    by_cases cj : j = i
    · subst cj
      rw [eb] at h2
      have hle : c ≤ b := by
        have := (not_congr (nI_ltI (a := b) (b := c) (by omega) (by omega))).mp h2
        omega
      refine ⟨b - c, by omega, ?_⟩
      unfold zPd
      rw [zSt_nf _ _ _ _ (by decide), zSt_self, eb, pk_sub hle]
    · refine ⟨b, hb, ?_⟩
      unfold zPd
      rw [zSt_nf _ _ _ _ (by decide), zSt_ni _ _ _ _ cj]
      exact eb
  · have := q4 j hj
    unfold zLf at this ⊢
    rw [e 3 j (by decide) (by omega), e 6 j (by decide) (by omega)]
    exact this
theorem zIv.fz (h : zIv n E R a0 F K τ) {f i : Nat} (hf : F f i) : τ f i = K f i := h.2.2.2.2.1 f i hf
/-- freeze other places -/
theorem zIv.re (h : zIv n E R a0 F K τ) (F2 : Nat → Nat → Prop) : zIv n E R a0 F2 τ τ := ⟨h.1, h.2.1, h.2.2.1, h.2.2.2.1, fun _ _ _ => rfl, rfl⟩
end ZIV
end
section
/-! ===== costs are small; what a payment leaves ===== -/
/-- the settings that the law makes -/
def zSe (g : Nat → Int32) : Prop := g 1 = 50 ∧ g 2 = 150 ∧ g 4 = 5 ∧ g 6 = 1 ∧ g 7 = 2 ∧ (∃ cy, 2 ≤ cy ∧ cy ≤ 8 ∧ g 3 = nI cy) ∧ ∃ dv, 1 ≤ dv ∧ dv ≤ 1000 ∧ g 5 = nI dv
def zXy (n : Nat) (τ : zT) : Prop := ∀ i, i < n → (∃ a, a < 100 ∧ τ 0 i = nI a) ∧ ∃ a, a < 100 ∧ τ 1 i = nI a
theorem zSq {a b : Nat} (ha : a < 200) (hb : b < 200) : ∃ m, m ≤ 40000 ∧ (nI a - nI b) * (nI a - nI b) = nI m := by
  by_cases h : b ≤ a
  · refine ⟨(a - b) * (a - b), ?_, by rw [pk_sub h, pk_mul]⟩
    have := Nat.mul_le_mul (show a - b ≤ 200 by omega) (show a - b ≤ 200 by omega)
    omega
  · refine ⟨(b - a) * (b - a), ?_, ?_⟩
    · have := Nat.mul_le_mul (show b - a ≤ 200 by omega) (show b - a ≤ 200 by omega)
      omega
    · rw [← pk_mul, ← pk_sub (show a ≤ b by omega)]
      grind
theorem zDi_sm {a b c d : Nat} (ha : a < 200) (hb : b < 200) (hc : c < 200) (hd : d < 200) : ∃ m, m ≤ 80000 ∧ zDi (nI a) (nI b) (nI c) (nI d) = nI m := by
  obtain ⟨m1, h1, e1⟩ := zSq ha hc
  obtain ⟨m2, h2, e2⟩ := zSq hb hd
  refine ⟨m1 + m2, by omega, ?_⟩
  unfold zDi
  rw [e1, e2, nI_add]
theorem zDi_sym (x y u v : Int32) : zDi x y u v = zDi u v x y := by
  unfold zDi
  grind
theorem zDs_sm {n : Nat} {τ : zT} (h : zXy n τ) {i j : Nat} (hi : i < n) (hj : j < n) : ∃ m, m ≤ 80000 ∧ zDs τ i j = nI m := by
  obtain ⟨⟨a, ha, ea⟩, b, hb, eb⟩ := h i hi
  obtain ⟨⟨c, hc, ec⟩, d, hd, ed⟩ := h j hj
  unfold zDs
  rw [ea, eb, ec, ed]
  exact zDi_sm (by omega) (by omega) (by omega) (by omega)
theorem zDb_sm {n : Nat} {g : Nat → Int32} {τ : zT} (hg : zSe g) (h : zXy n τ) {i : Nat} (hi : i < n) : ∃ m, m ≤ 80000 ∧ zDb g τ i = nI m := by
  obtain ⟨⟨a, ha, ea⟩, b, hb, eb⟩ := h i hi
  unfold zDb
  rw [ea, eb, hg.1, hg.2.1]
  exact zDi_sm (c := 50) (d := 150) (by omega) (by omega) (by omega) (by omega)
theorem zCo_sm {g : Nat → Int32} (hg : zSe g) {d : Int32} (h : ∃ m, m ≤ 80000 ∧ d = nI m) : ∃ c, c < 1000000 ∧ zCo g d = nI c := by
  obtain ⟨m, hm, rfl⟩ := h
  obtain ⟨-, -, h4, -, -, -, dv, h1, h2, h5⟩ := hg
  refine ⟨5 + m / dv, ?_, ?_⟩
  · have := Nat.div_le_self m dv
    omega
  · unfold zCo
    rw [h4, h5, pk_div (by omega) (by omega) (by omega)]
    exact nI_add 5 _
/-- only payments and deaths -/
def zOt (f i : Nat) : Prop := f ≠ 2 ∧ f ≠ 3 ∧ f ≠ 6 ∧ ¬ (f = 11 ∧ i = 14)
theorem zDie_e {τ : zT} {k f i : Nat} (h : zOt f i) : (zDie τ k) f i = τ f i := by
  unfold zDie
  rw [zSt_nf _ _ _ _ h.2.2.1, zSt_nf _ _ _ _ h.2.1]
theorem zPd_e {τ : zT} {k f i : Nat} {c : Int32} (h : zOt f i) : (zPd τ k c) f i = τ f i := by
  unfold zPd
  rw [zSt_ap, if_neg h.2.2.2, zSt_nf _ _ _ _ h.1]
theorem zTk_e {g : Nat → Int32} {τ : zT} {k f i : Nat} (h : zOt f i) : (zTk g τ k).1 f i = τ f i := by
  unfold zTk
  split
  · split
    · exact zDie_e h
    · split
      · exact (zDie_e h).trans (zPd_e h)
      · exact (zPd_e h).trans (zPd_e h)
  · rfl
theorem zSd_e {g : Nat → Int32} {τ : zT} {k j f i : Nat} (h : zOt f i) : (zSd g τ k j).1 f i = τ f i := by
  unfold zSd
  split
  · exact zDie_e h
  · exact (zTk_e h).trans (zPd_e h)
theorem zSb_e {g : Nat → Int32} {τ : zT} {k f i : Nat} {w : Int32} (h : zOt f i) (h2 : ¬ (f = 11 ∧ i = 12)) : (zSb g τ k w) f i = τ f i := by
  unfold zSb
  split
  · exact zDie_e h
  · rw [zSt_ap, if_neg h2]
    exact zPd_e h
section ZSTP
variable {n : Nat} {E : Int32} {R : Nat} {a0 : Nat → Bool} {F : Nat → Nat → Prop} {K τ : zT} {g : Nat → Int32}
theorem zIv.xy (h : zIv n E R a0 F K τ) (h01 : ∀ i, F 0 i ∧ F 1 i) (hxy : zXy n K) : zXy n τ := fun i hi => by
  rw [h.fz (h01 i).1, h.fz (h01 i).2]
  exact hxy i hi
theorem zIv.tk (h : zIv n E R a0 F K τ) (hF : zFz F) (hg : zSe g) {i : Nat} (hi : i < n) : zIv n E R a0 F K (zTk g τ i).1 := by
  have h4 : g 4 = nI 5 := hg.2.2.1
  have h6 : g 6 = nI 1 := hg.2.2.2.1
  unfold zTk
  rw [h4, h6]
  split
  · split
    · exact h.die hF i
    · rename_i c
      have h2 := h.pd hF hi (by omega) c
      split
      · exact h2.die hF i
      · rename_i c2
        exact h2.pd hF hi (by omega) c2
  · exact h
theorem zIv.sd (h : zIv n E R a0 F K τ) (hF : zFz F) (hg : zSe g) (h01 : ∀ i, F 0 i ∧ F 1 i) (hxy : zXy n K) {i j : Nat} (hi : i < n) (hj : j < n) : zIv n E R a0 F K (zSd g τ i j).1 := by
  obtain ⟨c, hc, ec⟩ := zCo_sm hg (zDs_sm (h.xy h01 hxy) hi hj)
  unfold zSd
  rw [ec]
  split
  · exact h.die hF i
  · rename_i q
    exact (h.pd hF hi hc q).tk hF hg hj
theorem zIv.sb (h : zIv n E R a0 F K τ) (hF : zFz F) (hg : zSe g) (h01 : ∀ i, F 0 i ∧ F 1 i) (hxy : zXy n K) {i : Nat} (hi : i < n) (w : Int32) (h12 : ¬ F 11 12) : zIv n E R a0 F K (zSb g τ i w) := by
  obtain ⟨c, hc, ec⟩ := zCo_sm hg (zDb_sm hg (h.xy h01 hxy) hi)
  unfold zSb
  rw [ec]
  split
  · exact h.die hF i
  · rename_i q
    exact (h.pd hF hi hc q).st 11 12 _ h12 (by omega) (by omega) (by omega) (by omega)
/-- how many came in -/
theorem zSb_12 (i : Nat) (w : Int32) : (zSb g τ i w) 11 12 = τ 11 12 ∨ (zSb g τ i w) 11 12 = τ 11 12 + w := by
  unfold zSb
  split
  · exact Or.inl (zDie_e ⟨by decide, by decide, by decide, by decide⟩)
  · exact Or.inr (zSt_self _ _ _ _)
end ZSTP
end
section
/-! ===== reports, own readings, delivery: who is told of is counted once ===== -/
def zF2 (f i : Nat) : Prop := f = 0 ∨ f = 1 ∨ f = 4 ∨ f = 5 ∨ f = 7 ∨ f = 8 ∨ f = 10 ∨ (f = 11 ∧ (i = 9 ∨ i = 11))
def zFr9 (f i : Nat) : Prop := zF2 f i ∨ (f = 11 ∧ i = 12)
def zFd (f i : Nat) : Prop := zF2 f i ∨ f = 9
theorem zFr9_z : zFz zFr9 := fun f i h => by
  unfold zFr9 zF2 at h
  omega
theorem zFd_z : zFz zFd := fun f i h => by
  unfold zFd zF2 at h
  omega
theorem zFr9_01 (i : Nat) : zFr9 0 i ∧ zFr9 1 i := ⟨Or.inl (Or.inl rfl), Or.inl (Or.inr (Or.inl rfl))⟩
theorem zFd_01 (i : Nat) : zFd 0 i ∧ zFd 1 i := ⟨Or.inl (Or.inl rfl), Or.inl (Or.inr (Or.inl rfl))⟩
theorem zFr9_7 (i : Nat) : zFr9 7 i := Or.inl (by unfold zF2; omega)
theorem zFd_7 (i : Nat) : zFd 7 i := Or.inl (by unfold zF2; omega)
theorem zFr9_9 (i : Nat) : ¬ zFr9 9 i := by
  unfold zFr9 zF2
  omega
theorem zFd_12 : ¬ zFd 11 12 := by
  unfold zFd zF2
  omega
theorem zOt_9 (i : Nat) : zOt 9 i := ⟨by decide, by decide, by decide, by omega⟩
theorem zOt_12 : zOt 11 12 := ⟨by decide, by decide, by decide, by omega⟩
/-- i joined h, and was alive; i belongs to h, and was alive -/
def zJi (K : zT) (a0 : Nat → Bool) (h i : Nat) : Nat := if i ≠ h ∧ K 7 i = nI h ∧ a0 i = true then 1 else 0
def zCi (K : zT) (a0 : Nat → Bool) (h i : Nat) : Nat := if K 7 i = nI h ∧ a0 i = true then 1 else 0
theorem zJC (K : zT) (a0 : Nat → Bool) (h i : Nat) : zJi K a0 h i ≤ zCi K a0 h i := by
  unfold zJi zCi
  split
  · rename_i c
    rw [if_pos c.2]
    exact Nat.le_refl 1
  · exact Nat.zero_le _
section ZREP
variable {n : Nat} {E : Int32} {R : Nat} {a0 : Nat → Bool} {K : zT} {g : Nat → Int32}
theorem zRp_in (hg : zSe g) (hxy : zXy n K) {h : Nat} (hh : h < n) {τ0 : zT} (h0 : zIv n E R a0 zFr9 K τ0) (h9 : τ0 9 h = 0) : zIv n E R a0 zFr9 K (zIt (zRpS g h) n τ0) ∧ (∀ j, j ≠ h → (zIt (zRpS g h) n τ0) 9 j = τ0 9 j) ∧ ∃ q, q ≤ zSu (zJi K a0 h) n ∧ (zIt (zRpS g h) n τ0) 9 h = nI q := by
  refine zIt_inv2 (f := zRpS g h) (fun k τ => zIv n E R a0 zFr9 K τ ∧ (∀ j, j ≠ h → τ 9 j = τ0 9 j) ∧ ∃ q, q ≤ zSu (zJi K a0 h) k ∧ τ 9 h = nI q) ⟨h0, fun _ _ => rfl, 0, Nat.le_refl 0, h9⟩ (fun k τ hk hI => ?_) n (Nat.le_refl n)
  obtain ⟨i1, i2, q, hq, eq⟩ := hI
  have hs : zSu (zJi K a0 h) (k + 1) = zSu (zJi K a0 h) k + zJi K a0 h k := rfl
  unfold zRpS
  by_cases c : (k ≠ h ∧ τ 7 k = nI h) ∧ τ 3 k = 1
  · rw [if_pos c]
    have i3 := i1.sd zFr9_z hg zFr9_01 hxy hk hh
    have hj : zJi K a0 h k = 1 := if_pos ⟨c.1.1, (i1.fz (zFr9_7 k)).symm.trans c.1.2, (i1.2.2.2.1 k hk).2 c.2⟩
    by_cases c2 : (zSd g τ k h).2 = 0
    · rw [if_pos c2]
      exact ⟨i3, fun j hj => (zSd_e (zOt_9 j)).trans (i2 j hj), q, by omega, (zSd_e (zOt_9 h)).trans eq⟩
    · rw [if_neg c2]
      refine ⟨i3.st 9 h _ (zFr9_9 h) (by decide) (by decide) (by decide) (by omega), fun j hj => ?_, q + 1, by omega, ?_⟩
      · rw [zSt_ni _ _ _ _ hj]
        exact (zSd_e (zOt_9 j)).trans (i2 j hj)
      · rw [zSt_self, zSd_e (zOt_9 h), eq]
        exact nI_1 q
  · rw [if_neg c]
    exact ⟨i1, i2, q, by omega, eq⟩
theorem zRh_all (hg : zSe g) (hxy : zXy n K) {τ0 : zT} (h0 : zIv n E R a0 zFr9 K τ0) (h9 : ∀ j, j < n → τ0 9 j = 0) : zIv n E R a0 zFr9 K (zIt (zRhS n g) n τ0) ∧ ∀ j, j < n → ∃ q, q ≤ zSu (zJi K a0 j) n ∧ (zIt (zRhS n g) n τ0) 9 j = nI q := by
  have key := zIt_inv2 (f := zRhS n g) (n := n) (a := τ0) (fun h τ => zIv n E R a0 zFr9 K τ ∧ ∀ j, j < n → (h ≤ j → τ 9 j = 0) ∧ ∃ q, q ≤ zSu (zJi K a0 j) n ∧ τ 9 j = nI q) ⟨h0, fun j hj => ⟨fun _ => h9 j hj, 0, Nat.zero_le _, h9 j hj⟩⟩ (fun h τ hh hI => ?_) n (Nat.le_refl n)
  · exact ⟨key.1, fun j hj => (key.2 j hj).2⟩
  · obtain ⟨i1, i2⟩ := hI
    unfold zRhS
    by_cases c : τ 7 h = nI h
    · rw [if_pos c]
      obtain ⟨r1, r2, r3⟩ := zRp_in hg hxy hh i1 ((i2 h hh).1 (Nat.le_refl h))
      refine ⟨r1, fun j hj => ?_⟩
      by_cases e : j = h
      · subst e
        exact ⟨fun z => absurd z (by omega), r3⟩
      · rw [r2 j e]
        exact ⟨fun z => (i2 j hj).1 (by omega), (i2 j hj).2⟩
    · rw [if_neg c]
      exact ⟨i1, fun j hj => ⟨fun z => (i2 j hj).1 (by omega), (i2 j hj).2⟩⟩
theorem zOw_all (hn : n ≤ 12) (hg : zSe g) {τ0 : zT} (h0 : zIv n E R a0 zFr9 K τ0) (h9 : ∀ j, j < n → ∃ q, q ≤ zSu (zJi K a0 j) n ∧ τ0 9 j = nI q) : zIv n E R a0 zFr9 K (zIt (zOwS g) n τ0) ∧ ∀ j, j < n → ∃ q, q ≤ zSu (zCi K a0 j) n ∧ (zIt (zOwS g) n τ0) 9 j = nI q := by
  have h6 : g 6 = nI 1 := hg.2.2.2.1
  have key := zIt_inv2 (f := zOwS g) (n := n) (a := τ0) (fun h τ => zIv n E R a0 zFr9 K τ ∧ ∀ j, j < n → ∃ q, q ≤ zSu (zCi K a0 j) n ∧ τ 9 j = nI q ∧ (h ≤ j → q ≤ zSu (zJi K a0 j) n)) ⟨h0, fun j hj => ?_⟩ (fun h τ hh hI => ?_) n (Nat.le_refl n)
  · refine ⟨key.1, fun j hj => ?_⟩
    obtain ⟨q, q1, q2, -⟩ := key.2 j hj
    exact ⟨q, q1, q2⟩
  · obtain ⟨q, q1, q2⟩ := h9 j hj
    exact ⟨q, Nat.le_trans q1 (zSu_le n fun i _ => zJC K a0 j i), q2, fun _ => q1⟩
  · obtain ⟨i1, i2⟩ := hI
    have keep : ∀ τ2 : zT, (∀ j, τ2 9 j = τ 9 j) → ∀ j, j < n → ∃ q, q ≤ zSu (zCi K a0 j) n ∧ τ2 9 j = nI q ∧ (h + 1 ≤ j → q ≤ zSu (zJi K a0 j) n) := fun τ2 e j hj => by
      obtain ⟨q, q1, q2, q3⟩ := i2 j hj
      exact ⟨q, q1, (e j).trans q2, fun z => q3 (by omega)⟩
    unfold zOwS
    by_cases c : τ 3 h = 1 ∧ τ 7 h = nI h
    · rw [if_pos c, h6]
      by_cases c2 : τ 2 h < nI 1
      · rw [if_pos c2]
        exact ⟨i1.die zFr9_z h, keep _ fun j => zDie_e (zOt_9 j)⟩
      · rw [if_neg c2]
        refine ⟨(i1.pd zFr9_z hh (by omega) c2).st 9 h _ (zFr9_9 h) (by decide) (by decide) (by decide) (by omega), fun j hj => ?_⟩
        by_cases e : j = h
        · subst e
          obtain ⟨q, q1, q2, q3⟩ := i2 j hj
          have hlt : zSu (zJi K a0 j) n < zSu (zCi K a0 j) n := by
            refine zSu_lt (j := j) ?_ n hj fun i _ => zJC K a0 j i
            have e1 : zJi K a0 j j = 0 := if_neg (fun z => z.1 rfl)
            have e2 : zCi K a0 j j = 1 := if_pos ⟨(i1.fz (zFr9_7 j)).symm.trans c.2, (i1.2.2.2.1 j hj).2 c.1⟩
            omega
          have := q3 (Nat.le_refl j)
          refine ⟨q + 1, by omega, ?_, fun z => absurd z (by omega)⟩
          rw [zSt_self, q2]
          exact nI_1 q
        · obtain ⟨q, q1, q2, q3⟩ := i2 j hj
          refine ⟨q, q1, ?_, fun z => q3 (by omega)⟩
          rw [zSt_ni _ _ _ _ e]
          exact (zPd_e (zOt_9 j)).trans q2
    · rw [if_neg c]
      exact ⟨i1, keep _ fun _ => rfl⟩
/-- direct delivery -/
theorem zDd_all (hg : zSe g) (hxy : zXy n K) {τ0 : zT} (h0 : zIv n E R a0 zFd K τ0) (h9 : ∀ j, j < n → ∃ q, q ≤ zSu (zCi K a0 j) n ∧ K 9 j = nI q) (h12 : τ0 11 12 = 0) : zIv n E R a0 zFd K (zIt (zDdS g) n τ0) ∧ ∃ d, d ≤ zSu (fun j => zSu (zCi K a0 j) n) n ∧ (zIt (zDdS g) n τ0) 11 12 = nI d := by
  refine zIt_inv2 (f := zDdS g) (n := n) (a := τ0) (fun h τ => zIv n E R a0 zFd K τ ∧ ∃ d, d ≤ zSu (fun j => zSu (zCi K a0 j) n) h ∧ τ 11 12 = nI d) ⟨h0, 0, Nat.le_refl 0, h12⟩ (fun h τ hh hI => ?_) n (Nat.le_refl n)
  obtain ⟨i1, d, d1, d2⟩ := hI
  have hs : zSu (fun j => zSu (zCi K a0 j) n) (h + 1) = zSu (fun j => zSu (zCi K a0 j) n) h + zSu (zCi K a0 h) n := rfl
  unfold zDdS
  by_cases c : τ 3 h = 1 ∧ τ 7 h = nI h
  · rw [if_pos c]
    refine ⟨i1.sb zFd_z hg zFd_01 hxy hh _ zFd_12, ?_⟩
    obtain ⟨q, q1, q2⟩ := h9 h hh
    have e9 : τ 9 h = nI q := (i1.fz (Or.inr rfl)).trans q2
    rcases zSb_12 (g := g) (τ := τ) h (τ 9 h) with e | e
    · exact ⟨d, by omega, e.trans d2⟩
    · refine ⟨d + q, by omega, ?_⟩
      rw [e, d2, e9, nI_add]
  · rw [if_neg c]
    exact ⟨i1, d, by omega, d2⟩
/-- the relay -/
theorem zRl_in (hg : zSe g) (hxy : zXy n K) {r : Nat} (hr : r < n) {τ0 : zT} (h0 : zIv n E R a0 zFr9 K τ0) (h9 : ∀ j, j < n → ∃ q, q ≤ zSu (zCi K a0 j) n ∧ τ0 9 j = nI q) : zIv n E R a0 zFr9 K (zIt (zRlS g r) n τ0) ∧ ∃ q, q ≤ zSu (fun j => zSu (zCi K a0 j) n) n ∧ (zIt (zRlS g r) n τ0) 9 r = nI q := by
  have key := zIt_inv2 (f := zRlS g r) (n := n) (a := τ0) (fun h τ => zIv n E R a0 zFr9 K τ ∧ (∀ j, j ≠ r → τ 9 j = τ0 9 j) ∧ ∃ q, q ≤ zSu (zCi K a0 r) n + zSu (fun j => if j = r then 0 else zSu (zCi K a0 j) n) h ∧ τ 9 r = nI q) ⟨h0, fun _ _ => rfl, ?_⟩ (fun h τ hh hI => ?_) n (Nat.le_refl n)
  · obtain ⟨k1, -, q, q1, q2⟩ := key
    refine ⟨k1, q, ?_, q2⟩
    have := zSu_cut (f := fun j => zSu (zCi K a0 j) n) n hr
    omega
  · obtain ⟨q, q1, q2⟩ := h9 r hr
    exact ⟨q, q1, q2⟩
  · obtain ⟨i1, i2, q, q1, q2⟩ := hI
    have hs : zSu (fun j => if j = r then 0 else zSu (zCi K a0 j) n) (h + 1) = zSu (fun j => if j = r then 0 else zSu (zCi K a0 j) n) h + (if h = r then 0 else zSu (zCi K a0 h) n) := rfl
    unfold zRlS
    by_cases c : h ≠ r ∧ (τ 3 h = 1 ∧ τ 7 h = nI h)
    · rw [if_pos c]
      rw [if_neg c.1] at hs
      have i3 := i1.sd zFr9_z hg zFr9_01 hxy hh hr
      by_cases c2 : (zSd g τ h r).2 = 0
      · rw [if_pos c2]
        exact ⟨i3, fun j hj => (zSd_e (zOt_9 j)).trans (i2 j hj), q, by omega, (zSd_e (zOt_9 r)).trans q2⟩
      · rw [if_neg c2]
        obtain ⟨w, w1, w2⟩ := h9 h hh
        refine ⟨i3.st 9 r _ (zFr9_9 r) (by decide) (by decide) (by decide) (by omega), fun j hj => ?_, q + w, by omega, ?_⟩
        · rw [zSt_ni _ _ _ _ hj]
          exact (zSd_e (zOt_9 j)).trans (i2 j hj)
        · rw [zSt_self, zSd_e (zOt_9 r), zSd_e (zOt_9 h), q2, i2 h c.1, w2, nI_add]
    · rw [if_neg c]
      exact ⟨i1, i2, q, by omega, q2⟩
theorem zRl_all (hg : zSe g) (hxy : zXy n K) {τ0 : zT} (h0 : zIv n E R a0 zFr9 K τ0) (h9 : ∀ j, j < n → ∃ q, q ≤ zSu (zCi K a0 j) n ∧ τ0 9 j = nI q) (h12 : τ0 11 12 = 0) : zIv n E R a0 zF2 K (zRl n g τ0) ∧ ∃ d, d ≤ zSu (fun j => zSu (zCi K a0 j) n) n ∧ (zRl n g τ0) 11 12 = nI d := by
  have wk : ∀ τ : zT, zIv n E R a0 zFr9 K τ → zIv n E R a0 zF2 K τ := fun τ h => ⟨h.1, h.2.1, h.2.2.1, h.2.2.2.1, fun f i hf => h.2.2.2.2.1 f i (Or.inl hf), h.2.2.2.2.2⟩
  have e12 : ∀ τ : zT, zIv n E R a0 zFr9 K τ → τ 11 12 = 0 := fun τ h => (h.fz (Or.inr ⟨rfl, rfl⟩)).trans ((h0.fz (Or.inr ⟨rfl, rfl⟩)).symm.trans h12)
  have z2 : zFz zF2 := fun f i h => by
    unfold zF2 at h
    omega
  have z12 : ¬ zF2 11 12 := by
    unfold zF2
    omega
  unfold zRl
  cases hr : zNe n τ0 (g 1) (g 2) with
  | none => exact ⟨wk _ h0, 0, Nat.zero_le _, h12⟩
  | some r =>
    have hr2 : r < n := zNe_lt n τ0 (g 1) (g 2) n r hr
    obtain ⟨i1, q, q1, q2⟩ := zRl_in hg hxy hr2 h0 h9
    have e := e12 _ i1
    show zIv n E R a0 zF2 K (zRlE g r _) ∧ ∃ d, d ≤ _ ∧ (zRlE g r _) 11 12 = nI d
    unfold zRlE
    split
    · refine ⟨(wk _ i1).sb z2 hg (fun i => ⟨Or.inl rfl, Or.inr (Or.inl rfl)⟩) hxy hr2 _ z12, ?_⟩
      rcases zSb_12 (g := g) (τ := zIt (zRlS g r) n τ0) r ((zIt (zRlS g r) n τ0) 9 r) with e2 | e2
      · exact ⟨0, Nat.zero_le _, e2.trans e⟩
      · refine ⟨q, q1, ?_⟩
        rw [e2, e, q2]
        exact Int32.zero_add _
    · exact ⟨wk _ i1, 0, Nat.zero_le _, e⟩
/-- a sensor belongs to one head at most -/
theorem zCi_sum (hn : n ≤ 12) (K : zT) (a0 : Nat → Bool) : zSu (fun j => zSu (zCi K a0 j) n) n ≤ zSu (fun i => if a0 i = true then 1 else 0) n := by
  rw [zSu_swap]
  refine zSu_le n fun i hi => ?_
  by_cases c : a0 i = true
  · rw [if_pos c]
    by_cases e : ∃ a, a < n ∧ K 7 i = nI a
    · obtain ⟨a, ha, ea⟩ := e
      refine (zSu_one (f := fun h => zCi K a0 h i) (a := a) (N := n) (fun h => ?_) (fun h hh q => ?_) n (Nat.le_refl n)).1
      · unfold zCi
        split <;> omega
      · have : K 7 i = nI h ∧ a0 i = true := Classical.byContradiction fun z => q (if_neg z)
        exact ((nI_eq (by omega) (by omega)).mp (ea.symm.trans this.1)).symm
    · have := zSu_eq (f := fun h => zCi K a0 h i) (g := fun _ => 0) n (fun h hh => if_neg (fun z => e ⟨h, hh, z.1⟩))
      rw [this, zSu_0]
      exact Nat.zero_le _
  · rw [if_neg c]
    have := zSu_eq (f := fun h => zCi K a0 h i) (g := fun _ => 0) n (fun h hh => if_neg (fun z => c z.2))
    rw [this, zSu_0]
    exact Nat.le_refl 0
/-- no head: each for itself -/
theorem zRb_all (hg : zSe g) (hxy : zXy n K) {τ0 : zT} (h0 : zIv n E R a0 zFd K τ0) (h12 : τ0 11 12 = 0) : zIv n E R a0 zFd K (zIt (zRbS g) n τ0) ∧ ∃ d, d ≤ zSu (fun i => if a0 i = true then 1 else 0) n ∧ (zIt (zRbS g) n τ0) 11 12 = nI d := by
  refine zIt_inv2 (f := zRbS g) (n := n) (a := τ0) (fun h τ => zIv n E R a0 zFd K τ ∧ ∃ d, d ≤ zSu (fun i => if a0 i = true then 1 else 0) h ∧ τ 11 12 = nI d) ⟨h0, 0, Nat.le_refl 0, h12⟩ (fun h τ hh hI => ?_) n (Nat.le_refl n)
  obtain ⟨i1, d, d1, d2⟩ := hI
  have hs : zSu (fun i => if a0 i = true then 1 else 0) (h + 1) = zSu (fun i => if a0 i = true then 1 else 0) h + (if a0 h = true then 1 else 0) := rfl
  unfold zRbS
  by_cases c : τ 3 h = 1
  · rw [if_pos c]
    rw [if_pos ((i1.2.2.2.1 h hh).2 c)] at hs
    refine ⟨i1.sb zFd_z hg zFd_01 hxy hh _ zFd_12, ?_⟩
    rcases zSb_12 (g := g) (τ := τ) h 1 with e | e
    · exact ⟨d, by omega, e.trans d2⟩
    · refine ⟨d + 1, by omega, ?_⟩
      rw [e, d2]
      exact nI_1 d
  · rw [if_neg c]
    exact ⟨i1, d, by omega, d2⟩
end ZREP
end
section
/-! ===== election and announcement ===== -/
theorem zDr_lt (x : Int32) : zDr (zNx x) < 1000 := by
  unfold zNx
  obtain ⟨j, hj, e⟩ := pk_andE (x * 1103515245 + 12345) (m := 2147483647) 31 (by decide)
  rw [e]
  have e1 : nI j / 65536 = nI (j / 65536) := pk_div (d := 65536) hj (by decide) (by decide)
  have hq : j / 65536 < 2 ^ 31 := by omega
  have e2 : nI (j / 65536) - nI (j / 65536) / 1000 * 1000 = nI (j / 65536 % 1000) := pk_rem (d := 1000) hq (by decide) (by decide)
  unfold zDr
  rw [e1, e2]
  exact nI_lt (b := 1000) (Nat.mod_lt _ (by decide)) (by decide)
theorem zElS_e {L : Int32} {k : Nat} {τ : zT} {f i : Nat} (h1 : f ≠ 10) (h2 : ¬ (f = 11 ∧ i = 9)) : (zElS L k τ) f i = τ f i := by
  unfold zElS
  split
  · rw [zSt_nf _ _ _ _ h1]
    unfold zDw
    rw [zSt_ap, if_neg h2]
  · rfl
theorem zEl_all {n : Nat} (L : Int32) {τ0 : zT} (h10 : ∀ i, i < n → τ0 10 i = 0) : (∀ f i, f ≠ 10 → ¬ (f = 11 ∧ i = 9) → (zIt (zElS L) n τ0) f i = τ0 f i) ∧ ∀ i, i < n → ((zIt (zElS L) n τ0) 10 i = 1 → τ0 3 i = 1 ∧ τ0 4 i = 1) ∧ (L = 1 → τ0 3 i = 1 → τ0 4 i = 1 → (zIt (zElS L) n τ0) 10 i = 1) := by
  have key := zIt_inv2 (f := zElS L) (n := n) (a := τ0) (fun k τ => (∀ f i, f ≠ 10 → ¬ (f = 11 ∧ i = 9) → τ f i = τ0 f i) ∧ ∀ i, i < n → (τ 10 i = 1 → τ0 3 i = 1 ∧ τ0 4 i = 1) ∧ (L = 1 → i < k → τ0 3 i = 1 → τ0 4 i = 1 → τ 10 i = 1)) ⟨fun _ _ _ _ => rfl, fun i hi => ⟨fun q => absurd ((h10 i hi).symm.trans q) (by decide), fun _ q => absurd q (by omega)⟩⟩ (fun k τ hk hI => ?_) n (Nat.le_refl n)
  · exact ⟨key.1, fun i hi => ⟨(key.2 i hi).1, fun a b c => (key.2 i hi).2 a hi b c⟩⟩
  · obtain ⟨i1, i2⟩ := hI
    refine ⟨fun f i a b => (zElS_e a b).trans (i1 f i a b), fun i hi => ?_⟩
    have e3 := i1 3 k (by decide) (by omega)
    have e4 := i1 4 k (by decide) (by omega)
    unfold zElS
    by_cases c : τ 3 k = 1 ∧ τ 4 k = 1
    · rw [if_pos c, zSt_ap]
      have hd : (zDw τ) 10 i = τ 10 i := by
        unfold zDw
        exact zSt_nf _ _ _ _ (by decide)
      by_cases e : i = k
      · subst e
        rw [if_pos ⟨rfl, rfl⟩]
        refine ⟨fun _ => ⟨e3.symm.trans c.1, e4.symm.trans c.2⟩, fun hL _ _ _ => ?_⟩
        rw [hL, Int32.mul_one]
        exact zBi_t (zDr_lt _)
      · rw [if_neg (fun q => e q.2), hd]
        exact ⟨(i2 i hi).1, fun hL hik => (i2 i hi).2 hL (by omega)⟩
    · rw [if_neg c]
      refine ⟨(i2 i hi).1, fun hL hik a b => ?_⟩
      by_cases e : i = k
      · subst e
        exact absurd ⟨e3.trans a, e4.trans b⟩ c
      · exact (i2 i hi).2 hL (by omega) a b
theorem zM9 {i : Nat} (h : i < 12) : ¬ (-9 : Int32) = nI i := fun q => zOi_lt h q.symm
def zFa (f i : Nat) : Prop := f = 0 ∨ f = 1 ∨ f = 8 ∨ f = 9 ∨ f = 10 ∨ (f = 11 ∧ (i = 9 ∨ i = 12))
theorem zFa_z : zFz zFa := fun f i h => by
  unfold zFa at h
  omega
/-- is a head -/
def zHd (τ : zT) (i : Nat) : Nat := if τ 7 i = nI i then 1 else 0
section ZANN
variable {g : Nat → Int32} {k : Nat} {τ : zT}
theorem zDie_3 (i : Nat) : (zDie τ k) 3 i = if i = k then 0 else τ 3 i := by
  unfold zDie
  rw [zSt_nf _ _ _ _ (by decide), zSt_ap]
  simp
theorem zAnY_7 (i : Nat) : (zAnY g k τ) 7 i = if i = k then nI k else τ 7 i := by
  unfold zAnY
  rw [zSt_nf _ _ _ _ (by decide), zSt_nf _ _ _ _ (by decide), zSt_nf _ _ _ _ (by decide), zSt_ap, zPd_e (f := 7) ⟨by decide, by decide, by decide, by omega⟩]
  simp
theorem zAnY_4 (i : Nat) : (zAnY g k τ) 4 i = if i = k then 0 else τ 4 i := by
  unfold zAnY
  rw [zSt_nf _ _ _ _ (by decide), zSt_nf _ _ _ _ (by decide), zSt_ap, zSt_nf _ _ _ _ (by decide), zPd_e (f := 4) ⟨by decide, by decide, by decide, by omega⟩]
  simp
theorem zAnY_3 (i : Nat) : (zAnY g k τ) 3 i = τ 3 i := by
  unfold zAnY zPd
  rw [zSt_nf _ _ _ _ (by decide), zSt_nf _ _ _ _ (by decide), zSt_nf _ _ _ _ (by decide), zSt_nf _ _ _ _ (by decide), zSt_nf _ _ _ _ (by decide), zSt_nf _ _ _ _ (by decide)]
theorem zAnY_c : (zAnY g k τ) 11 11 = τ 11 11 + 1 := by
  unfold zAnY
  exact zSt_self _ _ _ _
end ZANN
/-- what stands behind the announcement -/
def zAnI (n : Nat) (τe : zT) (k : Nat) (τ : zT) : Prop := (∀ i, i < n → ((τ 7 i = -9 ∧ τ 4 i = τe 4 i) ∨ (τ 7 i = nI i ∧ i < k ∧ τe 10 i = 1 ∧ τ 4 i = 0 ∧ τ 3 i = 1)) ∧ (i < k → τe 10 i = 1 → τ 7 i = nI i ∨ τ 3 i = 0) ∧ (k ≤ i → τ 3 i = τe 3 i)) ∧ τ 11 11 = nI (zSu (zHd τ) k)
theorem zAn_all {n : Nat} (hn : n ≤ 12) {E : Int32} {R : Nat} {a0 : Nat → Bool} {g : Nat → Int32} (hg : zSe g) {τe : zT} (h0 : zIv n E R a0 zFa τe τe) (h7 : ∀ i, i < n → τe 7 i = -9) (h11 : τe 11 11 = 0) (hE : ∀ i, i < n → τe 10 i = 1 → τe 3 i = 1) : zIv n E R a0 zFa τe (zIt (zAnS g) n τe) ∧ zAnI n τe n (zIt (zAnS g) n τe) := by
  have h7' : g 7 = nI 2 := hg.2.2.2.2.1
  refine zIt_inv2 (f := zAnS g) (n := n) (a := τe) (fun k τ => zIv n E R a0 zFa τe τ ∧ zAnI n τe k τ) ⟨h0, fun i hi => ⟨Or.inl ⟨h7 i hi, rfl⟩, fun q => absurd q (by omega), fun _ => rfl⟩, h11⟩ (fun k τ hk hI => ?_) n (Nat.le_refl n)
  obtain ⟨i1, i2, i3⟩ := hI
  have e10 : τ 10 k = τe 10 k := i1.fz (by unfold zFa; omega)
  have k7 : τ 7 k = -9 := by
    rcases (i2 k hk).1 with q | q
    · exact q.1
    · exact absurd q.2.1 (by omega)
  have k7' : ¬ τ 7 k = nI k := fun q => zM9 (by omega) (k7.symm.trans q)
  have keepS : ∀ τ2 : zT, (∀ i, i < k → τ2 7 i = τ 7 i) → zSu (zHd τ2) k = zSu (zHd τ) k := fun τ2 e => zSu_eq k fun i hi => by
    unfold zHd
    rw [e i hi]
  unfold zAnS
  by_cases c : τ 10 k = 1
  · rw [if_pos c, h7']
    by_cases c2 : τ 2 k < nI 2
    · rw [if_pos c2]
      have e7 : ∀ i, (zDie τ k) 7 i = τ 7 i := fun i => zDie_e ⟨by decide, by decide, by decide, by omega⟩
      refine ⟨i1.die zFa_z k, fun i hi => ?_, ?_⟩
      · rw [e7 i, zDie_e (f := 4) ⟨by decide, by decide, by decide, by omega⟩, zDie_3]
        by_cases e : i = k
        · subst e
          rw [if_pos rfl]
          refine ⟨Or.inl ⟨k7, ?_⟩, fun _ _ => Or.inr rfl, fun q => absurd q (by omega)⟩
          rcases (i2 i hi).1 with q | q
          · exact q.2
          · exact absurd q.1 k7'
        · rw [if_neg e]
          obtain ⟨j1, j2, j3⟩ := i2 i hi
          refine ⟨j1.elim Or.inl fun q => Or.inr ⟨q.1, by omega, q.2.2⟩, fun q => j2 (by omega), fun q => j3 (by omega)⟩
      · rw [zDie_e (f := 11) (i := 11) ⟨by decide, by decide, by decide, by omega⟩, i3]
        have e8 : zHd (zDie τ k) k = 0 := if_neg (by rw [e7 k]; exact k7')
        show _ = nI (zSu (zHd (zDie τ k)) k + zHd (zDie τ k) k)
        rw [e8, keepS _ fun i _ => e7 i]
        rfl
    · rw [if_neg c2]
      have p1 := i1.pd zFa_z hk (by omega) c2
      have iv : zIv n E R a0 zFa τe (zAnY g k τ) := by
        unfold zAnY
        rw [h7']
        exact (((p1.st 7 k _ (by unfold zFa; omega) (by decide) (by decide) (by decide) (by omega)).st 4 k _ (by unfold zFa; omega) (by decide) (by decide) (by decide) (by omega)).st 5 k _ (by unfold zFa; omega) (by decide) (by decide) (by decide) (by omega)).st 11 11 _ (by unfold zFa; omega) (by decide) (by decide) (by decide) (by omega)
      refine ⟨iv, fun i hi => ?_, ?_⟩
      · rw [zAnY_7, zAnY_4, zAnY_3]
        by_cases e : i = k
        · subst e
          rw [if_pos rfl, if_pos rfl]
          have e3 : τ 3 i = 1 := ((i2 i hi).2.2 (Nat.le_refl i)).trans (hE i hi (e10.symm.trans c))
          exact ⟨Or.inr ⟨rfl, by omega, e10.symm.trans c, rfl, e3⟩, fun _ _ => Or.inl rfl, fun q => absurd q (by omega)⟩
        · rw [if_neg e, if_neg e]
          obtain ⟨j1, j2, j3⟩ := i2 i hi
          refine ⟨j1.elim Or.inl fun q => Or.inr ⟨q.1, by omega, q.2.2⟩, fun q => j2 (by omega), fun q => j3 (by omega)⟩
      · rw [zAnY_c, i3]
        have e8 : zHd (zAnY g k τ) k = 1 := if_pos (by rw [zAnY_7, if_pos rfl])
        show _ = nI (zSu (zHd (zAnY g k τ)) k + zHd (zAnY g k τ) k)
        rw [e8, keepS (zAnY g k τ) (fun i hi => by rw [zAnY_7, if_neg (by omega)])]
        exact nI_1 _
  · rw [if_neg c]
    refine ⟨i1, fun i hi => ?_, ?_⟩
    · obtain ⟨j1, j2, j3⟩ := i2 i hi
      refine ⟨j1.elim Or.inl fun q => Or.inr ⟨q.1, by omega, q.2.2⟩, fun q z => ?_, fun q => j3 (by omega)⟩
      by_cases e : i = k
      · subst e
        exact absurd (e10.trans z) c
      · exact j2 (by omega) z
    · rw [i3]
      have e8 : zHd τ k = 0 := if_neg k7'
      show _ = nI (zSu (zHd τ) k + zHd τ k)
      rw [e8]
      rfl
end
section
/-! ===== joining and slots ===== -/
theorem zNe_sp (n : Nat) (τ : zT) (x y : Int32) {b : Nat} (h : zNe n τ x y = some b) : b < n ∧ τ 3 b = 1 ∧ τ 7 b = nI b ∧ ∀ j, j < n → τ 3 j = 1 → τ 7 j = nI j → ¬ zDi (τ 0 j) (τ 1 j) x y < zDi (τ 0 b) (τ 1 b) x y ∧ (zDi (τ 0 j) (τ 1 j) x y = zDi (τ 0 b) (τ 1 b) x y → ¬ j < b) := by
  have key := zIt_inv2 (f := zNeS τ x y) (n := n) (a := none) (fun k o => (o = none → ∀ j, j < k → ¬ (τ 3 j = 1 ∧ τ 7 j = nI j)) ∧ ∀ b, o = some b → b < k ∧ τ 3 b = 1 ∧ τ 7 b = nI b ∧ ∀ j, j < k → τ 3 j = 1 → τ 7 j = nI j → ¬ zDi (τ 0 j) (τ 1 j) x y < zDi (τ 0 b) (τ 1 b) x y ∧ (zDi (τ 0 j) (τ 1 j) x y = zDi (τ 0 b) (τ 1 b) x y → ¬ j < b)) ⟨fun _ j hj => absurd hj (by omega), fun b q => by cases q⟩ (fun k o hk hI => ?_) n (Nat.le_refl n)
  · exact key.2 b h
  · obtain ⟨i1, i2⟩ := hI
    unfold zNeS
    by_cases c : (τ 3 k = 1 ∧ τ 7 k = nI k) ∧ (o = none ∨ zDi (τ 0 k) (τ 1 k) x y < zOd τ x y o)
    · rw [if_pos c]
      refine ⟨fun q => (by cases q), fun b q => ?_⟩
      cases q
      refine ⟨by omega, c.1.1, c.1.2, fun j hj a3 a7 => ?_⟩
      by_cases e : j = k
      · subst e
        exact ⟨Int32.lt_irrefl, fun _ => Nat.lt_irrefl j⟩
      · rcases c.2 with q | q
        · exact absurd ⟨a3, a7⟩ (i1 q j (by omega))
        · cases o with
          | none => exact absurd ⟨a3, a7⟩ (i1 rfl j (by omega))
          | some b0 =>
            have q : zDi (τ 0 k) (τ 1 k) x y < zDi (τ 0 b0) (τ 1 b0) x y := q
            have w := (i2 b0 rfl).2.2.2 j (by omega) a3 a7
            rw [Int32.lt_iff_toInt_lt] at q
            have w1 := w.1
            rw [Int32.lt_iff_toInt_lt] at w1
            refine ⟨fun z => ?_, fun z => ?_⟩
            · rw [Int32.lt_iff_toInt_lt] at z
              omega
            · rw [z] at w1
              omega
    · rw [if_neg c]
      refine ⟨fun q j hj z => ?_, fun b q => ?_⟩
      · by_cases e : j = k
        · subst e
          exact c ⟨z, Or.inl q⟩
        · exact i1 q j (by omega) z
      · obtain ⟨j1, j2, j3, j4⟩ := i2 b q
        refine ⟨by omega, j2, j3, fun j hj a3 a7 => ?_⟩
        by_cases e : j = k
        · subst e
          refine ⟨fun z => c ⟨⟨a3, a7⟩, Or.inr ?_⟩, fun _ => by omega⟩
          rw [q]
          exact z
        · exact j4 j (by omega) a3 a7
/-- h is the nearest head for i -/
def zNr (n : Nat) (τ : zT) (i h : Nat) : Prop := ∀ j, j < n → τ 7 j = nI j → ¬ zDs τ i j < zDs τ i h ∧ (zDs τ i j = zDs τ i h → ¬ j < h)
theorem zJ1_all {n : Nat} (hn : n ≤ 12) {τa : zT} (hA : ∀ i, i < n → τa 7 i = -9 ∨ (τa 7 i = nI i ∧ τa 3 i = 1)) : (∀ f i, f ≠ 7 → (zIt (zJ1S n) n τa) f i = τa f i) ∧ ∀ i, i < n → (τa 7 i = nI i → (zIt (zJ1S n) n τa) 7 i = nI i) ∧ (τa 7 i = -9 → (zIt (zJ1S n) n τa) 7 i = -9 ∨ ∃ h, h < n ∧ h ≠ i ∧ τa 7 h = nI h ∧ (zIt (zJ1S n) n τa) 7 i = nI h ∧ zNr n τa i h) := by
  refine zIt_inv2 (f := zJ1S n) (n := n) (a := τa) (fun _ τ => (∀ f i, f ≠ 7 → τ f i = τa f i) ∧ ∀ i, i < n → (τa 7 i = nI i → τ 7 i = nI i) ∧ (τa 7 i = -9 → τ 7 i = -9 ∨ ∃ h, h < n ∧ h ≠ i ∧ τa 7 h = nI h ∧ τ 7 i = nI h ∧ zNr n τa i h)) ⟨fun _ _ _ => rfl, fun i hi => ⟨fun q => q, fun q => Or.inl q⟩⟩ (fun k τ hk hI => ?_) n (Nat.le_refl n)
  obtain ⟨i1, i2⟩ := hI
  have hd : ∀ j, j < n → τ 7 j = nI j → τa 7 j = nI j := fun j hj q => by
    rcases hA j hj with w | w
    · rcases (i2 j hj).2 w with z | ⟨h, h1, h2, -, h4, -⟩
      · exact absurd (z.symm.trans q) (zM9 (by omega))
      · exact absurd ((nI_eq (by omega) (by omega)).mp (h4.symm.trans q)) h2
    · exact w.1
  unfold zJ1S
  by_cases c : τ 3 k = 1 ∧ ¬ τ 7 k = nI k
  · rw [if_pos c]
    refine ⟨fun f i hf => (zSt_nf _ _ _ _ hf).trans (i1 f i hf), fun i hi => ?_⟩
    by_cases e : i = k
    · subst e
      refine ⟨fun q => absurd ((i2 i hi).1 q) c.2, fun _ => ?_⟩
      rw [zSt_self]
      cases hb : zNe n τ (τ 0 i) (τ 1 i) with
      | none => exact Or.inl rfl
      | some b =>
        obtain ⟨b1, b2, b3, b4⟩ := zNe_sp n τ _ _ hb
        refine Or.inr ⟨b, b1, fun q => c.2 (q ▸ b3), hd b b1 b3, rfl, fun j hj a7 => ?_⟩
        have a3 : τ 3 j = 1 := by
          rw [i1 3 j (by decide)]
          rcases hA j hj with w | w
          · exact absurd (w.symm.trans a7) (zM9 (by omega))
          · exact w.2
        have w := b4 j hj a3 ((i2 j hj).1 a7)
        unfold zDs
        rw [zDi_sym (τa 0 i), zDi_sym (τa 0 i) (τa 1 i) (τa 0 b)]
        rw [i1 0 j (by decide), i1 1 j (by decide), i1 0 i (by decide), i1 1 i (by decide), i1 0 b (by decide), i1 1 b (by decide)] at w
        exact w
    · rw [zSt_ni _ _ _ _ e]
      exact i2 i hi
  · rw [if_neg c]
    exact ⟨i1, i2⟩
/-- how many joined h ahead of k -/
def zSlc (τ : zT) (h k : Nat) : Int32 := zIt (zCnS (fun i => decide (i ≠ h ∧ τ 7 i = nI h))) k 0
theorem zSlc_eq {τ τ2 : zT} (h : ∀ i, τ2 7 i = τ 7 i) : zSlc τ2 = zSlc τ := by
  funext a b
  unfold zSlc
  have e : (fun i => decide (i ≠ a ∧ τ2 7 i = nI a)) = fun i => decide (i ≠ a ∧ τ 7 i = nI a) := funext fun i => by rw [h i]
  rw [e]
theorem zGs_all (n h : Nat) (τ0 : zT) : (∀ f i, f ≠ 8 → (zGs n h τ0) f i = τ0 f i) ∧ ∀ i, (zGs n h τ0) 8 i = if i < n ∧ i ≠ h ∧ τ0 7 i = nI h then zSlc τ0 h i else τ0 8 i := by
  have key := zIt_inv2 (f := zGsS h) (n := n) (a := (0, τ0)) (fun k u => (∀ f i, f ≠ 8 → u.2 f i = τ0 f i) ∧ u.1 = zSlc τ0 h k ∧ ∀ i, u.2 8 i = if i < k ∧ i ≠ h ∧ τ0 7 i = nI h then zSlc τ0 h i else τ0 8 i) ⟨fun _ _ _ => rfl, rfl, fun i => (if_neg (fun q => absurd q.1 (by omega))).symm⟩ (fun k u hk hI => ?_) n (Nat.le_refl n)
  · exact ⟨key.1, key.2.2⟩
  · obtain ⟨i1, i2, i3⟩ := hI
    have hs : zSlc τ0 h (k + 1) = zSlc τ0 h k + (if decide (k ≠ h ∧ τ0 7 k = nI h) = true then 1 else 0) := rfl
    have e7 := i1 7 k (by decide)
    unfold zGsS
    rw [e7]
    by_cases c : k ≠ h ∧ τ0 7 k = nI h
    · rw [if_pos c]
      refine ⟨fun f i hf => (zSt_nf _ _ _ _ hf).trans (i1 f i hf), ?_, fun i => ?_⟩
      · rw [hs, if_pos (decide_eq_true c), ← i2]
      · show zSt u.2 8 k u.1 8 i = _
        rw [zSt_ap]
        by_cases e : i = k
        · subst e
          rw [if_pos ⟨rfl, rfl⟩, if_pos ⟨by omega, c⟩, i2]
        · rw [if_neg (fun q => e q.2), i3]
          by_cases w : i < k ∧ i ≠ h ∧ τ0 7 i = nI h
          · rw [if_pos w, if_pos ⟨by omega, w.2⟩]
          · rw [if_neg w, if_neg (fun q => w ⟨by omega, q.2⟩)]
    · rw [if_neg c]
      refine ⟨i1, ?_, fun i => ?_⟩
      · rw [hs, if_neg (fun q => c (of_decide_eq_true q)), i2]
        exact (Int32.add_zero _).symm
      · rw [i3]
        by_cases w : i < k ∧ i ≠ h ∧ τ0 7 i = nI h
        · rw [if_pos w, if_pos ⟨by omega, w.2⟩]
        · rw [if_neg w, if_neg (fun q => ?_)]
          by_cases e : i = k
          · subst e
            exact c q.2
          · exact w ⟨by omega, q.2⟩
theorem zJ2_all {n : Nat} (hn : n ≤ 12) (τ1 : zT) : (∀ f i, f ≠ 8 → (zIt (zJ2S n) n τ1) f i = τ1 f i) ∧ ∀ i, i < n → (∀ h, h < n → τ1 7 h = nI h → i ≠ h → τ1 7 i = nI h → (zIt (zJ2S n) n τ1) 8 i = zSlc τ1 h i) ∧ (τ1 7 i = -9 ∨ τ1 7 i = nI i → (zIt (zJ2S n) n τ1) 8 i = τ1 8 i) := by
  have key := zIt_inv2 (f := zJ2S n) (n := n) (a := τ1) (fun k τ => (∀ f i, f ≠ 8 → τ f i = τ1 f i) ∧ ∀ i, i < n → (∀ h, h < k → τ1 7 h = nI h → i ≠ h → τ1 7 i = nI h → τ 8 i = zSlc τ1 h i) ∧ (τ1 7 i = -9 ∨ τ1 7 i = nI i → τ 8 i = τ1 8 i)) ⟨fun _ _ _ => rfl, fun i hi => ⟨fun h q => absurd q (by omega), fun _ => rfl⟩⟩ (fun k τ hk hI => ?_) n (Nat.le_refl n)
  · exact key
  · obtain ⟨i1, i2⟩ := hI
    unfold zJ2S
    by_cases c : τ 7 k = nI k
    · rw [if_pos c]
      obtain ⟨g1, g2⟩ := zGs_all n k τ
      have es : zSlc τ = zSlc τ1 := zSlc_eq fun i => i1 7 i (by decide)
      refine ⟨fun f i hf => (g1 f i hf).trans (i1 f i hf), fun i hi => ⟨fun h hh a1 a2 a3 => ?_, fun q => ?_⟩⟩
      · rw [g2, i1 7 i (by decide), es]
        by_cases e : h = k
        · subst e
          exact if_pos ⟨hi, a2, a3⟩
        · rw [if_neg (fun z => e ((nI_eq (by omega) (by omega)).mp (a3.symm.trans z.2.2)))]
          exact (i2 i hi).1 h (by omega) a1 a2 a3
      · rw [g2, i1 7 i (by decide), if_neg (fun z => ?_)]
        · exact (i2 i hi).2 q
        · rcases q with q | q
          · exact zM9 (by omega) (q.symm.trans z.2.2)
          · exact z.2.1 ((nI_eq (by omega) (by omega)).mp (q.symm.trans z.2.2))
    · rw [if_neg c]
      refine ⟨i1, fun i hi => ⟨fun h hh a1 a2 a3 => ?_, (i2 i hi).2⟩⟩
      by_cases e : h = k
      · subst e
        exact absurd ((i1 7 h (by decide)).trans a1) c
      · exact (i2 i hi).1 h (by omega) a1 a2 a3
/-- what the law asks of clusters -/
def zCls (n : Nat) (τ : zT) : Prop := ∀ k, k < n → (τ 7 k = -9 ∧ τ 8 k = -9) ∨ (τ 7 k = nI k ∧ τ 8 k = -9) ∨ ∃ h, h < n ∧ h ≠ k ∧ τ 7 k = nI h ∧ τ 7 h = nI h ∧ τ 8 k = zSlc τ h k ∧ zNr n τ k h
theorem zCls_eq {n : Nat} {τ τ2 : zT} (h : zCls n τ) (e : ∀ f i, (f = 0 ∨ f = 1 ∨ f = 7 ∨ f = 8) → τ2 f i = τ f i) : zCls n τ2 := by
  intro k hk
  have es : zSlc τ2 = zSlc τ := zSlc_eq fun i => e 7 i (by omega)
  have er : ∀ a b, zDs τ2 a b = zDs τ a b := fun a b => by
    unfold zDs
    rw [e 0 a (by omega), e 1 a (by omega), e 0 b (by omega), e 1 b (by omega)]
  rw [e 7 k (by omega), e 8 k (by omega)]
  rcases h k hk with q | q | ⟨h, h1, h2, h3, h4, h5, h6⟩
  · exact Or.inl q
  · exact Or.inr (Or.inl q)
  · refine Or.inr (Or.inr ⟨h, h1, h2, h3, (e 7 h (by omega)).trans h4, es ▸ h5, fun j hj a => ?_⟩)
    rw [er, er]
    exact h6 j hj ((e 7 j (by omega)).symm.trans a)
theorem zJo_all {n : Nat} (hn : n ≤ 12) {τa : zT} (hA : ∀ i, i < n → τa 7 i = -9 ∨ (τa 7 i = nI i ∧ τa 3 i = 1)) (h8 : ∀ i, i < n → τa 8 i = -9) : (∀ f i, f ≠ 7 → f ≠ 8 → (zJo n τa) f i = τa f i) ∧ zCls n (zJo n τa) ∧ ∀ i, i < n → ((zJo n τa) 7 i = nI i ↔ τa 7 i = nI i) := by
  obtain ⟨a1, a2⟩ := zJ1_all hn hA
  obtain ⟨b1, b2⟩ := zJ2_all hn (zIt (zJ1S n) n τa)
  have e7 : ∀ i, (zJo n τa) 7 i = (zIt (zJ1S n) n τa) 7 i := fun i => b1 7 i (by decide)
  have hd : ∀ i, i < n → ((zJo n τa) 7 i = nI i ↔ τa 7 i = nI i) := fun i hi => by
    rw [e7]
    refine ⟨fun q => ?_, (a2 i hi).1⟩
    rcases hA i hi with w | w
    · rcases (a2 i hi).2 w with z | ⟨h, h1, h2, -, h4, -⟩
      · exact absurd (z.symm.trans q) (zM9 (by omega))
      · exact absurd ((nI_eq (by omega) (by omega)).mp (h4.symm.trans q)) h2
    · exact w.1
  refine ⟨fun f i h7 h8 => (b1 f i h8).trans (a1 f i h7), fun k hk => ?_, hd⟩
  have e8 : (zIt (zJ1S n) n τa) 8 k = -9 := (a1 8 k (by decide)).trans (h8 k hk)
  rcases hA k hk with w | w
  · rcases (a2 k hk).2 w with z | ⟨h, h1, h2, h3, h4, h5⟩
    · exact Or.inl ⟨(e7 k).trans z, ((b2 k hk).2 (Or.inl z)).trans e8⟩
    · have h3' := (a2 h h1).1 h3
      refine Or.inr (Or.inr ⟨h, h1, h2, (e7 k).trans h4, (e7 h).trans h3', ?_, fun j hj a => ?_⟩)
      · rw [zSlc_eq e7]
        exact (b2 k hk).1 h h1 h3' (Ne.symm h2) h4
      · have er : ∀ a b, zDs (zJo n τa) a b = zDs τa a b := fun a b => by
          unfold zDs
          have q0 : ∀ i, (zJo n τa) 0 i = τa 0 i := fun i => (b1 0 i (by decide)).trans (a1 0 i (by decide))
          have q1 : ∀ i, (zJo n τa) 1 i = τa 1 i := fun i => (b1 1 i (by decide)).trans (a1 1 i (by decide))
          rw [q0, q0, q1, q1]
        rw [er, er]
        exact h5 j hj ((hd j hj).mp a)
  · have z := (a2 k hk).1 w.1
    exact Or.inr (Or.inl ⟨(e7 k).trans z, ((b2 k hk).2 (Or.inr z)).trans e8⟩)
end
section
/-! ===== a whole round ===== -/
/-- what stands between rounds: R rounds were played -/
def zBt (n : Nat) (R : Nat) (τ : zT) : Prop := τ 11 10 = nI R ∧ (∀ i, i < n → ∃ b, b ≤ 1000000 ∧ τ 2 i = nI b) ∧ (∀ i, i < n → (τ 3 i = 1 ∧ τ 6 i = -9) ∨ (τ 3 i = 0 ∧ ∃ d, d < R ∧ τ 6 i = nI d)) ∧ zXy n τ
def zAl (τ : zT) (i : Nat) : Bool := decide (τ 3 i = 1)
/-- what a round does, as the law sees it -/
def zPo (n R : Nat) (g : Nat → Int32) (τ τ2 : zT) : Prop :=
  zBt n (R + 1) τ2 ∧ zEg n τ2 = zEg n τ ∧ (∀ i, τ2 0 i = τ 0 i ∧ τ2 1 i = τ 1 i) ∧ zCls n τ2 ∧ τ2 11 11 = nI (zSu (zHd τ2) n) ∧ (∀ i, i < n → τ2 7 i = nI i → (τ 3 i = 1 ∧ (τ 4 i = 1 ∨ zPh g τ = 0)) ∧ ¬ τ2 4 i = 1) ∧ (¬ zPh g τ = 0 → ∀ i, i < n → ¬ τ 4 i = 1 → ¬ τ2 4 i = 1) ∧ (g 3 - zPh g τ = 1 → ∀ i, i < n → τ 3 i = 1 → (τ 4 i = 1 ∨ zPh g τ = 0) → τ2 7 i = nI i ∨ τ2 3 i = 0) ∧ (∃ d, d ≤ zSu (fun i => if zAl τ i = true then 1 else 0) n ∧ τ2 11 12 = nI d) ∧ τ2 11 13 = τ 11 13 + τ2 11 12
theorem zRbS_dn (g : Nat → Int32) (k : Nat) (τ : zT) : zDn τ (zRbS g k τ) := by
  unfold zRbS
  split
  · exact zSb_dn g τ k 1
  · exact zDn.rf
theorem zDdS_dn (g : Nat → Int32) (k : Nat) (τ : zT) : zDn τ (zDdS g k τ) := by
  unfold zDdS
  split
  · exact zSb_dn g τ k _
  · exact zDn.rf
theorem zRound {n : Nat} (hn : n ≤ 12) {R : Nat} (hR : R < 1000) {g : Nat → Int32} (hg : zSe g) {τ : zT} (h : zBt n R τ) : zPo n R g τ (zRd n g τ) := by
  obtain ⟨h10, hb, hl, hxy⟩ := h
  have z12 : ∀ i, i < n → i < 12 := fun i hi => by omega
  -- the beginning
  have hb11 : ∀ j, (zBg n g τ) 11 j = if j = 12 then 0 else if j = 11 then 0 else τ 11 j := zBg_11 n g τ
  have hbf : ∀ f i, f ≠ 11 → (zBg n g τ) f i = if i < n then zBgP (zPh g τ) τ f i else τ f i := fun f i q => zBg_f n g τ q i
  have hbs : ∀ f i, f ≠ 11 → f ≠ 4 → f ≠ 7 → f ≠ 8 → f ≠ 9 → f ≠ 10 → (zBg n g τ) f i = τ f i := fun f i q4 q5 q7 q8 q9 q10 => by
    have hp : zBgP (zPh g τ) τ f i = τ f i := by
      unfold zBgP
      rw [if_neg (by omega), if_neg (by omega), if_neg (by omega)]
    rw [hbf f i q4, hp, ite_self]
  have hb4 : ∀ i, i < n → ((zBg n g τ) 4 i = 1 ↔ (τ 4 i = 1 ∨ zPh g τ = 0)) := fun i hi => by
    rw [hbf 4 i (by decide), if_pos hi]
    unfold zBgP
    rw [if_neg (by omega), if_neg (by omega)]
    by_cases c : zPh g τ = 0
    · rw [if_pos ⟨rfl, c⟩]
      exact ⟨fun _ => Or.inr c, fun _ => rfl⟩
    · rw [if_neg (fun q => c q.2)]
      exact ⟨Or.inl, fun q => q.resolve_right c⟩
  have hb4n : ¬ zPh g τ = 0 → ∀ i, (zBg n g τ) 4 i = τ 4 i := fun c i => by
    have hp : zBgP (zPh g τ) τ 4 i = τ 4 i := by
      unfold zBgP
      rw [if_neg (by omega), if_neg (by omega), if_neg (fun q => c q.2)]
    rw [hbf 4 i (by decide), hp, ite_self]
  have hb0 : ∀ f i, i < n → (f = 7 ∨ f = 8 → (zBg n g τ) f i = -9) ∧ (f = 9 ∨ f = 10 → (zBg n g τ) f i = 0) := fun f i hi => by
    refine ⟨fun q => ?_, fun q => ?_⟩
    · rw [hbf f i (by omega), if_pos hi]
      unfold zBgP
      exact if_pos q
    · rw [hbf f i (by omega), if_pos hi]
      unfold zBgP
      rw [if_neg (by omega), if_pos q]
  have hbp : zPh g (zBg n g τ) = zPh g τ := by
    unfold zPh
    rw [hb11 10]
    rfl
  have hEb : zEg n (zBg n g τ) = zEg n τ := zEg_eq (fun i _ => hbs 2 i (by decide) (by decide) (by decide) (by decide) (by decide) (by decide)) (hb11 14)
  unfold zRd zR1
  generalize zBg n g τ = τb at *
  -- the election
  obtain ⟨e1, e2⟩ := zEl_all (n := n) (g 3 - zPh g τb) (τ0 := τb) (fun i hi => (hb0 10 i hi).2 (Or.inr rfl))
  have eE : zEl n g τb = zIt (zElS (g 3 - zPh g τb)) n τb := rfl
  rw [eE]
  rw [hbp] at e1 e2 ⊢
  generalize zIt (zElS (g 3 - zPh g τ)) n τb = τe at *
  have ivE : zIv n (zEg n τ) R (zAl τ) zFa τe τe := by
    refine ⟨(zEg_eq (fun i _ => e1 2 i (by decide) (by omega)) (e1 11 14 (by decide) (by omega))).trans hEb, (e1 11 10 (by decide) (by omega)).trans ((hb11 10).trans h10), fun i hi => ?_, fun i hi => ?_, fun _ _ _ => rfl, rfl⟩
    · rw [e1 2 i (by decide) (by omega), hbs 2 i (by decide) (by decide) (by decide) (by decide) (by decide) (by decide)]
      exact hb i hi
    · unfold zLf
      rw [e1 3 i (by decide) (by omega), e1 6 i (by decide) (by omega), hbs 3 i (by decide) (by decide) (by decide) (by decide) (by decide) (by decide), hbs 6 i (by decide) (by decide) (by decide) (by decide) (by decide) (by decide)]
      refine ⟨(hl i hi).elim Or.inl fun q => Or.inr ⟨q.1, ?_⟩, fun q => decide_eq_true q⟩
      obtain ⟨-, d, d1, d2⟩ := q
      exact ⟨d, by omega, d2⟩
  have e3 : ∀ i, τe 3 i = τ 3 i := fun i => (e1 3 i (by decide) (by omega)).trans (hbs 3 i (by decide) (by decide) (by decide) (by decide) (by decide) (by decide))
  have e13 : τe 11 13 = τ 11 13 := (e1 11 13 (by decide) (by omega)).trans (hb11 13)
  -- the announcement
  obtain ⟨a1, a2, a3⟩ := zAn_all hn hg ivE (fun i hi => (e1 7 i (by decide) (by omega)).trans ((hb0 7 i hi).1 (Or.inl rfl))) ((e1 11 11 (by decide) (by omega)).trans (hb11 11)) (fun i hi q => (e1 3 i (by decide) (by omega)).trans ((e2 i hi).1 q).1)
  generalize zIt (zAnS g) n τe = τa at *
  have a13 : τa 11 13 = τ 11 13 := a1.2.2.2.2.2.trans e13
  have a12 : τa 11 12 = 0 := (a1.fz (by unfold zFa; omega)).trans ((e1 11 12 (by decide) (by omega)).trans (hb11 12))
  have a9 : ∀ i, i < n → τa 9 i = 0 := fun i hi => (a1.fz (by unfold zFa; omega)).trans ((e1 9 i (by decide) (by omega)).trans ((hb0 9 i hi).2 (Or.inl rfl)))
  have a8 : ∀ i, i < n → τa 8 i = -9 := fun i hi => (a1.fz (by unfold zFa; omega)).trans ((e1 8 i (by decide) (by omega)).trans ((hb0 8 i hi).1 (Or.inr rfl)))
  have a01 : ∀ i, τa 0 i = τ 0 i ∧ τa 1 i = τ 1 i := fun i => ⟨(a1.fz (by unfold zFa; omega)).trans ((e1 0 i (by decide) (by omega)).trans (hbs 0 i (by decide) (by decide) (by decide) (by decide) (by decide) (by decide))), (a1.fz (by unfold zFa; omega)).trans ((e1 1 i (by decide) (by omega)).trans (hbs 1 i (by decide) (by decide) (by decide) (by decide) (by decide) (by decide)))⟩
  have xyA : zXy n τa := fun i hi => by
    rw [(a01 i).1, (a01 i).2]
    exact hxy i hi
  have aH : ∀ i, i < n → τa 7 i = nI i → (τ 3 i = 1 ∧ (τ 4 i = 1 ∨ zPh g τ = 0)) ∧ τa 4 i = 0 := fun i hi q => by
    rcases (a2 i hi).1 with w | w
    · exact absurd (w.1.symm.trans q) (zM9 (z12 i hi))
    · have := (e2 i hi).1 w.2.2.1
      exact ⟨⟨(e3 i).symm.trans ((e1 3 i (by decide) (by omega)).trans this.1), (hb4 i hi).mp this.2⟩, w.2.2.2.1⟩
  have a4 : ∀ i, i < n → τa 4 i = τb 4 i ∨ τa 4 i = 0 := fun i hi => (a2 i hi).1.elim (fun w => Or.inl (w.2.trans (e1 4 i (by decide) (by omega)))) (fun w => Or.inr w.2.2.2.1)
  have aL : g 3 - zPh g τ = 1 → ∀ i, i < n → τ 3 i = 1 → (τ 4 i = 1 ∨ zPh g τ = 0) → τa 7 i = nI i ∨ τa 3 i = 0 := fun q i hi q3 q4 => (a2 i hi).2.1 hi ((e2 i hi).2 q ((e1 3 i (by decide) (by omega)).symm.trans ((e3 i).trans q3)) ((hb4 i hi).mpr q4))
  -- behind it: whatever keeps these rows and the counts
  have fin : ∀ (K τ2 : zT) (F : Nat → Nat → Prop), zIv n (zEg n τ) R (zAl τ) F K τ2 → (∀ i, F 0 i ∧ F 1 i ∧ F 4 i ∧ F 7 i ∧ F 8 i) → F 11 11 → (∀ f i, f ≠ 7 → f ≠ 8 → f ≠ 9 → K f i = τa f i) → zCls n K → (∀ i, i < n → (K 7 i = nI i ↔ τa 7 i = nI i)) → (∀ i, i < n → τa 3 i = 0 → τ2 3 i = 0) → (∃ d, d ≤ zSu (fun i => if zAl τ i = true then 1 else 0) n ∧ τ2 11 12 = nI d) → zPo n R g τ (zR3 τ2) := by
    intro K τ2 F iv hF hF11 hK hc h7 h3 h12
    have er : ∀ f i, f ≠ 11 → (zR3 τ2) f i = τ2 f i := fun f i q => by
      unfold zR3
      rw [zSt_nf _ _ _ _ q, zSt_nf _ _ _ _ q]
    have er1 : ∀ i, i ≠ 10 → i ≠ 13 → (zR3 τ2) 11 i = τ2 11 i := fun i q q2 => by
      unfold zR3
      rw [zSt_ni _ _ _ _ q, zSt_ni _ _ _ _ q2]
    have er13 : (zR3 τ2) 11 13 = τ2 11 13 + τ2 11 12 := by
      unfold zR3
      rw [zSt_ni _ _ _ _ (by decide), zSt_self]
    have er10 : (zR3 τ2) 11 10 = τ2 11 10 + 1 := by
      unfold zR3
      exact zSt_self _ _ _ _
    have k0 : ∀ i, τ2 0 i = τ 0 i ∧ τ2 1 i = τ 1 i := fun i => ⟨(iv.fz (hF i).1).trans ((hK 0 i (by decide) (by decide) (by decide)).trans (a01 i).1), (iv.fz (hF i).2.1).trans ((hK 1 i (by decide) (by decide) (by decide)).trans (a01 i).2)⟩
    have k7 : ∀ i, (zR3 τ2) 7 i = K 7 i := fun i => (er 7 i (by decide)).trans (iv.fz (hF i).2.2.2.1)
    have k8 : ∀ i, (zR3 τ2) 8 i = K 8 i := fun i => (er 8 i (by decide)).trans (iv.fz (hF i).2.2.2.2)
    have k4 : ∀ i, (zR3 τ2) 4 i = τa 4 i := fun i => (er 4 i (by decide)).trans ((iv.fz (hF i).2.2.1).trans (hK 4 i (by decide) (by decide) (by decide)))
    have h7' : ∀ i, i < n → ((zR3 τ2) 7 i = nI i ↔ τa 7 i = nI i) := fun i hi => by
      rw [k7]
      exact h7 i hi
    refine ⟨⟨er10.trans (by rw [iv.2.1]; exact nI_1 R), fun i hi => by rw [er 2 i (by decide)]; exact iv.2.2.1 i hi, fun i hi => ?_, fun i hi => ?_⟩, ?_, fun i => ?_, ?_, ?_, fun i hi q => ?_, fun q i hi q4 => ?_, fun q i hi q3 q4 => ?_, ?_, ?_⟩
    · rw [er 3 i (by decide), er 6 i (by decide)]
      refine (iv.2.2.2.1 i hi).1.elim Or.inl fun q => Or.inr ⟨q.1, ?_⟩
      obtain ⟨-, d, d1, d2⟩ := q
      exact ⟨d, by omega, d2⟩
    · rw [er 0 i (by decide), er 1 i (by decide), (k0 i).1, (k0 i).2]
      exact hxy i hi
    · exact (zEg_eq (fun i _ => er 2 i (by decide)) (er1 14 (by decide) (by decide))).trans iv.1
    · rw [er 0 i (by decide), er 1 i (by decide)]
      exact k0 i
    · refine zCls_eq hc fun f i q => ?_
      rcases q with rfl | rfl | rfl | rfl
      · exact (er 0 i (by decide)).trans (iv.fz (hF i).1)
      · exact (er 1 i (by decide)).trans (iv.fz (hF i).2.1)
      · exact k7 i
      · exact k8 i
    · rw [er1 11 (by decide) (by decide), iv.fz hF11, hK 11 11 (by decide) (by decide) (by decide), a3]
      congr 1
      refine zSu_eq n fun i hi => ?_
      unfold zHd
      by_cases c : τa 7 i = nI i
      · rw [if_pos c, if_pos ((h7' i hi).mpr c)]
      · rw [if_neg c, if_neg (fun z => c ((h7' i hi).mp z))]
    · have := aH i hi ((h7' i hi).mp q)
      refine ⟨this.1, ?_⟩
      rw [k4, this.2]
      decide
    · rw [k4]
      rcases a4 i hi with w | w
      · rw [w, hb4n q]
        exact q4
      · rw [w]
        decide
    · rcases aL q i hi q3 q4 with w | w
      · exact Or.inl ((h7' i hi).mpr w)
      · refine Or.inr ?_
        rw [er 3 i (by decide)]
        exact h3 i hi w
    · rw [er1 12 (by decide) (by decide)]
      exact h12
    · rw [er13, er1 12 (by decide) (by decide), iv.2.2.2.2.2, hK 11 13 (by decide) (by decide) (by decide), a13]
  -- the dead stay dead
  have dn : ∀ τ2 : zT, (∀ i, τ2 3 i = τa 3 i ∨ τ2 3 i = 0) → ∀ i, i < n → τa 3 i = 0 → τ2 3 i = 0 := fun τ2 q i _ z => (q i).elim (fun w => w.trans z) id
  have f2d : ∀ i, zFd 0 i ∧ zFd 1 i ∧ zFd 4 i ∧ zFd 7 i ∧ zFd 8 i := fun i => by
    unfold zFd zF2
    omega
  have f22 : ∀ i, zF2 0 i ∧ zF2 1 i ∧ zF2 4 i ∧ zF2 7 i ∧ zF2 8 i := fun i => by
    unfold zF2
    omega
  unfold zR2
  by_cases c : τa 11 11 = 0
  · rw [if_pos c]
    obtain ⟨r1, r2⟩ := zRb_all hg xyA (a1.re zFd) a12
    have no : ∀ i, i < n → τa 7 i = -9 := fun i hi => by
      rcases (a2 i hi).1 with w | w
      · exact w.1
      · exfalso
        have z : zSu (fun _ => 0) n < zSu (zHd τa) n := zSu_lt (j := i) (by show 0 < zHd τa i; unfold zHd; rw [if_pos w.1]; decide) n hi (fun _ _ => Nat.zero_le _)
        rw [zSu_0] at z
        rw [c] at a3
        have hle := zSu_b (f := zHd τa) (c := 1) n (fun i _ => by unfold zHd; split <;> omega)
        have := (nI_eq (a := 0) (b := zSu (zHd τa) n) (by omega) (by omega)).mp a3
        omega
    refine fin τa _ zFd r1 f2d (by unfold zFd zF2; omega) (fun _ _ _ _ _ => rfl) (fun k hk => Or.inl ⟨no k hk, a8 k hk⟩) (fun _ _ => Iff.rfl) (dn _ ?_) r2
    exact (zDn.it (fun k τ => zRbS_dn g k τ) τa n).2
  · rw [if_neg c]
    obtain ⟨j1, j2, j3⟩ := zJo_all hn (τa := τa) (fun i hi => (a2 i hi).1.elim (fun w => Or.inl w.1) (fun w => Or.inr ⟨w.1, w.2.2.2.2⟩)) a8
    have ivJ : zIv n (zEg n τ) R (zAl τ) zFr9 (zJo n τa) (zJo n τa) := by
      refine ⟨(zEg_eq (fun i _ => j1 2 i (by decide) (by decide)) (j1 11 14 (by decide) (by decide))).trans a1.1, (j1 11 10 (by decide) (by decide)).trans a1.2.1, fun i hi => ?_, fun i hi => ?_, fun _ _ _ => rfl, rfl⟩
      · rw [j1 2 i (by decide) (by decide)]
        exact a1.2.2.1 i hi
      · unfold zLf
        rw [j1 3 i (by decide) (by decide), j1 6 i (by decide) (by decide)]
        exact a1.2.2.2.1 i hi
    have xyJ : zXy n (zJo n τa) := fun i hi => by
      rw [j1 0 i (by decide) (by decide), j1 1 i (by decide) (by decide)]
      exact xyA i hi
    have dj : zDn τa (zJo n τa) := zJo_dn n τa
    have j9 : ∀ i, i < n → (zJo n τa) 9 i = 0 := fun i hi => (j1 9 i (by decide) (by decide)).trans (a9 i hi)
    have j12 : (zJo n τa) 11 12 = 0 := (j1 11 12 (by decide) (by decide)).trans a12
    have hK : ∀ f i, f ≠ 7 → f ≠ 8 → f ≠ 9 → (zJo n τa) f i = τa f i := fun f i p q _ => j1 f i p q
    generalize zJo n τa = τj at *
    obtain ⟨p1, p2⟩ := zRh_all hg xyJ ivJ j9
    have dp : zDn τj (zIt (zRhS n g) n τj) := zDn.it (fun k τ => zRhS_dn n g k τ) τj n
    generalize zIt (zRhS n g) n τj = τp at *
    obtain ⟨w1, w2⟩ := zOw_all hn hg p1 p2
    have dw : zDn τp (zIt (zOwS g) n τp) := zDn.it (fun k τ => zOwS_dn g k τ) τp n
    generalize zIt (zOwS g) n τp = τw at *
    have w12 : τw 11 12 = 0 := (w1.fz (Or.inr ⟨rfl, rfl⟩)).trans j12
    have wF : ∀ f i, zF2 f i → τw f i = τj f i := fun f i q => w1.fz (Or.inl q)
    have wC : ∀ j, zCi τw (zAl τ) j = zCi τj (zAl τ) j := fun j => funext fun i => by
      unfold zCi
      rw [wF 7 i (f22 i).2.2.2.1]
    have cls : zCls n τw := zCls_eq j2 fun f i q => wF f i (by rcases q with rfl | rfl | rfl | rfl <;> (have := f22 i; first | exact this.1 | exact this.2.1 | exact this.2.2.2.1 | exact this.2.2.2.2))
    have dAll : ∀ τ2 : zT, zDn τw τ2 → ∀ i, i < n → τa 3 i = 0 → τ2 3 i = 0 := fun τ2 q => dn τ2 (((dj.trans dp).trans dw).trans q).2
    unfold zDv
    by_cases c8 : g 8 = 1
    · rw [if_pos c8]
      obtain ⟨r1, d, r2, r3⟩ := zRl_all hg xyJ w1 w2 w12
      exact fin τj _ zF2 r1 f22 (by unfold zF2; omega) hK j2 j3 (dAll _ (zRl_dn n g τw)) ⟨d, Nat.le_trans r2 (zCi_sum hn τj (zAl τ)), r3⟩
    · rw [if_neg c8]
      have w1' := w1.re zFd
      have xyW : zXy n τw := fun i hi => by
        rw [wF 0 i (f22 i).1, wF 1 i (f22 i).2.1]
        exact xyJ i hi
      obtain ⟨r1, d, r2, r3⟩ := zDd_all hg xyW w1' (fun j hj => by rw [wC]; exact w2 j hj) w12
      have w13 : τw 11 13 = τj 11 13 := w1.2.2.2.2.2
      have r1' : zIv n (zEg n τ) R (zAl τ) zF2 τj (zIt (zDdS g) n τw) := ⟨r1.1, r1.2.1, r1.2.2.1, r1.2.2.2.1, fun f i q => (r1.fz (Or.inl q)).trans (wF f i q), r1.2.2.2.2.2.trans w13⟩
      exact fin τj _ zF2 r1' f22 (by unfold zF2; omega) hK j2 j3 (dAll _ (zDn.it (fun k τ => zDdS_dn g k τ) τw n)) ⟨d, Nat.le_trans r2 (zCi_sum hn τw (zAl τ)), r3⟩
end
