section
-- ===== PART A: goes FIRST, ahead of the names: the tables' words, and 'selects' of the private methods out of them =====
/-- a private method of a class that the tables say can be made, by its rows of tables_1 -/
def lw_okq (q : MethodName × Nat) : Prop := (q.1.cls ≠ "java/lang/invoke/MethodHandle" ∧ q.1.cls ≠ "java/lang/invoke/VarHandle") ∧ Cond.instantiable q.1.cls q.2 ∈ tables_1 ∧ Cond.privateMethod q.1 ∈ tables_1 ∧ Cond.instanceMethod q.1 ∈ tables_1
theorem lw_p0 : lw_okq (⟨"ClusterFieldModel", "keep", "()V"⟩, 9) := ⟨⟨by decide +kernel, by decide +kernel⟩, List.mem_of_getElem? (i := 461) (by decide +kernel), List.mem_of_getElem? (i := 503) (by decide +kernel), List.mem_of_getElem? (i := 504) (by decide +kernel)⟩
theorem lw_p1 : lw_okq (⟨"ClusterFieldModel", "set", "(III)V"⟩, 9) := ⟨⟨by decide +kernel, by decide +kernel⟩, List.mem_of_getElem? (i := 461) (by decide +kernel), List.mem_of_getElem? (i := 507) (by decide +kernel), List.mem_of_getElem? (i := 508) (by decide +kernel)⟩
theorem lw_p2 : lw_okq (⟨"ClusterFieldModel", "isSensor", "(I)Z"⟩, 9) := ⟨⟨by decide +kernel, by decide +kernel⟩, List.mem_of_getElem? (i := 461) (by decide +kernel), List.mem_of_getElem? (i := 530) (by decide +kernel), List.mem_of_getElem? (i := 531) (by decide +kernel)⟩
theorem lw_p3 : lw_okq (⟨"ClusterFieldModel", "lives", "(I)Z"⟩, 9) := ⟨⟨by decide +kernel, by decide +kernel⟩, List.mem_of_getElem? (i := 461) (by decide +kernel), List.mem_of_getElem? (i := 534) (by decide +kernel), List.mem_of_getElem? (i := 535) (by decide +kernel)⟩
theorem lw_p4 : lw_okq (⟨"ClusterFieldModel", "of", "(II)I"⟩, 9) := ⟨⟨by decide +kernel, by decide +kernel⟩, List.mem_of_getElem? (i := 461) (by decide +kernel), List.mem_of_getElem? (i := 538) (by decide +kernel), List.mem_of_getElem? (i := 539) (by decide +kernel)⟩
theorem lw_p5 : lw_okq (⟨"ClusterFieldModel", "alive", "()I"⟩, 9) := ⟨⟨by decide +kernel, by decide +kernel⟩, List.mem_of_getElem? (i := 461) (by decide +kernel), List.mem_of_getElem? (i := 547) (by decide +kernel), List.mem_of_getElem? (i := 548) (by decide +kernel)⟩
theorem lw_p6 : lw_okq (⟨"ClusterFieldModel", "performMany", "(I)I"⟩, 9) := ⟨⟨by decide +kernel, by decide +kernel⟩, List.mem_of_getElem? (i := 461) (by decide +kernel), List.mem_of_getElem? (i := 551) (by decide +kernel), List.mem_of_getElem? (i := 552) (by decide +kernel)⟩
theorem lw_p7 : lw_okq (⟨"ClusterFieldModel", "perform", "()V"⟩, 9) := ⟨⟨by decide +kernel, by decide +kernel⟩, List.mem_of_getElem? (i := 461) (by decide +kernel), List.mem_of_getElem? (i := 555) (by decide +kernel), List.mem_of_getElem? (i := 556) (by decide +kernel)⟩
theorem lw_p8 : lw_okq (⟨"ClusterFieldModel", "elect", "()V"⟩, 9) := ⟨⟨by decide +kernel, by decide +kernel⟩, List.mem_of_getElem? (i := 461) (by decide +kernel), List.mem_of_getElem? (i := 559) (by decide +kernel), List.mem_of_getElem? (i := 560) (by decide +kernel)⟩
theorem lw_p9 : lw_okq (⟨"ClusterFieldModel", "setting", "(I)I"⟩, 9) := ⟨⟨by decide +kernel, by decide +kernel⟩, List.mem_of_getElem? (i := 461) (by decide +kernel), List.mem_of_getElem? (i := 563) (by decide +kernel), List.mem_of_getElem? (i := 564) (by decide +kernel)⟩
theorem lw_p10 : lw_okq (⟨"ClusterFieldModel", "draw", "()I"⟩, 9) := ⟨⟨by decide +kernel, by decide +kernel⟩, List.mem_of_getElem? (i := 461) (by decide +kernel), List.mem_of_getElem? (i := 567) (by decide +kernel), List.mem_of_getElem? (i := 568) (by decide +kernel)⟩
theorem lw_p11 : lw_okq (⟨"ClusterFieldModel", "announce", "()V"⟩, 9) := ⟨⟨by decide +kernel, by decide +kernel⟩, List.mem_of_getElem? (i := 461) (by decide +kernel), List.mem_of_getElem? (i := 574) (by decide +kernel), List.mem_of_getElem? (i := 575) (by decide +kernel)⟩
theorem lw_p12 : lw_okq (⟨"ClusterFieldModel", "pays", "(II)Z"⟩, 9) := ⟨⟨by decide +kernel, by decide +kernel⟩, List.mem_of_getElem? (i := 461) (by decide +kernel), List.mem_of_getElem? (i := 578) (by decide +kernel), List.mem_of_getElem? (i := 579) (by decide +kernel)⟩
theorem lw_p13 : lw_okq (⟨"ClusterFieldModel", "join", "()V"⟩, 9) := ⟨⟨by decide +kernel, by decide +kernel⟩, List.mem_of_getElem? (i := 461) (by decide +kernel), List.mem_of_getElem? (i := 582) (by decide +kernel), List.mem_of_getElem? (i := 583) (by decide +kernel)⟩
theorem lw_p14 : lw_okq (⟨"ClusterFieldModel", "isHead", "(I)Z"⟩, 9) := ⟨⟨by decide +kernel, by decide +kernel⟩, List.mem_of_getElem? (i := 461) (by decide +kernel), List.mem_of_getElem? (i := 586) (by decide +kernel), List.mem_of_getElem? (i := 587) (by decide +kernel)⟩
theorem lw_p15 : lw_okq (⟨"ClusterFieldModel", "nearestHead", "(I)I"⟩, 9) := ⟨⟨by decide +kernel, by decide +kernel⟩, List.mem_of_getElem? (i := 461) (by decide +kernel), List.mem_of_getElem? (i := 590) (by decide +kernel), List.mem_of_getElem? (i := 591) (by decide +kernel)⟩
def lw_privs_1 : List (MethodName × Nat) := [(⟨"ClusterFieldModel", "keep", "()V"⟩, 9), (⟨"ClusterFieldModel", "set", "(III)V"⟩, 9), (⟨"ClusterFieldModel", "isSensor", "(I)Z"⟩, 9), (⟨"ClusterFieldModel", "lives", "(I)Z"⟩, 9), (⟨"ClusterFieldModel", "of", "(II)I"⟩, 9), (⟨"ClusterFieldModel", "alive", "()I"⟩, 9), (⟨"ClusterFieldModel", "performMany", "(I)I"⟩, 9), (⟨"ClusterFieldModel", "perform", "()V"⟩, 9), (⟨"ClusterFieldModel", "elect", "()V"⟩, 9), (⟨"ClusterFieldModel", "setting", "(I)I"⟩, 9), (⟨"ClusterFieldModel", "draw", "()I"⟩, 9), (⟨"ClusterFieldModel", "announce", "()V"⟩, 9), (⟨"ClusterFieldModel", "pays", "(II)Z"⟩, 9), (⟨"ClusterFieldModel", "join", "()V"⟩, 9), (⟨"ClusterFieldModel", "isHead", "(I)Z"⟩, 9), (⟨"ClusterFieldModel", "nearestHead", "(I)I"⟩, 9)]
theorem lw_r1 : ∀ q ∈ lw_privs_1, lw_okq q := List.forall_mem_cons.mpr ⟨lw_p0, List.forall_mem_cons.mpr ⟨lw_p1, List.forall_mem_cons.mpr ⟨lw_p2, List.forall_mem_cons.mpr ⟨lw_p3, List.forall_mem_cons.mpr ⟨lw_p4, List.forall_mem_cons.mpr ⟨lw_p5, List.forall_mem_cons.mpr ⟨lw_p6, List.forall_mem_cons.mpr ⟨lw_p7, List.forall_mem_cons.mpr ⟨lw_p8, List.forall_mem_cons.mpr ⟨lw_p9, List.forall_mem_cons.mpr ⟨lw_p10, List.forall_mem_cons.mpr ⟨lw_p11, List.forall_mem_cons.mpr ⟨lw_p12, List.forall_mem_cons.mpr ⟨lw_p13, List.forall_mem_cons.mpr ⟨lw_p14, List.forall_mem_cons.mpr ⟨lw_p15, fun _ h => absurd h List.not_mem_nil⟩⟩⟩⟩⟩⟩⟩⟩⟩⟩⟩⟩⟩⟩⟩⟩
theorem lw_p16 : lw_okq (⟨"ClusterFieldModel", "distance", "(II)I"⟩, 9) := ⟨⟨by decide +kernel, by decide +kernel⟩, List.mem_of_getElem? (i := 461) (by decide +kernel), List.mem_of_getElem? (i := 594) (by decide +kernel), List.mem_of_getElem? (i := 595) (by decide +kernel)⟩
theorem lw_p17 : lw_okq (⟨"ClusterFieldModel", "distanceTo", "(III)I"⟩, 9) := ⟨⟨by decide +kernel, by decide +kernel⟩, List.mem_of_getElem? (i := 461) (by decide +kernel), List.mem_of_getElem? (i := 598) (by decide +kernel), List.mem_of_getElem? (i := 599) (by decide +kernel)⟩
theorem lw_p18 : lw_okq (⟨"ClusterFieldModel", "deliverAlone", "()V"⟩, 9) := ⟨⟨by decide +kernel, by decide +kernel⟩, List.mem_of_getElem? (i := 461) (by decide +kernel), List.mem_of_getElem? (i := 602) (by decide +kernel), List.mem_of_getElem? (i := 603) (by decide +kernel)⟩
theorem lw_p19 : lw_okq (⟨"ClusterFieldModel", "deliver", "(I)V"⟩, 9) := ⟨⟨by decide +kernel, by decide +kernel⟩, List.mem_of_getElem? (i := 461) (by decide +kernel), List.mem_of_getElem? (i := 606) (by decide +kernel), List.mem_of_getElem? (i := 607) (by decide +kernel)⟩
theorem lw_p20 : lw_okq (⟨"ClusterFieldModel", "distanceToBase", "(I)I"⟩, 9) := ⟨⟨by decide +kernel, by decide +kernel⟩, List.mem_of_getElem? (i := 461) (by decide +kernel), List.mem_of_getElem? (i := 610) (by decide +kernel), List.mem_of_getElem? (i := 611) (by decide +kernel)⟩
theorem lw_p21 : lw_okq (⟨"ClusterFieldModel", "sendingCost", "(I)I"⟩, 9) := ⟨⟨by decide +kernel, by decide +kernel⟩, List.mem_of_getElem? (i := 461) (by decide +kernel), List.mem_of_getElem? (i := 614) (by decide +kernel), List.mem_of_getElem? (i := 615) (by decide +kernel)⟩
theorem lw_p22 : lw_okq (⟨"ClusterFieldModel", "report", "()V"⟩, 9) := ⟨⟨by decide +kernel, by decide +kernel⟩, List.mem_of_getElem? (i := 461) (by decide +kernel), List.mem_of_getElem? (i := 618) (by decide +kernel), List.mem_of_getElem? (i := 619) (by decide +kernel)⟩
theorem lw_p23 : lw_okq (⟨"ClusterFieldModel", "takesIn", "(I)Z"⟩, 9) := ⟨⟨by decide +kernel, by decide +kernel⟩, List.mem_of_getElem? (i := 461) (by decide +kernel), List.mem_of_getElem? (i := 622) (by decide +kernel), List.mem_of_getElem? (i := 623) (by decide +kernel)⟩
theorem lw_p24 : lw_okq (⟨"ClusterFieldModel", "deliverByRelay", "()V"⟩, 9) := ⟨⟨by decide +kernel, by decide +kernel⟩, List.mem_of_getElem? (i := 461) (by decide +kernel), List.mem_of_getElem? (i := 626) (by decide +kernel), List.mem_of_getElem? (i := 627) (by decide +kernel)⟩
theorem lw_p25 : lw_okq (⟨"ClusterFieldModel", "relay", "()I"⟩, 9) := ⟨⟨by decide +kernel, by decide +kernel⟩, List.mem_of_getElem? (i := 461) (by decide +kernel), List.mem_of_getElem? (i := 630) (by decide +kernel), List.mem_of_getElem? (i := 631) (by decide +kernel)⟩
theorem lw_p26 : lw_okq (⟨"ClusterFieldModel", "deliverAll", "()V"⟩, 9) := ⟨⟨by decide +kernel, by decide +kernel⟩, List.mem_of_getElem? (i := 461) (by decide +kernel), List.mem_of_getElem? (i := 634) (by decide +kernel), List.mem_of_getElem? (i := 635) (by decide +kernel)⟩
theorem lw_p27 : lw_okq (⟨"ClusterFieldModel", "value", "(II)I"⟩, 9) := ⟨⟨by decide +kernel, by decide +kernel⟩, List.mem_of_getElem? (i := 461) (by decide +kernel), List.mem_of_getElem? (i := 654) (by decide +kernel), List.mem_of_getElem? (i := 655) (by decide +kernel)⟩
theorem lw_p28 : lw_okq (⟨"ClusterFieldModel", "takeCopy", "()V"⟩, 9) := ⟨⟨by decide +kernel, by decide +kernel⟩, List.mem_of_getElem? (i := 461) (by decide +kernel), List.mem_of_getElem? (i := 706) (by decide +kernel), List.mem_of_getElem? (i := 707) (by decide +kernel)⟩
theorem lw_p29 : lw_okq (⟨"ClusterFieldModel", "putBack", "()V"⟩, 9) := ⟨⟨by decide +kernel, by decide +kernel⟩, List.mem_of_getElem? (i := 461) (by decide +kernel), List.mem_of_getElem? (i := 710) (by decide +kernel), List.mem_of_getElem? (i := 711) (by decide +kernel)⟩
def lw_privs_2 : List (MethodName × Nat) := [(⟨"ClusterFieldModel", "distance", "(II)I"⟩, 9), (⟨"ClusterFieldModel", "distanceTo", "(III)I"⟩, 9), (⟨"ClusterFieldModel", "deliverAlone", "()V"⟩, 9), (⟨"ClusterFieldModel", "deliver", "(I)V"⟩, 9), (⟨"ClusterFieldModel", "distanceToBase", "(I)I"⟩, 9), (⟨"ClusterFieldModel", "sendingCost", "(I)I"⟩, 9), (⟨"ClusterFieldModel", "report", "()V"⟩, 9), (⟨"ClusterFieldModel", "takesIn", "(I)Z"⟩, 9), (⟨"ClusterFieldModel", "deliverByRelay", "()V"⟩, 9), (⟨"ClusterFieldModel", "relay", "()I"⟩, 9), (⟨"ClusterFieldModel", "deliverAll", "()V"⟩, 9), (⟨"ClusterFieldModel", "value", "(II)I"⟩, 9), (⟨"ClusterFieldModel", "takeCopy", "()V"⟩, 9), (⟨"ClusterFieldModel", "putBack", "()V"⟩, 9)]
theorem lw_r2 : ∀ q ∈ lw_privs_2, lw_okq q := List.forall_mem_cons.mpr ⟨lw_p16, List.forall_mem_cons.mpr ⟨lw_p17, List.forall_mem_cons.mpr ⟨lw_p18, List.forall_mem_cons.mpr ⟨lw_p19, List.forall_mem_cons.mpr ⟨lw_p20, List.forall_mem_cons.mpr ⟨lw_p21, List.forall_mem_cons.mpr ⟨lw_p22, List.forall_mem_cons.mpr ⟨lw_p23, List.forall_mem_cons.mpr ⟨lw_p24, List.forall_mem_cons.mpr ⟨lw_p25, List.forall_mem_cons.mpr ⟨lw_p26, List.forall_mem_cons.mpr ⟨lw_p27, List.forall_mem_cons.mpr ⟨lw_p28, List.forall_mem_cons.mpr ⟨lw_p29, fun _ h => absurd h List.not_mem_nil⟩⟩⟩⟩⟩⟩⟩⟩⟩⟩⟩⟩⟩⟩
def lw_privs : List (MethodName × Nat) := lw_privs_1 ++ (lw_privs_2)
def lw_tbl : List Cond := k2_sels lw_privs ++ tables_1
theorem lw_privs_ok : ∀ q ∈ lw_privs, lw_okq q := by
  show ∀ q ∈ lw_privs_1 ++ (lw_privs_2), lw_okq q
  exact List.forall_mem_append.mpr ⟨lw_r1, lw_r2⟩
end
section
/-! ===== BEGIN words of one list among another's, by their places ===== -/
theorem goodIn_r {big : List Cond} (ws : List Cond) (ps : List Nat) (hp : ws = ps.filterMap (fun i => big[i]?)) (h : ws.all goodWord = true) : GoodIn big ws := by
  intro w hw
  have h1 := List.all_eq_true.mp h w hw
  rw [hp] at hw
  obtain ⟨i, -, hi⟩ := List.mem_filterMap.mp hw
  have hm : w ∈ big := by first | exact List.mem_of_getElem? hi | exact List.getElem?_mem hi
  exact ⟨hm, good_of_word h1⟩
theorem goodIn_app {big a b : List Cond} (ha : GoodIn big a) (hb : GoodIn big b) : GoodIn big (a ++ b) := fun w h => (List.mem_append.mp h).elim (ha w) (hb w)
theorem goodIn_ca {big a b : List Cond} {c : Cond} (ha : GoodIn big (c :: a)) (hb : GoodIn big b) : GoodIn big (c :: (a ++ b)) := fun w h => (List.mem_cons.mp h).elim (fun e => ha w (List.mem_cons.mpr (Or.inl e))) (fun h => (List.mem_append.mp h).elim (fun h => ha w (List.mem_cons.mpr (Or.inr h))) (hb w))
theorem goodIn_sub {big ws : List Cond} (hm : ∀ w ∈ ws, w ∈ big) (h : ws.all goodWord = true) : GoodIn big ws := fun w hw => ⟨hm w hw, good_of_word (List.all_eq_true.mp h w hw)⟩
/-! ===== END ===== -/

/-! ===== BEGIN printed: names, fields, word lists, decode rows ===== -/
def RX0 : String := "ClusterField$History"
def TX0 : u_T := fun k => match k with
  | 0 => ("ClusterField$History", "saved", "[LClusterField$Network;", true)
  | _ => ("ClusterField$History", "depth", "I", false)
def tyX0 : Nat → FieldType := fun k => match k with
  | 0 => .array (.object "ClusterField$Network")
  | _ => .int
abbrev wsX00 : List Cond := u_ws RX0 TX0 2
theorem nmX0 : ∀ a, a < 2 → ∀ b, b < 2 → a ≠ b → (TX0 a).2.1 ≠ (TX0 b).2.1 := by decide +kernel
theorem tyX0_ok : ∀ k, k < 2 → parseFieldDescriptor (TX0 k).2.2.1 = some (tyX0 k) := by decide +kernel
abbrev cX0_init : ByteArray := prog_2_method_1_code
def yX0_init : MethodName := ⟨RX0, "<init>", "()V"⟩
abbrev cX0_push : ByteArray := prog_2_method_2_code
def yX0_push : MethodName := ⟨RX0, "push", "(LClusterField$Network;)V"⟩
abbrev cX0_dropOldest : ByteArray := prog_2_method_3_code
def yX0_dropOldest : MethodName := ⟨RX0, "dropOldest", "()V"⟩
abbrev cX0_popInto : ByteArray := prog_2_method_4_code
def yX0_popInto : MethodName := ⟨RX0, "popInto", "(LClusterField$Network;)V"⟩
def RX1 : String := "ClusterField$Network"
def TX1 : u_T := fun k => match k with
  | 0 => ("ClusterField$Network", "sensors", "[LClusterField$Sensor;", true)
  | 1 => ("ClusterField$Network", "settings", "[I", true)
  | 2 => ("ClusterField$Network", "count", "I", false)
  | 3 => ("ClusterField$Network", "baseX", "I", false)
  | 4 => ("ClusterField$Network", "baseY", "I", false)
  | 5 => ("ClusterField$Network", "generator", "I", false)
  | 6 => ("ClusterField$Network", "round", "I", false)
  | 7 => ("ClusterField$Network", "lastHeads", "I", false)
  | 8 => ("ClusterField$Network", "lastReadings", "I", false)
  | 9 => ("ClusterField$Network", "allReadings", "I", false)
  | _ => ("ClusterField$Network", "paid", "I", false)
def tyX1 : Nat → FieldType := fun k => match k with
  | 0 => .array (.object "ClusterField$Sensor")
  | 1 => .array .int
  | 2 => .int
  | 3 => .int
  | 4 => .int
  | 5 => .int
  | 6 => .int
  | 7 => .int
  | 8 => .int
  | 9 => .int
  | _ => .int
abbrev wsX10 : List Cond := u_ws RX1 TX1 11
theorem nmX1 : ∀ a, a < 11 → ∀ b, b < 11 → a ≠ b → (TX1 a).2.1 ≠ (TX1 b).2.1 := by decide +kernel
theorem tyX1_ok : ∀ k, k < 11 → parseFieldDescriptor (TX1 k).2.2.1 = some (tyX1 k) := by decide +kernel
abbrev cX1_init : ByteArray := prog_3_method_1_code
def yX1_init : MethodName := ⟨RX1, "<init>", "()V"⟩
abbrev cX1_copyFrom : ByteArray := prog_3_method_2_code
def yX1_copyFrom : MethodName := ⟨RX1, "copyFrom", "(LClusterField$Network;)V"⟩
abbrev cX1_has : ByteArray := prog_3_method_3_code
def yX1_has : MethodName := ⟨RX1, "has", "(I)Z"⟩
abbrev cX1_countAlive : ByteArray := prog_3_method_4_code
def yX1_countAlive : MethodName := ⟨RX1, "countAlive", "()I"⟩
abbrev cX1_phase : ByteArray := prog_3_method_5_code
def yX1_phase : MethodName := ⟨RX1, "phase", "()I"⟩
abbrev cX1_costOver : ByteArray := prog_3_method_6_code
def yX1_costOver : MethodName := ⟨RX1, "costOver", "(I)I"⟩
def RX2 : String := "ClusterField$Rounds"
def TX2 : u_T := fun k => match k with
  | _ => ("ClusterField$Rounds", "net", "LClusterField$Network;", true)
def tyX2 : Nat → FieldType := fun k => match k with
  | _ => .object "ClusterField$Network"
abbrev wsX20 : List Cond := u_ws RX2 TX2 1
theorem nmX2 : ∀ a, a < 1 → ∀ b, b < 1 → a ≠ b → (TX2 a).2.1 ≠ (TX2 b).2.1 := by decide +kernel
theorem tyX2_ok : ∀ k, k < 1 → parseFieldDescriptor (TX2 k).2.2.1 = some (tyX2 k) := by decide +kernel
abbrev cX2_init : ByteArray := prog_4_method_1_code
def yX2_init : MethodName := ⟨RX2, "<init>", "(LClusterField$Network;)V"⟩
abbrev cX2_perform : ByteArray := prog_4_method_2_code
def yX2_perform : MethodName := ⟨RX2, "perform", "(I)I"⟩
abbrev cX2_performOne : ByteArray := prog_4_method_3_code
def yX2_performOne : MethodName := ⟨RX2, "performOne", "()V"⟩
abbrev cX2_begin : ByteArray := prog_4_method_4_code
def yX2_begin : MethodName := ⟨RX2, "begin", "()V"⟩
abbrev cX2_elect : ByteArray := prog_4_method_5_code
def yX2_elect : MethodName := ⟨RX2, "elect", "()V"⟩
abbrev cX2_draw : ByteArray := prog_4_method_6_code
def yX2_draw : MethodName := ⟨RX2, "draw", "()I"⟩
abbrev cX2_announce : ByteArray := prog_4_method_7_code
def yX2_announce : MethodName := ⟨RX2, "announce", "()V"⟩
abbrev cX2_join : ByteArray := prog_4_method_8_code
def yX2_join : MethodName := ⟨RX2, "join", "()V"⟩
abbrev cX2_nearestHead : ByteArray := prog_4_method_9_code
def yX2_nearestHead : MethodName := ⟨RX2, "nearestHead", "(II)I"⟩
abbrev cX2_giveSlots : ByteArray := prog_4_method_10_code
def yX2_giveSlots : MethodName := ⟨RX2, "giveSlots", "(I)V"⟩
abbrev cX2_isHead : ByteArray := prog_4_method_11_code
def yX2_isHead : MethodName := ⟨RX2, "isHead", "(I)Z"⟩
abbrev cX2_isLivingHead : ByteArray := prog_4_method_12_code
def yX2_isLivingHead : MethodName := ⟨RX2, "isLivingHead", "(I)Z"⟩
abbrev cX2_hasJoined : ByteArray := prog_4_method_13_code
def yX2_hasJoined : MethodName := ⟨RX2, "hasJoined", "(II)Z"⟩
abbrev cX2_reportToHeads : ByteArray := prog_4_method_14_code
def yX2_reportToHeads : MethodName := ⟨RX2, "reportToHeads", "()V"⟩
abbrev cX2_reportTo : ByteArray := prog_4_method_15_code
def yX2_reportTo : MethodName := ⟨RX2, "reportTo", "(I)V"⟩
abbrev cX2_addOwnReadings : ByteArray := prog_4_method_16_code
def yX2_addOwnReadings : MethodName := ⟨RX2, "addOwnReadings", "()V"⟩
abbrev cX2_deliver : ByteArray := prog_4_method_17_code
def yX2_deliver : MethodName := ⟨RX2, "deliver", "()V"⟩
abbrev cX2_deliverDirectly : ByteArray := prog_4_method_18_code
def yX2_deliverDirectly : MethodName := ⟨RX2, "deliverDirectly", "()V"⟩
abbrev cX2_deliverThroughRelay : ByteArray := prog_4_method_19_code
def yX2_deliverThroughRelay : MethodName := ⟨RX2, "deliverThroughRelay", "()V"⟩
abbrev cX2_reportToBase : ByteArray := prog_4_method_20_code
def yX2_reportToBase : MethodName := ⟨RX2, "reportToBase", "()V"⟩
abbrev cX2_sendToBase : ByteArray := prog_4_method_21_code
def yX2_sendToBase : MethodName := ⟨RX2, "sendToBase", "(LClusterField$Sensor;I)V"⟩
abbrev cX2_sends : ByteArray := prog_4_method_22_code
def yX2_sends : MethodName := ⟨RX2, "sends", "(LClusterField$Sensor;LClusterField$Sensor;)Z"⟩
abbrev cX2_pays : ByteArray := prog_4_method_23_code
def yX2_pays : MethodName := ⟨RX2, "pays", "(LClusterField$Sensor;I)Z"⟩
def RX3 : String := "ClusterField$Sensor"
def TX3 : u_T := fun k => match k with
  | 0 => ("ClusterField$Sensor", "x", "I", false)
  | 1 => ("ClusterField$Sensor", "y", "I", false)
  | 2 => ("ClusterField$Sensor", "battery", "I", false)
  | 3 => ("ClusterField$Sensor", "alive", "Z", false)
  | 4 => ("ClusterField$Sensor", "eligible", "Z", false)
  | 5 => ("ClusterField$Sensor", "headRounds", "I", false)
  | 6 => ("ClusterField$Sensor", "deathRound", "I", false)
  | 7 => ("ClusterField$Sensor", "head", "I", false)
  | 8 => ("ClusterField$Sensor", "slot", "I", false)
  | 9 => ("ClusterField$Sensor", "elected", "Z", false)
  | _ => ("ClusterField$Sensor", "readings", "I", false)
def tyX3 : Nat → FieldType := fun k => match k with
  | 0 => .int
  | 1 => .int
  | 2 => .int
  | 3 => .boolean
  | 4 => .boolean
  | 5 => .int
  | 6 => .int
  | 7 => .int
  | 8 => .int
  | 9 => .boolean
  | _ => .int
abbrev wsX30 : List Cond := u_ws RX3 TX3 11
theorem nmX3 : ∀ a, a < 11 → ∀ b, b < 11 → a ≠ b → (TX3 a).2.1 ≠ (TX3 b).2.1 := by decide +kernel
theorem tyX3_ok : ∀ k, k < 11 → parseFieldDescriptor (TX3 k).2.2.1 = some (tyX3 k) := by decide +kernel
abbrev cX3_init : ByteArray := prog_5_method_1_code
def yX3_init : MethodName := ⟨RX3, "<init>", "()V"⟩
abbrev cX3_place : ByteArray := prog_5_method_2_code
def yX3_place : MethodName := ⟨RX3, "place", "(III)V"⟩
abbrev cX3_beginRound : ByteArray := prog_5_method_3_code
def yX3_beginRound : MethodName := ⟨RX3, "beginRound", "()V"⟩
abbrev cX3_copyFrom : ByteArray := prog_5_method_4_code
def yX3_copyFrom : MethodName := ⟨RX3, "copyFrom", "(LClusterField$Sensor;)V"⟩
abbrev cX3_distanceTo : ByteArray := prog_5_method_5_code
def yX3_distanceTo : MethodName := ⟨RX3, "distanceTo", "(II)I"⟩
def RX4 : String := "ClusterField"
def TX4 : u_T := fun k => match k with
  | 0 => ("ClusterField", "network", "LClusterField$Network;", true)
  | 1 => ("ClusterField", "livePlay", "LClusterField$Rounds;", true)
  | 2 => ("ClusterField", "trial", "LClusterField$Network;", true)
  | 3 => ("ClusterField", "trialPlay", "LClusterField$Rounds;", true)
  | 4 => ("ClusterField", "history", "LClusterField$History;", true)
  | 5 => ("ClusterField", "snapshots", "[LClusterField$Network;", true)
  | _ => ("ClusterField", "snapshotFilled", "[Z", true)
def tyX4 : Nat → FieldType := fun k => match k with
  | 0 => .object "ClusterField$Network"
  | 1 => .object "ClusterField$Rounds"
  | 2 => .object "ClusterField$Network"
  | 3 => .object "ClusterField$Rounds"
  | 4 => .object "ClusterField$History"
  | 5 => .array (.object "ClusterField$Network")
  | _ => .array .boolean
abbrev wsX40 : List Cond := u_ws RX4 TX4 7
theorem nmX4 : ∀ a, a < 7 → ∀ b, b < 7 → a ≠ b → (TX4 a).2.1 ≠ (TX4 b).2.1 := by decide +kernel
theorem tyX4_ok : ∀ k, k < 7 → parseFieldDescriptor (TX4 k).2.2.1 = some (tyX4 k) := by decide +kernel
abbrev cX4_init : ByteArray := prog_1_method_1_code
def yX4_init : MethodName := ⟨RX4, "<init>", "()V"⟩
abbrev cX4_addSensor : ByteArray := prog_1_method_2_code
def yX4_addSensor : MethodName := ⟨RX4, "addSensor", "(III)I"⟩
abbrev cX4_moveBase : ByteArray := prog_1_method_3_code
def yX4_moveBase : MethodName := ⟨RX4, "moveBase", "(II)I"⟩
abbrev cX4_setSetting : ByteArray := prog_1_method_4_code
def yX4_setSetting : MethodName := ⟨RX4, "setSetting", "(II)I"⟩
abbrev cX4_setGenerator : ByteArray := prog_1_method_5_code
def yX4_setGenerator : MethodName := ⟨RX4, "setGenerator", "(I)I"⟩
abbrev cX4_charge : ByteArray := prog_1_method_6_code
def yX4_charge : MethodName := ⟨RX4, "charge", "(II)I"⟩
abbrev cX4_run : ByteArray := prog_1_method_7_code
def yX4_run : MethodName := ⟨RX4, "run", "(I)I"⟩
abbrev cX4_roundNumber : ByteArray := prog_1_method_8_code
def yX4_roundNumber : MethodName := ⟨RX4, "roundNumber", "()I"⟩
abbrev cX4_sensorCount : ByteArray := prog_1_method_9_code
def yX4_sensorCount : MethodName := ⟨RX4, "sensorCount", "()I"⟩
abbrev cX4_aliveCount : ByteArray := prog_1_method_10_code
def yX4_aliveCount : MethodName := ⟨RX4, "aliveCount", "()I"⟩
abbrev cX4_isAlive : ByteArray := prog_1_method_11_code
def yX4_isAlive : MethodName := ⟨RX4, "isAlive", "(I)I"⟩
abbrev cX4_battery : ByteArray := prog_1_method_12_code
def yX4_battery : MethodName := ⟨RX4, "battery", "(I)I"⟩
abbrev cX4_isEligible : ByteArray := prog_1_method_13_code
def yX4_isEligible : MethodName := ⟨RX4, "isEligible", "(I)I"⟩
abbrev cX4_headRounds : ByteArray := prog_1_method_14_code
def yX4_headRounds : MethodName := ⟨RX4, "headRounds", "(I)I"⟩
abbrev cX4_deathRound : ByteArray := prog_1_method_15_code
def yX4_deathRound : MethodName := ⟨RX4, "deathRound", "(I)I"⟩
abbrev cX4_headOf : ByteArray := prog_1_method_16_code
def yX4_headOf : MethodName := ⟨RX4, "headOf", "(I)I"⟩
abbrev cX4_slotOf : ByteArray := prog_1_method_17_code
def yX4_slotOf : MethodName := ⟨RX4, "slotOf", "(I)I"⟩
abbrev cX4_headCount : ByteArray := prog_1_method_18_code
def yX4_headCount : MethodName := ⟨RX4, "headCount", "()I"⟩
abbrev cX4_lastDelivered : ByteArray := prog_1_method_19_code
def yX4_lastDelivered : MethodName := ⟨RX4, "lastDelivered", "()I"⟩
abbrev cX4_deliveredTotal : ByteArray := prog_1_method_20_code
def yX4_deliveredTotal : MethodName := ⟨RX4, "deliveredTotal", "()I"⟩
abbrev cX4_energyPaid : ByteArray := prog_1_method_21_code
def yX4_energyPaid : MethodName := ⟨RX4, "energyPaid", "()I"⟩
abbrev cX4_sendCost : ByteArray := prog_1_method_22_code
def yX4_sendCost : MethodName := ⟨RX4, "sendCost", "(II)I"⟩
abbrev cX4_forecastDeath : ByteArray := prog_1_method_23_code
def yX4_forecastDeath : MethodName := ⟨RX4, "forecastDeath", "(II)I"⟩
abbrev cX4_forecastDelivered : ByteArray := prog_1_method_24_code
def yX4_forecastDelivered : MethodName := ⟨RX4, "forecastDelivered", "(I)I"⟩
abbrev cX4_undo : ByteArray := prog_1_method_25_code
def yX4_undo : MethodName := ⟨RX4, "undo", "()I"⟩
abbrev cX4_undoDepth : ByteArray := prog_1_method_26_code
def yX4_undoDepth : MethodName := ⟨RX4, "undoDepth", "()I"⟩
abbrev cX4_save : ByteArray := prog_1_method_27_code
def yX4_save : MethodName := ⟨RX4, "save", "(I)I"⟩
abbrev cX4_restore : ByteArray := prog_1_method_28_code
def yX4_restore : MethodName := ⟨RX4, "restore", "(I)I"⟩
abbrev cX4_inRange : ByteArray := prog_1_method_29_code
def yX4_inRange : MethodName := ⟨RX4, "inRange", "(III)Z"⟩
def RX5 : String := "ClusterFieldModel"
def TX5 : u_T := fun k => match k with
  | 0 => ("ClusterFieldModel", "thrown", "I", false)
  | 1 => ("ClusterFieldModel", "s", "[I", true)
  | 2 => ("ClusterFieldModel", "copy", "[I", true)
  | 3 => ("ClusterFieldModel", "history", "[I", true)
  | 4 => ("ClusterFieldModel", "depth", "I", false)
  | 5 => ("ClusterFieldModel", "slots", "[I", true)
  | 6 => ("ClusterFieldModel", "isSaved", "[Z", true)
  | 7 => ("ClusterFieldModel", "isElected", "[Z", true)
  | _ => ("ClusterFieldModel", "with", "[I", true)
def tyX5 : Nat → FieldType := fun k => match k with
  | 0 => .int
  | 1 => .array .int
  | 2 => .array .int
  | 3 => .array .int
  | 4 => .int
  | 5 => .array .int
  | 6 => .array .boolean
  | 7 => .array .boolean
  | _ => .array .int
abbrev wsX50 : List Cond := u_ws RX5 TX5 9
theorem nmX5 : ∀ a, a < 9 → ∀ b, b < 9 → a ≠ b → (TX5 a).2.1 ≠ (TX5 b).2.1 := by decide +kernel
theorem tyX5_ok : ∀ k, k < 9 → parseFieldDescriptor (TX5 k).2.2.1 = some (tyX5 k) := by decide +kernel
abbrev cX5_init : ByteArray := prog_7_method_1_code
def yX5_init : MethodName := ⟨RX5, "<init>", "()V"⟩
abbrev cX5_in : ByteArray := prog_7_method_3_code
def yX5_in : MethodName := ⟨RX5, "in", "(III)Z"⟩
abbrev cX5_keep : ByteArray := prog_7_method_4_code
def yX5_keep : MethodName := ⟨RX5, "keep", "()V"⟩
abbrev cX5_isSensor : ByteArray := prog_7_method_5_code
def yX5_isSensor : MethodName := ⟨RX5, "isSensor", "(I)Z"⟩
abbrev cX5_of : ByteArray := prog_7_method_6_code
def yX5_of : MethodName := ⟨RX5, "of", "(II)I"⟩
abbrev cX5_set : ByteArray := prog_7_method_7_code
def yX5_set : MethodName := ⟨RX5, "set", "(III)V"⟩
abbrev cX5_lives : ByteArray := prog_7_method_8_code
def yX5_lives : MethodName := ⟨RX5, "lives", "(I)Z"⟩
abbrev cX5_setting : ByteArray := prog_7_method_9_code
def yX5_setting : MethodName := ⟨RX5, "setting", "(I)I"⟩
abbrev cX5_addSensor : ByteArray := prog_7_method_10_code
def yX5_addSensor : MethodName := ⟨RX5, "addSensor", "(III)I"⟩
abbrev cX5_moveBase : ByteArray := prog_7_method_11_code
def yX5_moveBase : MethodName := ⟨RX5, "moveBase", "(II)I"⟩
abbrev cX5_isSettingValue : ByteArray := prog_7_method_12_code
def yX5_isSettingValue : MethodName := ⟨RX5, "isSettingValue", "(II)Z"⟩
abbrev cX5_setSetting : ByteArray := prog_7_method_13_code
def yX5_setSetting : MethodName := ⟨RX5, "setSetting", "(II)I"⟩
abbrev cX5_setGenerator : ByteArray := prog_7_method_14_code
def yX5_setGenerator : MethodName := ⟨RX5, "setGenerator", "(I)I"⟩
abbrev cX5_charge : ByteArray := prog_7_method_15_code
def yX5_charge : MethodName := ⟨RX5, "charge", "(II)I"⟩
abbrev cX5_distanceTo : ByteArray := prog_7_method_16_code
def yX5_distanceTo : MethodName := ⟨RX5, "distanceTo", "(III)I"⟩
abbrev cX5_distance : ByteArray := prog_7_method_17_code
def yX5_distance : MethodName := ⟨RX5, "distance", "(II)I"⟩
abbrev cX5_distanceToBase : ByteArray := prog_7_method_18_code
def yX5_distanceToBase : MethodName := ⟨RX5, "distanceToBase", "(I)I"⟩
abbrev cX5_sendingCost : ByteArray := prog_7_method_19_code
def yX5_sendingCost : MethodName := ⟨RX5, "sendingCost", "(I)I"⟩
abbrev cX5_pays : ByteArray := prog_7_method_20_code
def yX5_pays : MethodName := ⟨RX5, "pays", "(II)Z"⟩
abbrev cX5_takesIn : ByteArray := prog_7_method_21_code
def yX5_takesIn : MethodName := ⟨RX5, "takesIn", "(I)Z"⟩
abbrev cX5_draw : ByteArray := prog_7_method_22_code
def yX5_draw : MethodName := ⟨RX5, "draw", "()I"⟩
abbrev cX5_isHead : ByteArray := prog_7_method_23_code
def yX5_isHead : MethodName := ⟨RX5, "isHead", "(I)Z"⟩
abbrev cX5_elect : ByteArray := prog_7_method_24_code
def yX5_elect : MethodName := ⟨RX5, "elect", "()V"⟩
abbrev cX5_announce : ByteArray := prog_7_method_25_code
def yX5_announce : MethodName := ⟨RX5, "announce", "()V"⟩
abbrev cX5_nearestHead : ByteArray := prog_7_method_26_code
def yX5_nearestHead : MethodName := ⟨RX5, "nearestHead", "(I)I"⟩
abbrev cX5_join : ByteArray := prog_7_method_27_code
def yX5_join : MethodName := ⟨RX5, "join", "()V"⟩
abbrev cX5_report : ByteArray := prog_7_method_28_code
def yX5_report : MethodName := ⟨RX5, "report", "()V"⟩
abbrev cX5_deliver : ByteArray := prog_7_method_29_code
def yX5_deliver : MethodName := ⟨RX5, "deliver", "(I)V"⟩
abbrev cX5_relay : ByteArray := prog_7_method_30_code
def yX5_relay : MethodName := ⟨RX5, "relay", "()I"⟩
abbrev cX5_deliverByRelay : ByteArray := prog_7_method_31_code
def yX5_deliverByRelay : MethodName := ⟨RX5, "deliverByRelay", "()V"⟩
abbrev cX5_deliverAlone : ByteArray := prog_7_method_32_code
def yX5_deliverAlone : MethodName := ⟨RX5, "deliverAlone", "()V"⟩
abbrev cX5_deliverAll : ByteArray := prog_7_method_33_code
def yX5_deliverAll : MethodName := ⟨RX5, "deliverAll", "()V"⟩
abbrev cX5_perform : ByteArray := prog_7_method_34_code
def yX5_perform : MethodName := ⟨RX5, "perform", "()V"⟩
abbrev cX5_alive : ByteArray := prog_7_method_35_code
def yX5_alive : MethodName := ⟨RX5, "alive", "()I"⟩
abbrev cX5_performMany : ByteArray := prog_7_method_36_code
def yX5_performMany : MethodName := ⟨RX5, "performMany", "(I)I"⟩
abbrev cX5_run : ByteArray := prog_7_method_37_code
def yX5_run : MethodName := ⟨RX5, "run", "(I)I"⟩
abbrev cX5_roundNumber : ByteArray := prog_7_method_38_code
def yX5_roundNumber : MethodName := ⟨RX5, "roundNumber", "()I"⟩
abbrev cX5_sensorCount : ByteArray := prog_7_method_39_code
def yX5_sensorCount : MethodName := ⟨RX5, "sensorCount", "()I"⟩
abbrev cX5_aliveCount : ByteArray := prog_7_method_40_code
def yX5_aliveCount : MethodName := ⟨RX5, "aliveCount", "()I"⟩
abbrev cX5_value : ByteArray := prog_7_method_41_code
def yX5_value : MethodName := ⟨RX5, "value", "(II)I"⟩
abbrev cX5_isAlive : ByteArray := prog_7_method_42_code
def yX5_isAlive : MethodName := ⟨RX5, "isAlive", "(I)I"⟩
abbrev cX5_battery : ByteArray := prog_7_method_43_code
def yX5_battery : MethodName := ⟨RX5, "battery", "(I)I"⟩
abbrev cX5_isEligible : ByteArray := prog_7_method_44_code
def yX5_isEligible : MethodName := ⟨RX5, "isEligible", "(I)I"⟩
abbrev cX5_headRounds : ByteArray := prog_7_method_45_code
def yX5_headRounds : MethodName := ⟨RX5, "headRounds", "(I)I"⟩
abbrev cX5_deathRound : ByteArray := prog_7_method_46_code
def yX5_deathRound : MethodName := ⟨RX5, "deathRound", "(I)I"⟩
abbrev cX5_headOf : ByteArray := prog_7_method_47_code
def yX5_headOf : MethodName := ⟨RX5, "headOf", "(I)I"⟩
abbrev cX5_slotOf : ByteArray := prog_7_method_48_code
def yX5_slotOf : MethodName := ⟨RX5, "slotOf", "(I)I"⟩
abbrev cX5_headCount : ByteArray := prog_7_method_49_code
def yX5_headCount : MethodName := ⟨RX5, "headCount", "()I"⟩
abbrev cX5_lastDelivered : ByteArray := prog_7_method_50_code
def yX5_lastDelivered : MethodName := ⟨RX5, "lastDelivered", "()I"⟩
abbrev cX5_deliveredTotal : ByteArray := prog_7_method_51_code
def yX5_deliveredTotal : MethodName := ⟨RX5, "deliveredTotal", "()I"⟩
abbrev cX5_energyPaid : ByteArray := prog_7_method_52_code
def yX5_energyPaid : MethodName := ⟨RX5, "energyPaid", "()I"⟩
abbrev cX5_sendCost : ByteArray := prog_7_method_53_code
def yX5_sendCost : MethodName := ⟨RX5, "sendCost", "(II)I"⟩
abbrev cX5_takeCopy : ByteArray := prog_7_method_54_code
def yX5_takeCopy : MethodName := ⟨RX5, "takeCopy", "()V"⟩
abbrev cX5_putBack : ByteArray := prog_7_method_55_code
def yX5_putBack : MethodName := ⟨RX5, "putBack", "()V"⟩
abbrev cX5_forecastDeath : ByteArray := prog_7_method_56_code
def yX5_forecastDeath : MethodName := ⟨RX5, "forecastDeath", "(II)I"⟩
abbrev cX5_forecastDelivered : ByteArray := prog_7_method_57_code
def yX5_forecastDelivered : MethodName := ⟨RX5, "forecastDelivered", "(I)I"⟩
abbrev cX5_undo : ByteArray := prog_7_method_58_code
def yX5_undo : MethodName := ⟨RX5, "undo", "()I"⟩
abbrev cX5_undoDepth : ByteArray := prog_7_method_59_code
def yX5_undoDepth : MethodName := ⟨RX5, "undoDepth", "()I"⟩
abbrev cX5_save : ByteArray := prog_7_method_60_code
def yX5_save : MethodName := ⟨RX5, "save", "(I)I"⟩
abbrev cX5_restore : ByteArray := prog_7_method_61_code
def yX5_restore : MethodName := ⟨RX5, "restore", "(I)I"⟩
def RJ10 : String := "java/lang/System"
def TJ10 : u_T := fun k => match k with
  | _ => ("", "", "", false)
def tyJ10 : Nat → FieldType := fun k => match k with
  | _ => .int
abbrev wsJ100 : List Cond := u_ws RJ10 TJ10 0
theorem nmJ10 : ∀ a, a < 0 → ∀ b, b < 0 → a ≠ b → (TJ10 a).2.1 ≠ (TJ10 b).2.1 := by decide +kernel
theorem tyJ10_ok : ∀ k, k < 0 → parseFieldDescriptor (TJ10 k).2.2.1 = some (tyJ10 k) := by decide +kernel
def RL : String := "ClusterFieldLaw"
abbrev cL_law : ByteArray := code
def yL_law : MethodName := ⟨RL, "law", "([I)Z"⟩
def wsX3_init : List Cond := .code yX3_init cX3_init 1 none :: ([.methodLink RX3 3 objectInit, .instanceMethod objectInit, .code objectInit ⟨#[0xb1]⟩ 1 none])
def wsX1_init : List Cond := .code yX1_init cX1_init 2 none :: ([.methodLink RX1 3 objectInit, .instanceMethod objectInit, .code objectInit ⟨#[0xb1]⟩ 1 none, .classLink RX1 9 RX3, .fieldLink RX1 11 "ClusterField$Network" "sensors" "[LClusterField$Sensor;", .arrayClass .int, .fieldLink RX1 17 "ClusterField$Network" "settings" "[I", .fieldLink RX1 21 "ClusterField$Network" "baseX" "I", .fieldLink RX1 25 "ClusterField$Network" "baseY" "I", .fieldLink RX1 28 "ClusterField$Network" "generator" "I", .instantiable RX3 11, .initialized RX3, .fieldLink RX1 32 "ClusterField$Network" "FIRST" "[I", .methodLink RX1 35 arraycopyName, .native arraycopyName, .static arraycopyName, .initialized "java/lang/System", .instanceMethod yX3_init, .code yX3_init cX3_init 1 none, .methodLink RX3 3 objectInit] ++ wsX10 ++ wsX30)
def wsX0_init_r1 : List Cond := [Cond.methodLink RX0 1 objectInit, Cond.instanceMethod objectInit, Cond.code objectInit ⟨#[0xb1]⟩ 1 none, Cond.classLink RX0 9 RX1, Cond.fieldLink RX0 11 "ClusterField$History" "saved" "[LClusterField$Network;", Cond.instantiable RX1 11, Cond.initialized RX1, Cond.methodLink RX0 15 yX1_init, Cond.instanceMethod yX1_init, Cond.code yX1_init cX1_init 2 none, Cond.methodLink RX1 3 objectInit, Cond.classLink RX1 9 RX3, Cond.fieldLink RX1 11 "ClusterField$Network" "sensors" "[LClusterField$Sensor;", Cond.arrayClass .int, Cond.fieldLink RX1 17 "ClusterField$Network" "settings" "[I", Cond.fieldLink RX1 21 "ClusterField$Network" "baseX" "I", Cond.fieldLink RX1 25 "ClusterField$Network" "baseY" "I", Cond.fieldLink RX1 28 "ClusterField$Network" "generator" "I", Cond.instantiable RX3 11, Cond.initialized RX3, Cond.fieldLink RX1 32 "ClusterField$Network" "FIRST" "[I", Cond.methodLink RX1 35 arraycopyName, Cond.native arraycopyName, Cond.static arraycopyName]
def wsX0_init_r2 : List Cond := [Cond.initialized "java/lang/System", Cond.instanceMethod yX3_init, Cond.code yX3_init cX3_init 1 none, Cond.methodLink RX3 3 objectInit]
def wsX0_init : List Cond := .code yX0_init cX0_init 2 none :: ((wsX0_init_r1 ++ wsX0_init_r2) ++ wsX00 ++ wsX10 ++ wsX30)
def wsX0_dropOldest : List Cond := .code yX0_dropOldest cX0_dropOldest 3 none :: ([.fieldLink RX0 11 "ClusterField$History" "saved" "[LClusterField$Network;", .fieldLink RX0 16 "ClusterField$History" "depth" "I"] ++ wsX00)
def wsX3_copyFrom : List Cond := .code yX3_copyFrom cX3_copyFrom 2 none :: ([.fieldLink RX3 9 "ClusterField$Sensor" "x" "I", .fieldLink RX3 15 "ClusterField$Sensor" "y" "I", .fieldLink RX3 18 "ClusterField$Sensor" "battery" "I", .fieldLink RX3 21 "ClusterField$Sensor" "alive" "Z", .fieldLink RX3 25 "ClusterField$Sensor" "eligible" "Z", .fieldLink RX3 28 "ClusterField$Sensor" "headRounds" "I", .fieldLink RX3 31 "ClusterField$Sensor" "deathRound" "I", .fieldLink RX3 37 "ClusterField$Sensor" "head" "I", .fieldLink RX3 40 "ClusterField$Sensor" "slot" "I"] ++ wsX30)
def wsX1_copyFrom_r1 : List Cond := [Cond.fieldLink RX1 41 "ClusterField$Network" "count" "I", Cond.fieldLink RX1 11 "ClusterField$Network" "sensors" "[LClusterField$Sensor;", Cond.fieldLink RX1 17 "ClusterField$Network" "settings" "[I", Cond.methodLink RX1 35 arraycopyName, Cond.native arraycopyName, Cond.static arraycopyName, Cond.initialized "java/lang/System", Cond.fieldLink RX1 21 "ClusterField$Network" "baseX" "I", Cond.fieldLink RX1 25 "ClusterField$Network" "baseY" "I", Cond.fieldLink RX1 28 "ClusterField$Network" "generator" "I", Cond.fieldLink RX1 48 "ClusterField$Network" "round" "I", Cond.fieldLink RX1 51 "ClusterField$Network" "lastHeads" "I", Cond.fieldLink RX1 54 "ClusterField$Network" "lastReadings" "I", Cond.fieldLink RX1 57 "ClusterField$Network" "allReadings" "I", Cond.fieldLink RX1 60 "ClusterField$Network" "paid" "I", Cond.methodLink RX1 44 yX3_copyFrom, Cond.instanceMethod yX3_copyFrom, Cond.selects RX3 yX3_copyFrom yX3_copyFrom, Cond.initialized RX3, Cond.code yX3_copyFrom cX3_copyFrom 2 none, Cond.fieldLink RX3 9 "ClusterField$Sensor" "x" "I", Cond.fieldLink RX3 15 "ClusterField$Sensor" "y" "I", Cond.fieldLink RX3 18 "ClusterField$Sensor" "battery" "I", Cond.fieldLink RX3 21 "ClusterField$Sensor" "alive" "Z"]
def wsX1_copyFrom_r2 : List Cond := [Cond.fieldLink RX3 25 "ClusterField$Sensor" "eligible" "Z", Cond.fieldLink RX3 28 "ClusterField$Sensor" "headRounds" "I", Cond.fieldLink RX3 31 "ClusterField$Sensor" "deathRound" "I", Cond.fieldLink RX3 37 "ClusterField$Sensor" "head" "I", Cond.fieldLink RX3 40 "ClusterField$Sensor" "slot" "I"]
def wsX1_copyFrom : List Cond := .code yX1_copyFrom cX1_copyFrom 3 none :: ((wsX1_copyFrom_r1 ++ wsX1_copyFrom_r2) ++ wsX10 ++ wsX30)
def wsX0_push_r1 : List Cond := [Cond.fieldLink RX0 16 "ClusterField$History" "depth" "I", Cond.fieldLink RX0 11 "ClusterField$History" "saved" "[LClusterField$Network;", Cond.methodLink RX0 20 yX0_dropOldest, Cond.instanceMethod yX0_dropOldest, Cond.selects RX0 yX0_dropOldest yX0_dropOldest, Cond.initialized RX0, Cond.code yX0_dropOldest cX0_dropOldest 3 none, Cond.methodLink RX0 23 yX1_copyFrom, Cond.instanceMethod yX1_copyFrom, Cond.selects RX1 yX1_copyFrom yX1_copyFrom, Cond.initialized RX1, Cond.code yX1_copyFrom cX1_copyFrom 3 none, Cond.fieldLink RX1 41 "ClusterField$Network" "count" "I", Cond.fieldLink RX1 11 "ClusterField$Network" "sensors" "[LClusterField$Sensor;", Cond.fieldLink RX1 17 "ClusterField$Network" "settings" "[I", Cond.methodLink RX1 35 arraycopyName, Cond.native arraycopyName, Cond.static arraycopyName, Cond.initialized "java/lang/System", Cond.fieldLink RX1 21 "ClusterField$Network" "baseX" "I", Cond.fieldLink RX1 25 "ClusterField$Network" "baseY" "I", Cond.fieldLink RX1 28 "ClusterField$Network" "generator" "I", Cond.fieldLink RX1 48 "ClusterField$Network" "round" "I", Cond.fieldLink RX1 51 "ClusterField$Network" "lastHeads" "I"]
def wsX0_push_r2 : List Cond := [Cond.fieldLink RX1 54 "ClusterField$Network" "lastReadings" "I", Cond.fieldLink RX1 57 "ClusterField$Network" "allReadings" "I", Cond.fieldLink RX1 60 "ClusterField$Network" "paid" "I", Cond.methodLink RX1 44 yX3_copyFrom, Cond.instanceMethod yX3_copyFrom, Cond.selects RX3 yX3_copyFrom yX3_copyFrom, Cond.initialized RX3, Cond.code yX3_copyFrom cX3_copyFrom 2 none, Cond.fieldLink RX3 9 "ClusterField$Sensor" "x" "I", Cond.fieldLink RX3 15 "ClusterField$Sensor" "y" "I", Cond.fieldLink RX3 18 "ClusterField$Sensor" "battery" "I", Cond.fieldLink RX3 21 "ClusterField$Sensor" "alive" "Z", Cond.fieldLink RX3 25 "ClusterField$Sensor" "eligible" "Z", Cond.fieldLink RX3 28 "ClusterField$Sensor" "headRounds" "I", Cond.fieldLink RX3 31 "ClusterField$Sensor" "deathRound" "I", Cond.fieldLink RX3 37 "ClusterField$Sensor" "head" "I", Cond.fieldLink RX3 40 "ClusterField$Sensor" "slot" "I"]
def wsX0_push : List Cond := .code yX0_push cX0_push 2 none :: ((wsX0_push_r1 ++ wsX0_push_r2) ++ wsX00 ++ wsX10 ++ wsX30)
def wsX0_popInto_r1 : List Cond := [Cond.fieldLink RX0 16 "ClusterField$History" "depth" "I", Cond.fieldLink RX0 11 "ClusterField$History" "saved" "[LClusterField$Network;", Cond.methodLink RX0 23 yX1_copyFrom, Cond.instanceMethod yX1_copyFrom, Cond.selects RX1 yX1_copyFrom yX1_copyFrom, Cond.initialized RX1, Cond.code yX1_copyFrom cX1_copyFrom 3 none, Cond.fieldLink RX1 41 "ClusterField$Network" "count" "I", Cond.fieldLink RX1 11 "ClusterField$Network" "sensors" "[LClusterField$Sensor;", Cond.fieldLink RX1 17 "ClusterField$Network" "settings" "[I", Cond.methodLink RX1 35 arraycopyName, Cond.native arraycopyName, Cond.static arraycopyName, Cond.initialized "java/lang/System", Cond.fieldLink RX1 21 "ClusterField$Network" "baseX" "I", Cond.fieldLink RX1 25 "ClusterField$Network" "baseY" "I", Cond.fieldLink RX1 28 "ClusterField$Network" "generator" "I", Cond.fieldLink RX1 48 "ClusterField$Network" "round" "I", Cond.fieldLink RX1 51 "ClusterField$Network" "lastHeads" "I", Cond.fieldLink RX1 54 "ClusterField$Network" "lastReadings" "I", Cond.fieldLink RX1 57 "ClusterField$Network" "allReadings" "I", Cond.fieldLink RX1 60 "ClusterField$Network" "paid" "I", Cond.methodLink RX1 44 yX3_copyFrom, Cond.instanceMethod yX3_copyFrom]
def wsX0_popInto_r2 : List Cond := [Cond.selects RX3 yX3_copyFrom yX3_copyFrom, Cond.initialized RX3, Cond.code yX3_copyFrom cX3_copyFrom 2 none, Cond.fieldLink RX3 9 "ClusterField$Sensor" "x" "I", Cond.fieldLink RX3 15 "ClusterField$Sensor" "y" "I", Cond.fieldLink RX3 18 "ClusterField$Sensor" "battery" "I", Cond.fieldLink RX3 21 "ClusterField$Sensor" "alive" "Z", Cond.fieldLink RX3 25 "ClusterField$Sensor" "eligible" "Z", Cond.fieldLink RX3 28 "ClusterField$Sensor" "headRounds" "I", Cond.fieldLink RX3 31 "ClusterField$Sensor" "deathRound" "I", Cond.fieldLink RX3 37 "ClusterField$Sensor" "head" "I", Cond.fieldLink RX3 40 "ClusterField$Sensor" "slot" "I"]
def wsX0_popInto : List Cond := .code yX0_popInto cX0_popInto 2 none :: ((wsX0_popInto_r1 ++ wsX0_popInto_r2) ++ wsX00 ++ wsX10 ++ wsX30)
def wsX1_has : List Cond := .code yX1_has cX1_has 2 (some .boolean) :: ([.fieldLink RX1 41 "ClusterField$Network" "count" "I"] ++ wsX10)
def wsX1_countAlive : List Cond := .code yX1_countAlive cX1_countAlive 3 (some .int) :: ([.fieldLink RX1 41 "ClusterField$Network" "count" "I", .fieldLink RX1 11 "ClusterField$Network" "sensors" "[LClusterField$Sensor;", .fieldLink RX1 63 "ClusterField$Sensor" "alive" "Z"] ++ wsX10 ++ wsX30)
def wsX1_phase : List Cond := .code yX1_phase cX1_phase 2 (some .int) :: ([.fieldLink RX1 17 "ClusterField$Network" "settings" "[I", .fieldLink RX1 48 "ClusterField$Network" "round" "I"] ++ wsX10)
def wsX1_costOver : List Cond := .code yX1_costOver cX1_costOver 3 (some .int) :: ([.fieldLink RX1 17 "ClusterField$Network" "settings" "[I"] ++ wsX10)
def wsX2_init : List Cond := .code yX2_init cX2_init 2 none :: ([.methodLink RX2 3 objectInit, .instanceMethod objectInit, .code objectInit ⟨#[0xb1]⟩ 1 none, .fieldLink RX2 9 "ClusterField$Rounds" "net" "LClusterField$Network;"] ++ wsX20)
def wsX3_beginRound : List Cond := .code yX3_beginRound cX3_beginRound 1 none :: ([.fieldLink RX3 37 "ClusterField$Sensor" "head" "I", .fieldLink RX3 40 "ClusterField$Sensor" "slot" "I", .fieldLink RX3 43 "ClusterField$Sensor" "elected" "Z", .fieldLink RX3 46 "ClusterField$Sensor" "readings" "I"] ++ wsX30)
def wsX2_begin : List Cond := .code yX2_begin cX2_begin 4 none :: ([.fieldLink RX2 9 "ClusterField$Rounds" "net" "LClusterField$Network;", .fieldLink RX2 64 "ClusterField$Network" "count" "I", .fieldLink RX2 67 "ClusterField$Network" "sensors" "[LClusterField$Sensor;", .fieldLink RX2 76 "ClusterField$Sensor" "eligible" "Z", .fieldLink RX2 33 "ClusterField$Network" "lastHeads" "I", .fieldLink RX2 55 "ClusterField$Network" "lastReadings" "I", .methodLink RX2 61 yX1_phase, .instanceMethod yX1_phase, .selects RX1 yX1_phase yX1_phase, .initialized RX1, .code yX1_phase cX1_phase 2 (some .int), .fieldLink RX1 17 "ClusterField$Network" "settings" "[I", .fieldLink RX1 48 "ClusterField$Network" "round" "I", .methodLink RX2 71 yX3_beginRound, .instanceMethod yX3_beginRound, .selects RX3 yX3_beginRound yX3_beginRound, .initialized RX3, .code yX3_beginRound cX3_beginRound 1 none, .fieldLink RX3 37 "ClusterField$Sensor" "head" "I", .fieldLink RX3 40 "ClusterField$Sensor" "slot" "I", .fieldLink RX3 43 "ClusterField$Sensor" "elected" "Z", .fieldLink RX3 46 "ClusterField$Sensor" "readings" "I"] ++ wsX20 ++ wsX10 ++ wsX30)
def wsX2_draw : List Cond := .code yX2_draw cX2_draw 3 (some .int) :: ([.fieldLink RX2 9 "ClusterField$Rounds" "net" "LClusterField$Network;", .fieldLink RX2 93 "ClusterField$Network" "generator" "I", .constantLong RX2 96 (1103515245), .constantLong RX2 98 (12345), .constantLong RX2 100 (2147483648), .constant RX2 102 (65536)] ++ wsX20 ++ wsX10)
def wsX2_elect : List Cond := .code yX2_elect cX2_elect 4 none :: ([.fieldLink RX2 9 "ClusterField$Rounds" "net" "LClusterField$Network;", .fieldLink RX2 80 "ClusterField$Network" "settings" "[I", .fieldLink RX2 64 "ClusterField$Network" "count" "I", .fieldLink RX2 67 "ClusterField$Network" "sensors" "[LClusterField$Sensor;", .fieldLink RX2 84 "ClusterField$Sensor" "alive" "Z", .fieldLink RX2 76 "ClusterField$Sensor" "eligible" "Z", .fieldLink RX2 90 "ClusterField$Sensor" "elected" "Z", .methodLink RX2 61 yX1_phase, .instanceMethod yX1_phase, .selects RX1 yX1_phase yX1_phase, .initialized RX1, .code yX1_phase cX1_phase 2 (some .int), .fieldLink RX1 17 "ClusterField$Network" "settings" "[I", .fieldLink RX1 48 "ClusterField$Network" "round" "I", .methodLink RX2 87 yX2_draw, .instanceMethod yX2_draw, .selects RX2 yX2_draw yX2_draw, .initialized RX2, .code yX2_draw cX2_draw 3 (some .int), .fieldLink RX2 93 "ClusterField$Network" "generator" "I", .constantLong RX2 96 (1103515245), .constantLong RX2 98 (12345), .constantLong RX2 100 (2147483648), .constant RX2 102 (65536)] ++ wsX20 ++ wsX10 ++ wsX30)
def wsX2_pays : List Cond := .code yX2_pays cX2_pays 3 (some .boolean) :: ([.fieldLink RX2 177 "ClusterField$Sensor" "battery" "I", .fieldLink RX2 84 "ClusterField$Sensor" "alive" "Z", .fieldLink RX2 9 "ClusterField$Rounds" "net" "LClusterField$Network;", .fieldLink RX2 58 "ClusterField$Network" "round" "I", .fieldLink RX2 180 "ClusterField$Sensor" "deathRound" "I", .fieldLink RX2 183 "ClusterField$Network" "paid" "I"] ++ wsX30 ++ wsX20 ++ wsX10)
def wsX2_announce : List Cond := .code yX2_announce cX2_announce 3 none :: ([.fieldLink RX2 9 "ClusterField$Rounds" "net" "LClusterField$Network;", .fieldLink RX2 64 "ClusterField$Network" "count" "I", .fieldLink RX2 67 "ClusterField$Network" "sensors" "[LClusterField$Sensor;", .fieldLink RX2 90 "ClusterField$Sensor" "elected" "Z", .fieldLink RX2 80 "ClusterField$Network" "settings" "[I", .fieldLink RX2 107 "ClusterField$Sensor" "head" "I", .fieldLink RX2 76 "ClusterField$Sensor" "eligible" "Z", .fieldLink RX2 110 "ClusterField$Sensor" "headRounds" "I", .fieldLink RX2 33 "ClusterField$Network" "lastHeads" "I", .methodLink RX2 103 yX2_pays, .instanceMethod yX2_pays, .selects RX2 yX2_pays yX2_pays, .initialized RX2, .code yX2_pays cX2_pays 3 (some .boolean), .fieldLink RX2 177 "ClusterField$Sensor" "battery" "I", .fieldLink RX2 84 "ClusterField$Sensor" "alive" "Z", .fieldLink RX2 58 "ClusterField$Network" "round" "I", .fieldLink RX2 180 "ClusterField$Sensor" "deathRound" "I", .fieldLink RX2 183 "ClusterField$Network" "paid" "I"] ++ wsX20 ++ wsX10 ++ wsX30)
def wsX3_distanceTo : List Cond := .code yX3_distanceTo cX3_distanceTo 5 (some .int) :: ([.fieldLink RX3 9 "ClusterField$Sensor" "x" "I", .fieldLink RX3 15 "ClusterField$Sensor" "y" "I"] ++ wsX30)
def wsX2_sendToBase_r1 : List Cond := [Cond.fieldLink RX2 9 "ClusterField$Rounds" "net" "LClusterField$Network;", Cond.fieldLink RX2 164 "ClusterField$Network" "baseX" "I", Cond.fieldLink RX2 167 "ClusterField$Network" "baseY" "I", Cond.fieldLink RX2 55 "ClusterField$Network" "lastReadings" "I", Cond.methodLink RX2 134 yX3_distanceTo, Cond.instanceMethod yX3_distanceTo, Cond.selects RX3 yX3_distanceTo yX3_distanceTo, Cond.initialized RX3, Cond.code yX3_distanceTo cX3_distanceTo 5 (some .int), Cond.fieldLink RX3 9 "ClusterField$Sensor" "x" "I", Cond.fieldLink RX3 15 "ClusterField$Sensor" "y" "I", Cond.methodLink RX2 173 yX1_costOver, Cond.instanceMethod yX1_costOver, Cond.selects RX1 yX1_costOver yX1_costOver, Cond.initialized RX1, Cond.code yX1_costOver cX1_costOver 3 (some .int), Cond.fieldLink RX1 17 "ClusterField$Network" "settings" "[I", Cond.methodLink RX2 103 yX2_pays, Cond.instanceMethod yX2_pays, Cond.selects RX2 yX2_pays yX2_pays, Cond.initialized RX2, Cond.code yX2_pays cX2_pays 3 (some .boolean), Cond.fieldLink RX2 177 "ClusterField$Sensor" "battery" "I", Cond.fieldLink RX2 84 "ClusterField$Sensor" "alive" "Z"]
def wsX2_sendToBase_r2 : List Cond := [Cond.fieldLink RX2 58 "ClusterField$Network" "round" "I", Cond.fieldLink RX2 180 "ClusterField$Sensor" "deathRound" "I", Cond.fieldLink RX2 183 "ClusterField$Network" "paid" "I"]
def wsX2_sendToBase : List Cond := .code yX2_sendToBase cX2_sendToBase 3 none :: ((wsX2_sendToBase_r1 ++ wsX2_sendToBase_r2) ++ wsX20 ++ wsX10 ++ wsX30)
def wsX2_reportToBase_r1 : List Cond := [Cond.fieldLink RX2 9 "ClusterField$Rounds" "net" "LClusterField$Network;", Cond.fieldLink RX2 64 "ClusterField$Network" "count" "I", Cond.fieldLink RX2 67 "ClusterField$Network" "sensors" "[LClusterField$Sensor;", Cond.fieldLink RX2 84 "ClusterField$Sensor" "alive" "Z", Cond.methodLink RX2 160 yX2_sendToBase, Cond.instanceMethod yX2_sendToBase, Cond.selects RX2 yX2_sendToBase yX2_sendToBase, Cond.initialized RX2, Cond.code yX2_sendToBase cX2_sendToBase 3 none, Cond.fieldLink RX2 164 "ClusterField$Network" "baseX" "I", Cond.fieldLink RX2 167 "ClusterField$Network" "baseY" "I", Cond.fieldLink RX2 55 "ClusterField$Network" "lastReadings" "I", Cond.methodLink RX2 134 yX3_distanceTo, Cond.instanceMethod yX3_distanceTo, Cond.selects RX3 yX3_distanceTo yX3_distanceTo, Cond.initialized RX3, Cond.code yX3_distanceTo cX3_distanceTo 5 (some .int), Cond.fieldLink RX3 9 "ClusterField$Sensor" "x" "I", Cond.fieldLink RX3 15 "ClusterField$Sensor" "y" "I", Cond.methodLink RX2 173 yX1_costOver, Cond.instanceMethod yX1_costOver, Cond.selects RX1 yX1_costOver yX1_costOver, Cond.initialized RX1, Cond.code yX1_costOver cX1_costOver 3 (some .int)]
def wsX2_reportToBase_r2 : List Cond := [Cond.fieldLink RX1 17 "ClusterField$Network" "settings" "[I", Cond.methodLink RX2 103 yX2_pays, Cond.instanceMethod yX2_pays, Cond.selects RX2 yX2_pays yX2_pays, Cond.code yX2_pays cX2_pays 3 (some .boolean), Cond.fieldLink RX2 177 "ClusterField$Sensor" "battery" "I", Cond.fieldLink RX2 58 "ClusterField$Network" "round" "I", Cond.fieldLink RX2 180 "ClusterField$Sensor" "deathRound" "I", Cond.fieldLink RX2 183 "ClusterField$Network" "paid" "I"]
def wsX2_reportToBase : List Cond := .code yX2_reportToBase cX2_reportToBase 3 none :: ((wsX2_reportToBase_r1 ++ wsX2_reportToBase_r2) ++ wsX20 ++ wsX10 ++ wsX30)
def wsX2_isLivingHead : List Cond := .code yX2_isLivingHead cX2_isLivingHead 3 (some .boolean) :: ([.fieldLink RX2 9 "ClusterField$Rounds" "net" "LClusterField$Network;", .fieldLink RX2 67 "ClusterField$Network" "sensors" "[LClusterField$Sensor;", .fieldLink RX2 84 "ClusterField$Sensor" "alive" "Z", .fieldLink RX2 107 "ClusterField$Sensor" "head" "I"] ++ wsX20 ++ wsX10 ++ wsX30)
def wsX2_nearestHead : List Cond := .code yX2_nearestHead cX2_nearestHead 7 (some .int) :: ([.fieldLink RX2 9 "ClusterField$Rounds" "net" "LClusterField$Network;", .fieldLink RX2 64 "ClusterField$Network" "count" "I", .fieldLink RX2 67 "ClusterField$Network" "sensors" "[LClusterField$Sensor;", .methodLink RX2 131 yX2_isLivingHead, .instanceMethod yX2_isLivingHead, .selects RX2 yX2_isLivingHead yX2_isLivingHead, .initialized RX2, .code yX2_isLivingHead cX2_isLivingHead 3 (some .boolean), .fieldLink RX2 84 "ClusterField$Sensor" "alive" "Z", .fieldLink RX2 107 "ClusterField$Sensor" "head" "I", .methodLink RX2 134 yX3_distanceTo, .instanceMethod yX3_distanceTo, .selects RX3 yX3_distanceTo yX3_distanceTo, .initialized RX3, .code yX3_distanceTo cX3_distanceTo 5 (some .int), .fieldLink RX3 9 "ClusterField$Sensor" "x" "I", .fieldLink RX3 15 "ClusterField$Sensor" "y" "I"] ++ wsX20 ++ wsX10 ++ wsX30)
def wsX2_isHead : List Cond := .code yX2_isHead cX2_isHead 2 (some .boolean) :: ([.fieldLink RX2 9 "ClusterField$Rounds" "net" "LClusterField$Network;", .fieldLink RX2 67 "ClusterField$Network" "sensors" "[LClusterField$Sensor;", .fieldLink RX2 107 "ClusterField$Sensor" "head" "I"] ++ wsX20 ++ wsX10 ++ wsX30)
def wsX2_hasJoined : List Cond := .code yX2_hasJoined cX2_hasJoined 3 (some .boolean) :: ([.fieldLink RX2 9 "ClusterField$Rounds" "net" "LClusterField$Network;", .fieldLink RX2 67 "ClusterField$Network" "sensors" "[LClusterField$Sensor;", .fieldLink RX2 107 "ClusterField$Sensor" "head" "I"] ++ wsX20 ++ wsX10 ++ wsX30)
def wsX2_giveSlots : List Cond := .code yX2_giveSlots cX2_giveSlots 4 none :: ([.fieldLink RX2 9 "ClusterField$Rounds" "net" "LClusterField$Network;", .fieldLink RX2 64 "ClusterField$Network" "count" "I", .fieldLink RX2 67 "ClusterField$Network" "sensors" "[LClusterField$Sensor;", .fieldLink RX2 141 "ClusterField$Sensor" "slot" "I", .methodLink RX2 137 yX2_hasJoined, .instanceMethod yX2_hasJoined, .selects RX2 yX2_hasJoined yX2_hasJoined, .initialized RX2, .code yX2_hasJoined cX2_hasJoined 3 (some .boolean), .fieldLink RX2 107 "ClusterField$Sensor" "head" "I"] ++ wsX20 ++ wsX10 ++ wsX30)
def wsX2_join_r1 : List Cond := [Cond.fieldLink RX2 9 "ClusterField$Rounds" "net" "LClusterField$Network;", Cond.fieldLink RX2 64 "ClusterField$Network" "count" "I", Cond.fieldLink RX2 67 "ClusterField$Network" "sensors" "[LClusterField$Sensor;", Cond.fieldLink RX2 84 "ClusterField$Sensor" "alive" "Z", Cond.fieldLink RX2 107 "ClusterField$Sensor" "head" "I", Cond.fieldLink RX2 113 "ClusterField$Sensor" "x" "I", Cond.fieldLink RX2 116 "ClusterField$Sensor" "y" "I", Cond.methodLink RX2 119 yX2_nearestHead, Cond.instanceMethod yX2_nearestHead, Cond.selects RX2 yX2_nearestHead yX2_nearestHead, Cond.initialized RX2, Cond.code yX2_nearestHead cX2_nearestHead 7 (some .int), Cond.methodLink RX2 131 yX2_isLivingHead, Cond.instanceMethod yX2_isLivingHead, Cond.selects RX2 yX2_isLivingHead yX2_isLivingHead, Cond.code yX2_isLivingHead cX2_isLivingHead 3 (some .boolean), Cond.methodLink RX2 134 yX3_distanceTo, Cond.instanceMethod yX3_distanceTo, Cond.selects RX3 yX3_distanceTo yX3_distanceTo, Cond.initialized RX3, Cond.code yX3_distanceTo cX3_distanceTo 5 (some .int), Cond.fieldLink RX3 9 "ClusterField$Sensor" "x" "I", Cond.fieldLink RX3 15 "ClusterField$Sensor" "y" "I", Cond.methodLink RX2 123 yX2_isHead]
def wsX2_join_r2 : List Cond := [Cond.instanceMethod yX2_isHead, Cond.selects RX2 yX2_isHead yX2_isHead, Cond.code yX2_isHead cX2_isHead 2 (some .boolean), Cond.methodLink RX2 127 yX2_giveSlots, Cond.instanceMethod yX2_giveSlots, Cond.selects RX2 yX2_giveSlots yX2_giveSlots, Cond.code yX2_giveSlots cX2_giveSlots 4 none, Cond.fieldLink RX2 141 "ClusterField$Sensor" "slot" "I", Cond.methodLink RX2 137 yX2_hasJoined, Cond.instanceMethod yX2_hasJoined, Cond.selects RX2 yX2_hasJoined yX2_hasJoined, Cond.code yX2_hasJoined cX2_hasJoined 3 (some .boolean)]
def wsX2_join : List Cond := .code yX2_join cX2_join 3 none :: ((wsX2_join_r1 ++ wsX2_join_r2) ++ wsX20 ++ wsX10 ++ wsX30)
def wsX2_sends_r1 : List Cond := [Cond.fieldLink RX2 9 "ClusterField$Rounds" "net" "LClusterField$Network;", Cond.fieldLink RX2 113 "ClusterField$Sensor" "x" "I", Cond.fieldLink RX2 116 "ClusterField$Sensor" "y" "I", Cond.fieldLink RX2 84 "ClusterField$Sensor" "alive" "Z", Cond.fieldLink RX2 80 "ClusterField$Network" "settings" "[I", Cond.methodLink RX2 134 yX3_distanceTo, Cond.instanceMethod yX3_distanceTo, Cond.selects RX3 yX3_distanceTo yX3_distanceTo, Cond.initialized RX3, Cond.code yX3_distanceTo cX3_distanceTo 5 (some .int), Cond.fieldLink RX3 9 "ClusterField$Sensor" "x" "I", Cond.fieldLink RX3 15 "ClusterField$Sensor" "y" "I", Cond.methodLink RX2 173 yX1_costOver, Cond.instanceMethod yX1_costOver, Cond.selects RX1 yX1_costOver yX1_costOver, Cond.initialized RX1, Cond.code yX1_costOver cX1_costOver 3 (some .int), Cond.fieldLink RX1 17 "ClusterField$Network" "settings" "[I", Cond.methodLink RX2 103 yX2_pays, Cond.instanceMethod yX2_pays, Cond.selects RX2 yX2_pays yX2_pays, Cond.initialized RX2, Cond.code yX2_pays cX2_pays 3 (some .boolean), Cond.fieldLink RX2 177 "ClusterField$Sensor" "battery" "I"]
def wsX2_sends_r2 : List Cond := [Cond.fieldLink RX2 58 "ClusterField$Network" "round" "I", Cond.fieldLink RX2 180 "ClusterField$Sensor" "deathRound" "I", Cond.fieldLink RX2 183 "ClusterField$Network" "paid" "I"]
def wsX2_sends : List Cond := .code yX2_sends cX2_sends 3 (some .boolean) :: ((wsX2_sends_r1 ++ wsX2_sends_r2) ++ wsX20 ++ wsX30 ++ wsX10)
def wsX2_reportTo_r1 : List Cond := [Cond.fieldLink RX2 9 "ClusterField$Rounds" "net" "LClusterField$Network;", Cond.fieldLink RX2 67 "ClusterField$Network" "sensors" "[LClusterField$Sensor;", Cond.fieldLink RX2 64 "ClusterField$Network" "count" "I", Cond.fieldLink RX2 84 "ClusterField$Sensor" "alive" "Z", Cond.fieldLink RX2 151 "ClusterField$Sensor" "readings" "I", Cond.methodLink RX2 137 yX2_hasJoined, Cond.instanceMethod yX2_hasJoined, Cond.selects RX2 yX2_hasJoined yX2_hasJoined, Cond.initialized RX2, Cond.code yX2_hasJoined cX2_hasJoined 3 (some .boolean), Cond.fieldLink RX2 107 "ClusterField$Sensor" "head" "I", Cond.methodLink RX2 147 yX2_sends, Cond.instanceMethod yX2_sends, Cond.selects RX2 yX2_sends yX2_sends, Cond.code yX2_sends cX2_sends 3 (some .boolean), Cond.fieldLink RX2 113 "ClusterField$Sensor" "x" "I", Cond.fieldLink RX2 116 "ClusterField$Sensor" "y" "I", Cond.fieldLink RX2 80 "ClusterField$Network" "settings" "[I", Cond.methodLink RX2 134 yX3_distanceTo, Cond.instanceMethod yX3_distanceTo, Cond.selects RX3 yX3_distanceTo yX3_distanceTo, Cond.initialized RX3, Cond.code yX3_distanceTo cX3_distanceTo 5 (some .int), Cond.fieldLink RX3 9 "ClusterField$Sensor" "x" "I"]
def wsX2_reportTo_r2 : List Cond := [Cond.fieldLink RX3 15 "ClusterField$Sensor" "y" "I", Cond.methodLink RX2 173 yX1_costOver, Cond.instanceMethod yX1_costOver, Cond.selects RX1 yX1_costOver yX1_costOver, Cond.initialized RX1, Cond.code yX1_costOver cX1_costOver 3 (some .int), Cond.fieldLink RX1 17 "ClusterField$Network" "settings" "[I", Cond.methodLink RX2 103 yX2_pays, Cond.instanceMethod yX2_pays, Cond.selects RX2 yX2_pays yX2_pays, Cond.code yX2_pays cX2_pays 3 (some .boolean), Cond.fieldLink RX2 177 "ClusterField$Sensor" "battery" "I", Cond.fieldLink RX2 58 "ClusterField$Network" "round" "I", Cond.fieldLink RX2 180 "ClusterField$Sensor" "deathRound" "I", Cond.fieldLink RX2 183 "ClusterField$Network" "paid" "I"]
def wsX2_reportTo : List Cond := .code yX2_reportTo cX2_reportTo 5 none :: ((wsX2_reportTo_r1 ++ wsX2_reportTo_r2) ++ wsX20 ++ wsX10 ++ wsX30)
def wsX2_reportToHeads_r1 : List Cond := [Cond.fieldLink RX2 9 "ClusterField$Rounds" "net" "LClusterField$Network;", Cond.fieldLink RX2 64 "ClusterField$Network" "count" "I", Cond.methodLink RX2 123 yX2_isHead, Cond.instanceMethod yX2_isHead, Cond.selects RX2 yX2_isHead yX2_isHead, Cond.initialized RX2, Cond.code yX2_isHead cX2_isHead 2 (some .boolean), Cond.fieldLink RX2 67 "ClusterField$Network" "sensors" "[LClusterField$Sensor;", Cond.fieldLink RX2 107 "ClusterField$Sensor" "head" "I", Cond.methodLink RX2 144 yX2_reportTo, Cond.instanceMethod yX2_reportTo, Cond.selects RX2 yX2_reportTo yX2_reportTo, Cond.code yX2_reportTo cX2_reportTo 5 none, Cond.fieldLink RX2 84 "ClusterField$Sensor" "alive" "Z", Cond.fieldLink RX2 151 "ClusterField$Sensor" "readings" "I", Cond.methodLink RX2 137 yX2_hasJoined, Cond.instanceMethod yX2_hasJoined, Cond.selects RX2 yX2_hasJoined yX2_hasJoined, Cond.code yX2_hasJoined cX2_hasJoined 3 (some .boolean), Cond.methodLink RX2 147 yX2_sends, Cond.instanceMethod yX2_sends, Cond.selects RX2 yX2_sends yX2_sends, Cond.code yX2_sends cX2_sends 3 (some .boolean), Cond.fieldLink RX2 113 "ClusterField$Sensor" "x" "I"]
def wsX2_reportToHeads_r2 : List Cond := [Cond.fieldLink RX2 116 "ClusterField$Sensor" "y" "I", Cond.fieldLink RX2 80 "ClusterField$Network" "settings" "[I", Cond.methodLink RX2 134 yX3_distanceTo, Cond.instanceMethod yX3_distanceTo, Cond.selects RX3 yX3_distanceTo yX3_distanceTo, Cond.initialized RX3, Cond.code yX3_distanceTo cX3_distanceTo 5 (some .int), Cond.fieldLink RX3 9 "ClusterField$Sensor" "x" "I", Cond.fieldLink RX3 15 "ClusterField$Sensor" "y" "I", Cond.methodLink RX2 173 yX1_costOver, Cond.instanceMethod yX1_costOver, Cond.selects RX1 yX1_costOver yX1_costOver, Cond.initialized RX1, Cond.code yX1_costOver cX1_costOver 3 (some .int), Cond.fieldLink RX1 17 "ClusterField$Network" "settings" "[I", Cond.methodLink RX2 103 yX2_pays, Cond.instanceMethod yX2_pays, Cond.selects RX2 yX2_pays yX2_pays, Cond.code yX2_pays cX2_pays 3 (some .boolean), Cond.fieldLink RX2 177 "ClusterField$Sensor" "battery" "I", Cond.fieldLink RX2 58 "ClusterField$Network" "round" "I", Cond.fieldLink RX2 180 "ClusterField$Sensor" "deathRound" "I", Cond.fieldLink RX2 183 "ClusterField$Network" "paid" "I"]
def wsX2_reportToHeads : List Cond := .code yX2_reportToHeads cX2_reportToHeads 2 none :: ((wsX2_reportToHeads_r1 ++ wsX2_reportToHeads_r2) ++ wsX20 ++ wsX10 ++ wsX30)
def wsX2_addOwnReadings : List Cond := .code yX2_addOwnReadings cX2_addOwnReadings 3 none :: ([.fieldLink RX2 9 "ClusterField$Rounds" "net" "LClusterField$Network;", .fieldLink RX2 64 "ClusterField$Network" "count" "I", .fieldLink RX2 67 "ClusterField$Network" "sensors" "[LClusterField$Sensor;", .fieldLink RX2 80 "ClusterField$Network" "settings" "[I", .fieldLink RX2 151 "ClusterField$Sensor" "readings" "I", .methodLink RX2 131 yX2_isLivingHead, .instanceMethod yX2_isLivingHead, .selects RX2 yX2_isLivingHead yX2_isLivingHead, .initialized RX2, .code yX2_isLivingHead cX2_isLivingHead 3 (some .boolean), .fieldLink RX2 84 "ClusterField$Sensor" "alive" "Z", .fieldLink RX2 107 "ClusterField$Sensor" "head" "I", .methodLink RX2 103 yX2_pays, .instanceMethod yX2_pays, .selects RX2 yX2_pays yX2_pays, .code yX2_pays cX2_pays 3 (some .boolean), .fieldLink RX2 177 "ClusterField$Sensor" "battery" "I", .fieldLink RX2 58 "ClusterField$Network" "round" "I", .fieldLink RX2 180 "ClusterField$Sensor" "deathRound" "I", .fieldLink RX2 183 "ClusterField$Network" "paid" "I"] ++ wsX20 ++ wsX10 ++ wsX30)
def wsX2_deliverThroughRelay_r1 : List Cond := [Cond.fieldLink RX2 9 "ClusterField$Rounds" "net" "LClusterField$Network;", Cond.fieldLink RX2 164 "ClusterField$Network" "baseX" "I", Cond.fieldLink RX2 167 "ClusterField$Network" "baseY" "I", Cond.fieldLink RX2 67 "ClusterField$Network" "sensors" "[LClusterField$Sensor;", Cond.fieldLink RX2 64 "ClusterField$Network" "count" "I", Cond.fieldLink RX2 151 "ClusterField$Sensor" "readings" "I", Cond.fieldLink RX2 84 "ClusterField$Sensor" "alive" "Z", Cond.methodLink RX2 119 yX2_nearestHead, Cond.instanceMethod yX2_nearestHead, Cond.selects RX2 yX2_nearestHead yX2_nearestHead, Cond.initialized RX2, Cond.code yX2_nearestHead cX2_nearestHead 7 (some .int), Cond.methodLink RX2 131 yX2_isLivingHead, Cond.instanceMethod yX2_isLivingHead, Cond.selects RX2 yX2_isLivingHead yX2_isLivingHead, Cond.code yX2_isLivingHead cX2_isLivingHead 3 (some .boolean), Cond.fieldLink RX2 107 "ClusterField$Sensor" "head" "I", Cond.methodLink RX2 134 yX3_distanceTo, Cond.instanceMethod yX3_distanceTo, Cond.selects RX3 yX3_distanceTo yX3_distanceTo, Cond.initialized RX3, Cond.code yX3_distanceTo cX3_distanceTo 5 (some .int), Cond.fieldLink RX3 9 "ClusterField$Sensor" "x" "I", Cond.fieldLink RX3 15 "ClusterField$Sensor" "y" "I"]
def wsX2_deliverThroughRelay_r2 : List Cond := [Cond.methodLink RX2 170 yX1_has, Cond.instanceMethod yX1_has, Cond.selects RX1 yX1_has yX1_has, Cond.initialized RX1, Cond.code yX1_has cX1_has 2 (some .boolean), Cond.fieldLink RX1 41 "ClusterField$Network" "count" "I", Cond.methodLink RX2 147 yX2_sends, Cond.instanceMethod yX2_sends, Cond.selects RX2 yX2_sends yX2_sends, Cond.code yX2_sends cX2_sends 3 (some .boolean), Cond.fieldLink RX2 113 "ClusterField$Sensor" "x" "I", Cond.fieldLink RX2 116 "ClusterField$Sensor" "y" "I", Cond.fieldLink RX2 80 "ClusterField$Network" "settings" "[I", Cond.methodLink RX2 173 yX1_costOver, Cond.instanceMethod yX1_costOver, Cond.selects RX1 yX1_costOver yX1_costOver, Cond.code yX1_costOver cX1_costOver 3 (some .int), Cond.fieldLink RX1 17 "ClusterField$Network" "settings" "[I", Cond.methodLink RX2 103 yX2_pays, Cond.instanceMethod yX2_pays, Cond.selects RX2 yX2_pays yX2_pays, Cond.code yX2_pays cX2_pays 3 (some .boolean), Cond.fieldLink RX2 177 "ClusterField$Sensor" "battery" "I", Cond.fieldLink RX2 58 "ClusterField$Network" "round" "I"]
def wsX2_deliverThroughRelay_r3 : List Cond := [Cond.fieldLink RX2 180 "ClusterField$Sensor" "deathRound" "I", Cond.fieldLink RX2 183 "ClusterField$Network" "paid" "I", Cond.methodLink RX2 160 yX2_sendToBase, Cond.instanceMethod yX2_sendToBase, Cond.selects RX2 yX2_sendToBase yX2_sendToBase, Cond.code yX2_sendToBase cX2_sendToBase 3 none, Cond.fieldLink RX2 55 "ClusterField$Network" "lastReadings" "I"]
def wsX2_deliverThroughRelay : List Cond := .code yX2_deliverThroughRelay cX2_deliverThroughRelay 5 none :: ((wsX2_deliverThroughRelay_r1 ++ (wsX2_deliverThroughRelay_r2 ++ wsX2_deliverThroughRelay_r3)) ++ wsX20 ++ wsX10 ++ wsX30)
def wsX2_deliverDirectly_r1 : List Cond := [Cond.fieldLink RX2 9 "ClusterField$Rounds" "net" "LClusterField$Network;", Cond.fieldLink RX2 64 "ClusterField$Network" "count" "I", Cond.fieldLink RX2 67 "ClusterField$Network" "sensors" "[LClusterField$Sensor;", Cond.fieldLink RX2 151 "ClusterField$Sensor" "readings" "I", Cond.methodLink RX2 131 yX2_isLivingHead, Cond.instanceMethod yX2_isLivingHead, Cond.selects RX2 yX2_isLivingHead yX2_isLivingHead, Cond.initialized RX2, Cond.code yX2_isLivingHead cX2_isLivingHead 3 (some .boolean), Cond.fieldLink RX2 84 "ClusterField$Sensor" "alive" "Z", Cond.fieldLink RX2 107 "ClusterField$Sensor" "head" "I", Cond.methodLink RX2 160 yX2_sendToBase, Cond.instanceMethod yX2_sendToBase, Cond.selects RX2 yX2_sendToBase yX2_sendToBase, Cond.code yX2_sendToBase cX2_sendToBase 3 none, Cond.fieldLink RX2 164 "ClusterField$Network" "baseX" "I", Cond.fieldLink RX2 167 "ClusterField$Network" "baseY" "I", Cond.fieldLink RX2 55 "ClusterField$Network" "lastReadings" "I", Cond.methodLink RX2 134 yX3_distanceTo, Cond.instanceMethod yX3_distanceTo, Cond.selects RX3 yX3_distanceTo yX3_distanceTo, Cond.initialized RX3, Cond.code yX3_distanceTo cX3_distanceTo 5 (some .int), Cond.fieldLink RX3 9 "ClusterField$Sensor" "x" "I"]
def wsX2_deliverDirectly_r2 : List Cond := [Cond.fieldLink RX3 15 "ClusterField$Sensor" "y" "I", Cond.methodLink RX2 173 yX1_costOver, Cond.instanceMethod yX1_costOver, Cond.selects RX1 yX1_costOver yX1_costOver, Cond.initialized RX1, Cond.code yX1_costOver cX1_costOver 3 (some .int), Cond.fieldLink RX1 17 "ClusterField$Network" "settings" "[I", Cond.methodLink RX2 103 yX2_pays, Cond.instanceMethod yX2_pays, Cond.selects RX2 yX2_pays yX2_pays, Cond.code yX2_pays cX2_pays 3 (some .boolean), Cond.fieldLink RX2 177 "ClusterField$Sensor" "battery" "I", Cond.fieldLink RX2 58 "ClusterField$Network" "round" "I", Cond.fieldLink RX2 180 "ClusterField$Sensor" "deathRound" "I", Cond.fieldLink RX2 183 "ClusterField$Network" "paid" "I"]
def wsX2_deliverDirectly : List Cond := .code yX2_deliverDirectly cX2_deliverDirectly 3 none :: ((wsX2_deliverDirectly_r1 ++ wsX2_deliverDirectly_r2) ++ wsX20 ++ wsX10 ++ wsX30)
def wsX2_deliver_r1 : List Cond := [Cond.fieldLink RX2 9 "ClusterField$Rounds" "net" "LClusterField$Network;", Cond.fieldLink RX2 80 "ClusterField$Network" "settings" "[I", Cond.methodLink RX2 154 yX2_deliverThroughRelay, Cond.instanceMethod yX2_deliverThroughRelay, Cond.selects RX2 yX2_deliverThroughRelay yX2_deliverThroughRelay, Cond.initialized RX2, Cond.code yX2_deliverThroughRelay cX2_deliverThroughRelay 5 none, Cond.fieldLink RX2 164 "ClusterField$Network" "baseX" "I", Cond.fieldLink RX2 167 "ClusterField$Network" "baseY" "I", Cond.fieldLink RX2 67 "ClusterField$Network" "sensors" "[LClusterField$Sensor;", Cond.fieldLink RX2 64 "ClusterField$Network" "count" "I", Cond.fieldLink RX2 151 "ClusterField$Sensor" "readings" "I", Cond.fieldLink RX2 84 "ClusterField$Sensor" "alive" "Z", Cond.methodLink RX2 119 yX2_nearestHead, Cond.instanceMethod yX2_nearestHead, Cond.selects RX2 yX2_nearestHead yX2_nearestHead, Cond.code yX2_nearestHead cX2_nearestHead 7 (some .int), Cond.methodLink RX2 131 yX2_isLivingHead, Cond.instanceMethod yX2_isLivingHead, Cond.selects RX2 yX2_isLivingHead yX2_isLivingHead, Cond.code yX2_isLivingHead cX2_isLivingHead 3 (some .boolean), Cond.fieldLink RX2 107 "ClusterField$Sensor" "head" "I", Cond.methodLink RX2 134 yX3_distanceTo, Cond.instanceMethod yX3_distanceTo]
def wsX2_deliver_r2 : List Cond := [Cond.selects RX3 yX3_distanceTo yX3_distanceTo, Cond.initialized RX3, Cond.code yX3_distanceTo cX3_distanceTo 5 (some .int), Cond.fieldLink RX3 9 "ClusterField$Sensor" "x" "I", Cond.fieldLink RX3 15 "ClusterField$Sensor" "y" "I", Cond.methodLink RX2 170 yX1_has, Cond.instanceMethod yX1_has, Cond.selects RX1 yX1_has yX1_has, Cond.initialized RX1, Cond.code yX1_has cX1_has 2 (some .boolean), Cond.fieldLink RX1 41 "ClusterField$Network" "count" "I", Cond.methodLink RX2 147 yX2_sends, Cond.instanceMethod yX2_sends, Cond.selects RX2 yX2_sends yX2_sends, Cond.code yX2_sends cX2_sends 3 (some .boolean), Cond.fieldLink RX2 113 "ClusterField$Sensor" "x" "I", Cond.fieldLink RX2 116 "ClusterField$Sensor" "y" "I", Cond.methodLink RX2 173 yX1_costOver, Cond.instanceMethod yX1_costOver, Cond.selects RX1 yX1_costOver yX1_costOver, Cond.code yX1_costOver cX1_costOver 3 (some .int), Cond.fieldLink RX1 17 "ClusterField$Network" "settings" "[I", Cond.methodLink RX2 103 yX2_pays, Cond.instanceMethod yX2_pays]
def wsX2_deliver_r3 : List Cond := [Cond.selects RX2 yX2_pays yX2_pays, Cond.code yX2_pays cX2_pays 3 (some .boolean), Cond.fieldLink RX2 177 "ClusterField$Sensor" "battery" "I", Cond.fieldLink RX2 58 "ClusterField$Network" "round" "I", Cond.fieldLink RX2 180 "ClusterField$Sensor" "deathRound" "I", Cond.fieldLink RX2 183 "ClusterField$Network" "paid" "I", Cond.methodLink RX2 160 yX2_sendToBase, Cond.instanceMethod yX2_sendToBase, Cond.selects RX2 yX2_sendToBase yX2_sendToBase, Cond.code yX2_sendToBase cX2_sendToBase 3 none, Cond.fieldLink RX2 55 "ClusterField$Network" "lastReadings" "I", Cond.methodLink RX2 157 yX2_deliverDirectly, Cond.instanceMethod yX2_deliverDirectly, Cond.selects RX2 yX2_deliverDirectly yX2_deliverDirectly, Cond.code yX2_deliverDirectly cX2_deliverDirectly 3 none]
def wsX2_deliver : List Cond := .code yX2_deliver cX2_deliver 1 none :: ((wsX2_deliver_r1 ++ (wsX2_deliver_r2 ++ wsX2_deliver_r3)) ++ wsX20 ++ wsX10 ++ wsX30)
def wsX2_performOne_r1 : List Cond := [Cond.fieldLink RX2 9 "ClusterField$Rounds" "net" "LClusterField$Network;", Cond.fieldLink RX2 33 "ClusterField$Network" "lastHeads" "I", Cond.fieldLink RX2 52 "ClusterField$Network" "allReadings" "I", Cond.fieldLink RX2 55 "ClusterField$Network" "lastReadings" "I", Cond.fieldLink RX2 58 "ClusterField$Network" "round" "I", Cond.methodLink RX2 24 yX2_begin, Cond.instanceMethod yX2_begin, Cond.selects RX2 yX2_begin yX2_begin, Cond.initialized RX2, Cond.code yX2_begin cX2_begin 4 none, Cond.fieldLink RX2 64 "ClusterField$Network" "count" "I", Cond.fieldLink RX2 67 "ClusterField$Network" "sensors" "[LClusterField$Sensor;", Cond.fieldLink RX2 76 "ClusterField$Sensor" "eligible" "Z", Cond.methodLink RX2 61 yX1_phase, Cond.instanceMethod yX1_phase, Cond.selects RX1 yX1_phase yX1_phase, Cond.initialized RX1, Cond.code yX1_phase cX1_phase 2 (some .int), Cond.fieldLink RX1 17 "ClusterField$Network" "settings" "[I", Cond.fieldLink RX1 48 "ClusterField$Network" "round" "I", Cond.methodLink RX2 71 yX3_beginRound, Cond.instanceMethod yX3_beginRound, Cond.selects RX3 yX3_beginRound yX3_beginRound, Cond.initialized RX3]
def wsX2_performOne_r2 : List Cond := [Cond.code yX3_beginRound cX3_beginRound 1 none, Cond.fieldLink RX3 37 "ClusterField$Sensor" "head" "I", Cond.fieldLink RX3 40 "ClusterField$Sensor" "slot" "I", Cond.fieldLink RX3 43 "ClusterField$Sensor" "elected" "Z", Cond.fieldLink RX3 46 "ClusterField$Sensor" "readings" "I", Cond.methodLink RX2 27 yX2_elect, Cond.instanceMethod yX2_elect, Cond.selects RX2 yX2_elect yX2_elect, Cond.code yX2_elect cX2_elect 4 none, Cond.fieldLink RX2 80 "ClusterField$Network" "settings" "[I", Cond.fieldLink RX2 84 "ClusterField$Sensor" "alive" "Z", Cond.fieldLink RX2 90 "ClusterField$Sensor" "elected" "Z", Cond.methodLink RX2 87 yX2_draw, Cond.instanceMethod yX2_draw, Cond.selects RX2 yX2_draw yX2_draw, Cond.code yX2_draw cX2_draw 3 (some .int), Cond.fieldLink RX2 93 "ClusterField$Network" "generator" "I", Cond.constantLong RX2 96 (1103515245), Cond.constantLong RX2 98 (12345), Cond.constantLong RX2 100 (2147483648), Cond.constant RX2 102 (65536), Cond.methodLink RX2 30 yX2_announce, Cond.instanceMethod yX2_announce, Cond.selects RX2 yX2_announce yX2_announce]
def wsX2_performOne_r3 : List Cond := [Cond.code yX2_announce cX2_announce 3 none, Cond.fieldLink RX2 107 "ClusterField$Sensor" "head" "I", Cond.fieldLink RX2 110 "ClusterField$Sensor" "headRounds" "I", Cond.methodLink RX2 103 yX2_pays, Cond.instanceMethod yX2_pays, Cond.selects RX2 yX2_pays yX2_pays, Cond.code yX2_pays cX2_pays 3 (some .boolean), Cond.fieldLink RX2 177 "ClusterField$Sensor" "battery" "I", Cond.fieldLink RX2 180 "ClusterField$Sensor" "deathRound" "I", Cond.fieldLink RX2 183 "ClusterField$Network" "paid" "I", Cond.methodLink RX2 37 yX2_reportToBase, Cond.instanceMethod yX2_reportToBase, Cond.selects RX2 yX2_reportToBase yX2_reportToBase, Cond.code yX2_reportToBase cX2_reportToBase 3 none, Cond.methodLink RX2 160 yX2_sendToBase, Cond.instanceMethod yX2_sendToBase, Cond.selects RX2 yX2_sendToBase yX2_sendToBase, Cond.code yX2_sendToBase cX2_sendToBase 3 none, Cond.fieldLink RX2 164 "ClusterField$Network" "baseX" "I", Cond.fieldLink RX2 167 "ClusterField$Network" "baseY" "I", Cond.methodLink RX2 134 yX3_distanceTo, Cond.instanceMethod yX3_distanceTo, Cond.selects RX3 yX3_distanceTo yX3_distanceTo, Cond.code yX3_distanceTo cX3_distanceTo 5 (some .int)]
def wsX2_performOne_r4 : List Cond := [Cond.fieldLink RX3 9 "ClusterField$Sensor" "x" "I", Cond.fieldLink RX3 15 "ClusterField$Sensor" "y" "I", Cond.methodLink RX2 173 yX1_costOver, Cond.instanceMethod yX1_costOver, Cond.selects RX1 yX1_costOver yX1_costOver, Cond.code yX1_costOver cX1_costOver 3 (some .int), Cond.methodLink RX2 40 yX2_join, Cond.instanceMethod yX2_join, Cond.selects RX2 yX2_join yX2_join, Cond.code yX2_join cX2_join 3 none, Cond.fieldLink RX2 113 "ClusterField$Sensor" "x" "I", Cond.fieldLink RX2 116 "ClusterField$Sensor" "y" "I", Cond.methodLink RX2 119 yX2_nearestHead, Cond.instanceMethod yX2_nearestHead, Cond.selects RX2 yX2_nearestHead yX2_nearestHead, Cond.code yX2_nearestHead cX2_nearestHead 7 (some .int), Cond.methodLink RX2 131 yX2_isLivingHead, Cond.instanceMethod yX2_isLivingHead, Cond.selects RX2 yX2_isLivingHead yX2_isLivingHead, Cond.code yX2_isLivingHead cX2_isLivingHead 3 (some .boolean), Cond.methodLink RX2 123 yX2_isHead, Cond.instanceMethod yX2_isHead, Cond.selects RX2 yX2_isHead yX2_isHead, Cond.code yX2_isHead cX2_isHead 2 (some .boolean)]
def wsX2_performOne_r5 : List Cond := [Cond.methodLink RX2 127 yX2_giveSlots, Cond.instanceMethod yX2_giveSlots, Cond.selects RX2 yX2_giveSlots yX2_giveSlots, Cond.code yX2_giveSlots cX2_giveSlots 4 none, Cond.fieldLink RX2 141 "ClusterField$Sensor" "slot" "I", Cond.methodLink RX2 137 yX2_hasJoined, Cond.instanceMethod yX2_hasJoined, Cond.selects RX2 yX2_hasJoined yX2_hasJoined, Cond.code yX2_hasJoined cX2_hasJoined 3 (some .boolean), Cond.methodLink RX2 43 yX2_reportToHeads, Cond.instanceMethod yX2_reportToHeads, Cond.selects RX2 yX2_reportToHeads yX2_reportToHeads, Cond.code yX2_reportToHeads cX2_reportToHeads 2 none, Cond.methodLink RX2 144 yX2_reportTo, Cond.instanceMethod yX2_reportTo, Cond.selects RX2 yX2_reportTo yX2_reportTo, Cond.code yX2_reportTo cX2_reportTo 5 none, Cond.fieldLink RX2 151 "ClusterField$Sensor" "readings" "I", Cond.methodLink RX2 147 yX2_sends, Cond.instanceMethod yX2_sends, Cond.selects RX2 yX2_sends yX2_sends, Cond.code yX2_sends cX2_sends 3 (some .boolean), Cond.methodLink RX2 46 yX2_addOwnReadings, Cond.instanceMethod yX2_addOwnReadings]
def wsX2_performOne_r6 : List Cond := [Cond.selects RX2 yX2_addOwnReadings yX2_addOwnReadings, Cond.code yX2_addOwnReadings cX2_addOwnReadings 3 none, Cond.methodLink RX2 49 yX2_deliver, Cond.instanceMethod yX2_deliver, Cond.selects RX2 yX2_deliver yX2_deliver, Cond.code yX2_deliver cX2_deliver 1 none, Cond.methodLink RX2 154 yX2_deliverThroughRelay, Cond.instanceMethod yX2_deliverThroughRelay, Cond.selects RX2 yX2_deliverThroughRelay yX2_deliverThroughRelay, Cond.code yX2_deliverThroughRelay cX2_deliverThroughRelay 5 none, Cond.methodLink RX2 170 yX1_has, Cond.instanceMethod yX1_has, Cond.selects RX1 yX1_has yX1_has, Cond.code yX1_has cX1_has 2 (some .boolean), Cond.fieldLink RX1 41 "ClusterField$Network" "count" "I", Cond.methodLink RX2 157 yX2_deliverDirectly, Cond.instanceMethod yX2_deliverDirectly, Cond.selects RX2 yX2_deliverDirectly yX2_deliverDirectly, Cond.code yX2_deliverDirectly cX2_deliverDirectly 3 none]
def wsX2_performOne : List Cond := .code yX2_performOne cX2_performOne 1 none :: ((wsX2_performOne_r1 ++ (wsX2_performOne_r2 ++ (wsX2_performOne_r3 ++ (wsX2_performOne_r4 ++ (wsX2_performOne_r5 ++ wsX2_performOne_r6))))) ++ wsX20 ++ wsX10 ++ wsX30)
def wsX2_perform_r1 : List Cond := [Cond.fieldLink RX2 9 "ClusterField$Rounds" "net" "LClusterField$Network;", Cond.methodLink RX2 15 yX1_countAlive, Cond.instanceMethod yX1_countAlive, Cond.selects RX1 yX1_countAlive yX1_countAlive, Cond.initialized RX1, Cond.code yX1_countAlive cX1_countAlive 3 (some .int), Cond.fieldLink RX1 41 "ClusterField$Network" "count" "I", Cond.fieldLink RX1 11 "ClusterField$Network" "sensors" "[LClusterField$Sensor;", Cond.fieldLink RX1 63 "ClusterField$Sensor" "alive" "Z", Cond.methodLink RX2 21 yX2_performOne, Cond.instanceMethod yX2_performOne, Cond.selects RX2 yX2_performOne yX2_performOne, Cond.initialized RX2, Cond.code yX2_performOne cX2_performOne 1 none, Cond.fieldLink RX2 33 "ClusterField$Network" "lastHeads" "I", Cond.fieldLink RX2 52 "ClusterField$Network" "allReadings" "I", Cond.fieldLink RX2 55 "ClusterField$Network" "lastReadings" "I", Cond.fieldLink RX2 58 "ClusterField$Network" "round" "I", Cond.methodLink RX2 24 yX2_begin, Cond.instanceMethod yX2_begin, Cond.selects RX2 yX2_begin yX2_begin, Cond.code yX2_begin cX2_begin 4 none, Cond.fieldLink RX2 64 "ClusterField$Network" "count" "I", Cond.fieldLink RX2 67 "ClusterField$Network" "sensors" "[LClusterField$Sensor;"]
def wsX2_perform_r2 : List Cond := [Cond.fieldLink RX2 76 "ClusterField$Sensor" "eligible" "Z", Cond.methodLink RX2 61 yX1_phase, Cond.instanceMethod yX1_phase, Cond.selects RX1 yX1_phase yX1_phase, Cond.code yX1_phase cX1_phase 2 (some .int), Cond.fieldLink RX1 17 "ClusterField$Network" "settings" "[I", Cond.fieldLink RX1 48 "ClusterField$Network" "round" "I", Cond.methodLink RX2 71 yX3_beginRound, Cond.instanceMethod yX3_beginRound, Cond.selects RX3 yX3_beginRound yX3_beginRound, Cond.initialized RX3, Cond.code yX3_beginRound cX3_beginRound 1 none, Cond.fieldLink RX3 37 "ClusterField$Sensor" "head" "I", Cond.fieldLink RX3 40 "ClusterField$Sensor" "slot" "I", Cond.fieldLink RX3 43 "ClusterField$Sensor" "elected" "Z", Cond.fieldLink RX3 46 "ClusterField$Sensor" "readings" "I", Cond.methodLink RX2 27 yX2_elect, Cond.instanceMethod yX2_elect, Cond.selects RX2 yX2_elect yX2_elect, Cond.code yX2_elect cX2_elect 4 none, Cond.fieldLink RX2 80 "ClusterField$Network" "settings" "[I", Cond.fieldLink RX2 84 "ClusterField$Sensor" "alive" "Z", Cond.fieldLink RX2 90 "ClusterField$Sensor" "elected" "Z", Cond.methodLink RX2 87 yX2_draw]
def wsX2_perform_r3 : List Cond := [Cond.instanceMethod yX2_draw, Cond.selects RX2 yX2_draw yX2_draw, Cond.code yX2_draw cX2_draw 3 (some .int), Cond.fieldLink RX2 93 "ClusterField$Network" "generator" "I", Cond.constantLong RX2 96 (1103515245), Cond.constantLong RX2 98 (12345), Cond.constantLong RX2 100 (2147483648), Cond.constant RX2 102 (65536), Cond.methodLink RX2 30 yX2_announce, Cond.instanceMethod yX2_announce, Cond.selects RX2 yX2_announce yX2_announce, Cond.code yX2_announce cX2_announce 3 none, Cond.fieldLink RX2 107 "ClusterField$Sensor" "head" "I", Cond.fieldLink RX2 110 "ClusterField$Sensor" "headRounds" "I", Cond.methodLink RX2 103 yX2_pays, Cond.instanceMethod yX2_pays, Cond.selects RX2 yX2_pays yX2_pays, Cond.code yX2_pays cX2_pays 3 (some .boolean), Cond.fieldLink RX2 177 "ClusterField$Sensor" "battery" "I", Cond.fieldLink RX2 180 "ClusterField$Sensor" "deathRound" "I", Cond.fieldLink RX2 183 "ClusterField$Network" "paid" "I", Cond.methodLink RX2 37 yX2_reportToBase, Cond.instanceMethod yX2_reportToBase, Cond.selects RX2 yX2_reportToBase yX2_reportToBase]
def wsX2_perform_r4 : List Cond := [Cond.code yX2_reportToBase cX2_reportToBase 3 none, Cond.methodLink RX2 160 yX2_sendToBase, Cond.instanceMethod yX2_sendToBase, Cond.selects RX2 yX2_sendToBase yX2_sendToBase, Cond.code yX2_sendToBase cX2_sendToBase 3 none, Cond.fieldLink RX2 164 "ClusterField$Network" "baseX" "I", Cond.fieldLink RX2 167 "ClusterField$Network" "baseY" "I", Cond.methodLink RX2 134 yX3_distanceTo, Cond.instanceMethod yX3_distanceTo, Cond.selects RX3 yX3_distanceTo yX3_distanceTo, Cond.code yX3_distanceTo cX3_distanceTo 5 (some .int), Cond.fieldLink RX3 9 "ClusterField$Sensor" "x" "I", Cond.fieldLink RX3 15 "ClusterField$Sensor" "y" "I", Cond.methodLink RX2 173 yX1_costOver, Cond.instanceMethod yX1_costOver, Cond.selects RX1 yX1_costOver yX1_costOver, Cond.code yX1_costOver cX1_costOver 3 (some .int), Cond.methodLink RX2 40 yX2_join, Cond.instanceMethod yX2_join, Cond.selects RX2 yX2_join yX2_join, Cond.code yX2_join cX2_join 3 none, Cond.fieldLink RX2 113 "ClusterField$Sensor" "x" "I", Cond.fieldLink RX2 116 "ClusterField$Sensor" "y" "I", Cond.methodLink RX2 119 yX2_nearestHead]
def wsX2_perform_r5 : List Cond := [Cond.instanceMethod yX2_nearestHead, Cond.selects RX2 yX2_nearestHead yX2_nearestHead, Cond.code yX2_nearestHead cX2_nearestHead 7 (some .int), Cond.methodLink RX2 131 yX2_isLivingHead, Cond.instanceMethod yX2_isLivingHead, Cond.selects RX2 yX2_isLivingHead yX2_isLivingHead, Cond.code yX2_isLivingHead cX2_isLivingHead 3 (some .boolean), Cond.methodLink RX2 123 yX2_isHead, Cond.instanceMethod yX2_isHead, Cond.selects RX2 yX2_isHead yX2_isHead, Cond.code yX2_isHead cX2_isHead 2 (some .boolean), Cond.methodLink RX2 127 yX2_giveSlots, Cond.instanceMethod yX2_giveSlots, Cond.selects RX2 yX2_giveSlots yX2_giveSlots, Cond.code yX2_giveSlots cX2_giveSlots 4 none, Cond.fieldLink RX2 141 "ClusterField$Sensor" "slot" "I", Cond.methodLink RX2 137 yX2_hasJoined, Cond.instanceMethod yX2_hasJoined, Cond.selects RX2 yX2_hasJoined yX2_hasJoined, Cond.code yX2_hasJoined cX2_hasJoined 3 (some .boolean), Cond.methodLink RX2 43 yX2_reportToHeads, Cond.instanceMethod yX2_reportToHeads, Cond.selects RX2 yX2_reportToHeads yX2_reportToHeads, Cond.code yX2_reportToHeads cX2_reportToHeads 2 none]
def wsX2_perform_r6 : List Cond := [Cond.methodLink RX2 144 yX2_reportTo, Cond.instanceMethod yX2_reportTo, Cond.selects RX2 yX2_reportTo yX2_reportTo, Cond.code yX2_reportTo cX2_reportTo 5 none, Cond.fieldLink RX2 151 "ClusterField$Sensor" "readings" "I", Cond.methodLink RX2 147 yX2_sends, Cond.instanceMethod yX2_sends, Cond.selects RX2 yX2_sends yX2_sends, Cond.code yX2_sends cX2_sends 3 (some .boolean), Cond.methodLink RX2 46 yX2_addOwnReadings, Cond.instanceMethod yX2_addOwnReadings, Cond.selects RX2 yX2_addOwnReadings yX2_addOwnReadings, Cond.code yX2_addOwnReadings cX2_addOwnReadings 3 none, Cond.methodLink RX2 49 yX2_deliver, Cond.instanceMethod yX2_deliver, Cond.selects RX2 yX2_deliver yX2_deliver, Cond.code yX2_deliver cX2_deliver 1 none, Cond.methodLink RX2 154 yX2_deliverThroughRelay, Cond.instanceMethod yX2_deliverThroughRelay, Cond.selects RX2 yX2_deliverThroughRelay yX2_deliverThroughRelay, Cond.code yX2_deliverThroughRelay cX2_deliverThroughRelay 5 none, Cond.methodLink RX2 170 yX1_has, Cond.instanceMethod yX1_has, Cond.selects RX1 yX1_has yX1_has]
def wsX2_perform_r7 : List Cond := [Cond.code yX1_has cX1_has 2 (some .boolean), Cond.methodLink RX2 157 yX2_deliverDirectly, Cond.instanceMethod yX2_deliverDirectly, Cond.selects RX2 yX2_deliverDirectly yX2_deliverDirectly, Cond.code yX2_deliverDirectly cX2_deliverDirectly 3 none]
def wsX2_perform : List Cond := .code yX2_perform cX2_perform 3 (some .int) :: ((wsX2_perform_r1 ++ (wsX2_perform_r2 ++ (wsX2_perform_r3 ++ (wsX2_perform_r4 ++ (wsX2_perform_r5 ++ (wsX2_perform_r6 ++ wsX2_perform_r7)))))) ++ wsX20 ++ wsX10 ++ wsX30)
def wsX3_place : List Cond := .code yX3_place cX3_place 4 none :: ([.fieldLink RX3 9 "ClusterField$Sensor" "x" "I", .fieldLink RX3 15 "ClusterField$Sensor" "y" "I", .fieldLink RX3 18 "ClusterField$Sensor" "battery" "I", .fieldLink RX3 21 "ClusterField$Sensor" "alive" "Z", .fieldLink RX3 25 "ClusterField$Sensor" "eligible" "Z", .fieldLink RX3 28 "ClusterField$Sensor" "headRounds" "I", .fieldLink RX3 31 "ClusterField$Sensor" "deathRound" "I", .methodLink RX3 34 yX3_beginRound, .instanceMethod yX3_beginRound, .selects RX3 yX3_beginRound yX3_beginRound, .initialized RX3, .code yX3_beginRound cX3_beginRound 1 none, .fieldLink RX3 37 "ClusterField$Sensor" "head" "I", .fieldLink RX3 40 "ClusterField$Sensor" "slot" "I", .fieldLink RX3 43 "ClusterField$Sensor" "elected" "Z", .fieldLink RX3 46 "ClusterField$Sensor" "readings" "I"] ++ wsX30)
def wsX4_init_r1 : List Cond := [Cond.methodLink RX4 1 objectInit, Cond.instanceMethod objectInit, Cond.code objectInit ⟨#[0xb1]⟩ 1 none, Cond.classLink RX4 7 RX1, Cond.instantiable RX1 11, Cond.initialized RX1, Cond.fieldLink RX4 10 "ClusterField" "network" "LClusterField$Network;", Cond.classLink RX4 16 RX2, Cond.instantiable RX2 1, Cond.initialized RX2, Cond.fieldLink RX4 21 "ClusterField" "livePlay" "LClusterField$Rounds;", Cond.fieldLink RX4 25 "ClusterField" "trial" "LClusterField$Network;", Cond.fieldLink RX4 28 "ClusterField" "trialPlay" "LClusterField$Rounds;", Cond.classLink RX4 31 RX0, Cond.instantiable RX0 2, Cond.initialized RX0, Cond.fieldLink RX4 34 "ClusterField" "history" "LClusterField$History;", Cond.fieldLink RX4 38 "ClusterField" "snapshots" "[LClusterField$Network;", Cond.arrayClass .boolean, Cond.fieldLink RX4 42 "ClusterField" "snapshotFilled" "[Z", Cond.methodLink RX4 9 yX1_init, Cond.instanceMethod yX1_init, Cond.code yX1_init cX1_init 2 none, Cond.methodLink RX1 3 objectInit]
def wsX4_init_r2 : List Cond := [Cond.classLink RX1 9 RX3, Cond.fieldLink RX1 11 "ClusterField$Network" "sensors" "[LClusterField$Sensor;", Cond.arrayClass .int, Cond.fieldLink RX1 17 "ClusterField$Network" "settings" "[I", Cond.fieldLink RX1 21 "ClusterField$Network" "baseX" "I", Cond.fieldLink RX1 25 "ClusterField$Network" "baseY" "I", Cond.fieldLink RX1 28 "ClusterField$Network" "generator" "I", Cond.instantiable RX3 11, Cond.initialized RX3, Cond.fieldLink RX1 32 "ClusterField$Network" "FIRST" "[I", Cond.methodLink RX1 35 arraycopyName, Cond.native arraycopyName, Cond.static arraycopyName, Cond.initialized "java/lang/System", Cond.instanceMethod yX3_init, Cond.code yX3_init cX3_init 1 none, Cond.methodLink RX3 3 objectInit, Cond.methodLink RX4 18 yX2_init, Cond.instanceMethod yX2_init, Cond.code yX2_init cX2_init 2 none, Cond.methodLink RX2 3 objectInit, Cond.fieldLink RX2 9 "ClusterField$Rounds" "net" "LClusterField$Network;", Cond.methodLink RX4 33 yX0_init, Cond.instanceMethod yX0_init]
def wsX4_init_r3 : List Cond := [Cond.code yX0_init cX0_init 2 none, Cond.methodLink RX0 1 objectInit, Cond.classLink RX0 9 RX1, Cond.fieldLink RX0 11 "ClusterField$History" "saved" "[LClusterField$Network;", Cond.methodLink RX0 15 yX1_init]
def wsX4_init : List Cond := .code yX4_init cX4_init 2 none :: ((wsX4_init_r1 ++ (wsX4_init_r2 ++ wsX4_init_r3)) ++ wsX10 ++ wsX40 ++ wsX20 ++ wsX00 ++ wsX30)
def wsX4_inRange : List Cond := .code yX4_inRange cX4_inRange 3 (some .boolean) :: ([])
def wsX4_addSensor_r1 : List Cond := [Cond.constant RX4 50 (100000), Cond.fieldLink RX4 10 "ClusterField" "network" "LClusterField$Network;", Cond.fieldLink RX4 51 "ClusterField$Network" "count" "I", Cond.fieldLink RX4 34 "ClusterField" "history" "LClusterField$History;", Cond.fieldLink RX4 58 "ClusterField$Network" "sensors" "[LClusterField$Sensor;", Cond.methodLink RX4 46 yX4_inRange, Cond.static yX4_inRange, Cond.initialized RX4, Cond.code yX4_inRange cX4_inRange 3 (some .boolean), Cond.methodLink RX4 55 yX0_push, Cond.instanceMethod yX0_push, Cond.selects RX0 yX0_push yX0_push, Cond.initialized RX0, Cond.code yX0_push cX0_push 2 none, Cond.fieldLink RX0 16 "ClusterField$History" "depth" "I", Cond.fieldLink RX0 11 "ClusterField$History" "saved" "[LClusterField$Network;", Cond.methodLink RX0 20 yX0_dropOldest, Cond.instanceMethod yX0_dropOldest, Cond.selects RX0 yX0_dropOldest yX0_dropOldest, Cond.code yX0_dropOldest cX0_dropOldest 3 none, Cond.methodLink RX0 23 yX1_copyFrom, Cond.instanceMethod yX1_copyFrom, Cond.selects RX1 yX1_copyFrom yX1_copyFrom, Cond.initialized RX1]
def wsX4_addSensor_r2 : List Cond := [Cond.code yX1_copyFrom cX1_copyFrom 3 none, Cond.fieldLink RX1 41 "ClusterField$Network" "count" "I", Cond.fieldLink RX1 11 "ClusterField$Network" "sensors" "[LClusterField$Sensor;", Cond.fieldLink RX1 17 "ClusterField$Network" "settings" "[I", Cond.methodLink RX1 35 arraycopyName, Cond.native arraycopyName, Cond.static arraycopyName, Cond.initialized "java/lang/System", Cond.fieldLink RX1 21 "ClusterField$Network" "baseX" "I", Cond.fieldLink RX1 25 "ClusterField$Network" "baseY" "I", Cond.fieldLink RX1 28 "ClusterField$Network" "generator" "I", Cond.fieldLink RX1 48 "ClusterField$Network" "round" "I", Cond.fieldLink RX1 51 "ClusterField$Network" "lastHeads" "I", Cond.fieldLink RX1 54 "ClusterField$Network" "lastReadings" "I", Cond.fieldLink RX1 57 "ClusterField$Network" "allReadings" "I", Cond.fieldLink RX1 60 "ClusterField$Network" "paid" "I", Cond.methodLink RX1 44 yX3_copyFrom, Cond.instanceMethod yX3_copyFrom, Cond.selects RX3 yX3_copyFrom yX3_copyFrom, Cond.initialized RX3, Cond.code yX3_copyFrom cX3_copyFrom 2 none, Cond.fieldLink RX3 9 "ClusterField$Sensor" "x" "I", Cond.fieldLink RX3 15 "ClusterField$Sensor" "y" "I", Cond.fieldLink RX3 18 "ClusterField$Sensor" "battery" "I"]
def wsX4_addSensor_r3 : List Cond := [Cond.fieldLink RX3 21 "ClusterField$Sensor" "alive" "Z", Cond.fieldLink RX3 25 "ClusterField$Sensor" "eligible" "Z", Cond.fieldLink RX3 28 "ClusterField$Sensor" "headRounds" "I", Cond.fieldLink RX3 31 "ClusterField$Sensor" "deathRound" "I", Cond.fieldLink RX3 37 "ClusterField$Sensor" "head" "I", Cond.fieldLink RX3 40 "ClusterField$Sensor" "slot" "I", Cond.methodLink RX4 62 yX3_place, Cond.instanceMethod yX3_place, Cond.selects RX3 yX3_place yX3_place, Cond.code yX3_place cX3_place 4 none, Cond.methodLink RX3 34 yX3_beginRound, Cond.instanceMethod yX3_beginRound, Cond.selects RX3 yX3_beginRound yX3_beginRound, Cond.code yX3_beginRound cX3_beginRound 1 none, Cond.fieldLink RX3 43 "ClusterField$Sensor" "elected" "Z", Cond.fieldLink RX3 46 "ClusterField$Sensor" "readings" "I"]
def wsX4_addSensor : List Cond := .code yX4_addSensor cX4_addSensor 4 (some .int) :: ((wsX4_addSensor_r1 ++ (wsX4_addSensor_r2 ++ wsX4_addSensor_r3)) ++ wsX40 ++ wsX10 ++ wsX00 ++ wsX30)
def wsX4_moveBase_r1 : List Cond := [Cond.fieldLink RX4 34 "ClusterField" "history" "LClusterField$History;", Cond.fieldLink RX4 10 "ClusterField" "network" "LClusterField$Network;", Cond.fieldLink RX4 68 "ClusterField$Network" "baseX" "I", Cond.fieldLink RX4 71 "ClusterField$Network" "baseY" "I", Cond.methodLink RX4 46 yX4_inRange, Cond.static yX4_inRange, Cond.initialized RX4, Cond.code yX4_inRange cX4_inRange 3 (some .boolean), Cond.methodLink RX4 55 yX0_push, Cond.instanceMethod yX0_push, Cond.selects RX0 yX0_push yX0_push, Cond.initialized RX0, Cond.code yX0_push cX0_push 2 none, Cond.fieldLink RX0 16 "ClusterField$History" "depth" "I", Cond.fieldLink RX0 11 "ClusterField$History" "saved" "[LClusterField$Network;", Cond.methodLink RX0 20 yX0_dropOldest, Cond.instanceMethod yX0_dropOldest, Cond.selects RX0 yX0_dropOldest yX0_dropOldest, Cond.code yX0_dropOldest cX0_dropOldest 3 none, Cond.methodLink RX0 23 yX1_copyFrom, Cond.instanceMethod yX1_copyFrom, Cond.selects RX1 yX1_copyFrom yX1_copyFrom, Cond.initialized RX1, Cond.code yX1_copyFrom cX1_copyFrom 3 none]
def wsX4_moveBase_r2 : List Cond := [Cond.fieldLink RX1 41 "ClusterField$Network" "count" "I", Cond.fieldLink RX1 11 "ClusterField$Network" "sensors" "[LClusterField$Sensor;", Cond.fieldLink RX1 17 "ClusterField$Network" "settings" "[I", Cond.methodLink RX1 35 arraycopyName, Cond.native arraycopyName, Cond.static arraycopyName, Cond.initialized "java/lang/System", Cond.fieldLink RX1 21 "ClusterField$Network" "baseX" "I", Cond.fieldLink RX1 25 "ClusterField$Network" "baseY" "I", Cond.fieldLink RX1 28 "ClusterField$Network" "generator" "I", Cond.fieldLink RX1 48 "ClusterField$Network" "round" "I", Cond.fieldLink RX1 51 "ClusterField$Network" "lastHeads" "I", Cond.fieldLink RX1 54 "ClusterField$Network" "lastReadings" "I", Cond.fieldLink RX1 57 "ClusterField$Network" "allReadings" "I", Cond.fieldLink RX1 60 "ClusterField$Network" "paid" "I", Cond.methodLink RX1 44 yX3_copyFrom, Cond.instanceMethod yX3_copyFrom, Cond.selects RX3 yX3_copyFrom yX3_copyFrom, Cond.initialized RX3, Cond.code yX3_copyFrom cX3_copyFrom 2 none, Cond.fieldLink RX3 9 "ClusterField$Sensor" "x" "I", Cond.fieldLink RX3 15 "ClusterField$Sensor" "y" "I", Cond.fieldLink RX3 18 "ClusterField$Sensor" "battery" "I", Cond.fieldLink RX3 21 "ClusterField$Sensor" "alive" "Z"]
def wsX4_moveBase_r3 : List Cond := [Cond.fieldLink RX3 25 "ClusterField$Sensor" "eligible" "Z", Cond.fieldLink RX3 28 "ClusterField$Sensor" "headRounds" "I", Cond.fieldLink RX3 31 "ClusterField$Sensor" "deathRound" "I", Cond.fieldLink RX3 37 "ClusterField$Sensor" "head" "I", Cond.fieldLink RX3 40 "ClusterField$Sensor" "slot" "I"]
def wsX4_moveBase : List Cond := .code yX4_moveBase cX4_moveBase 4 (some .int) :: ((wsX4_moveBase_r1 ++ (wsX4_moveBase_r2 ++ wsX4_moveBase_r3)) ++ wsX40 ++ wsX10 ++ wsX00 ++ wsX30)
def wsX4_setSetting_r1 : List Cond := [Cond.fieldLink RX4 74 "ClusterField$Network" "LEAST" "[I", Cond.fieldLink RX4 78 "ClusterField$Network" "GREATEST" "[I", Cond.fieldLink RX4 10 "ClusterField" "network" "LClusterField$Network;", Cond.fieldLink RX4 81 "ClusterField$Network" "settings" "[I", Cond.fieldLink RX4 34 "ClusterField" "history" "LClusterField$History;", Cond.methodLink RX4 46 yX4_inRange, Cond.static yX4_inRange, Cond.initialized RX4, Cond.code yX4_inRange cX4_inRange 3 (some .boolean), Cond.methodLink RX4 55 yX0_push, Cond.instanceMethod yX0_push, Cond.selects RX0 yX0_push yX0_push, Cond.initialized RX0, Cond.code yX0_push cX0_push 2 none, Cond.fieldLink RX0 16 "ClusterField$History" "depth" "I", Cond.fieldLink RX0 11 "ClusterField$History" "saved" "[LClusterField$Network;", Cond.methodLink RX0 20 yX0_dropOldest, Cond.instanceMethod yX0_dropOldest, Cond.selects RX0 yX0_dropOldest yX0_dropOldest, Cond.code yX0_dropOldest cX0_dropOldest 3 none, Cond.methodLink RX0 23 yX1_copyFrom, Cond.instanceMethod yX1_copyFrom, Cond.selects RX1 yX1_copyFrom yX1_copyFrom, Cond.initialized RX1]
def wsX4_setSetting_r2 : List Cond := [Cond.code yX1_copyFrom cX1_copyFrom 3 none, Cond.fieldLink RX1 41 "ClusterField$Network" "count" "I", Cond.fieldLink RX1 11 "ClusterField$Network" "sensors" "[LClusterField$Sensor;", Cond.fieldLink RX1 17 "ClusterField$Network" "settings" "[I", Cond.methodLink RX1 35 arraycopyName, Cond.native arraycopyName, Cond.static arraycopyName, Cond.initialized "java/lang/System", Cond.fieldLink RX1 21 "ClusterField$Network" "baseX" "I", Cond.fieldLink RX1 25 "ClusterField$Network" "baseY" "I", Cond.fieldLink RX1 28 "ClusterField$Network" "generator" "I", Cond.fieldLink RX1 48 "ClusterField$Network" "round" "I", Cond.fieldLink RX1 51 "ClusterField$Network" "lastHeads" "I", Cond.fieldLink RX1 54 "ClusterField$Network" "lastReadings" "I", Cond.fieldLink RX1 57 "ClusterField$Network" "allReadings" "I", Cond.fieldLink RX1 60 "ClusterField$Network" "paid" "I", Cond.methodLink RX1 44 yX3_copyFrom, Cond.instanceMethod yX3_copyFrom, Cond.selects RX3 yX3_copyFrom yX3_copyFrom, Cond.initialized RX3, Cond.code yX3_copyFrom cX3_copyFrom 2 none, Cond.fieldLink RX3 9 "ClusterField$Sensor" "x" "I", Cond.fieldLink RX3 15 "ClusterField$Sensor" "y" "I", Cond.fieldLink RX3 18 "ClusterField$Sensor" "battery" "I"]
def wsX4_setSetting_r3 : List Cond := [Cond.fieldLink RX3 21 "ClusterField$Sensor" "alive" "Z", Cond.fieldLink RX3 25 "ClusterField$Sensor" "eligible" "Z", Cond.fieldLink RX3 28 "ClusterField$Sensor" "headRounds" "I", Cond.fieldLink RX3 31 "ClusterField$Sensor" "deathRound" "I", Cond.fieldLink RX3 37 "ClusterField$Sensor" "head" "I", Cond.fieldLink RX3 40 "ClusterField$Sensor" "slot" "I"]
def wsX4_setSetting : List Cond := .code yX4_setSetting cX4_setSetting 4 (some .int) :: ((wsX4_setSetting_r1 ++ (wsX4_setSetting_r2 ++ wsX4_setSetting_r3)) ++ wsX40 ++ wsX10 ++ wsX00 ++ wsX30)
def wsX4_setGenerator_r1 : List Cond := [Cond.fieldLink RX4 34 "ClusterField" "history" "LClusterField$History;", Cond.fieldLink RX4 10 "ClusterField" "network" "LClusterField$Network;", Cond.fieldLink RX4 84 "ClusterField$Network" "generator" "I", Cond.fieldLink RX4 87 "ClusterField$Network" "round" "I", Cond.methodLink RX4 55 yX0_push, Cond.instanceMethod yX0_push, Cond.selects RX0 yX0_push yX0_push, Cond.initialized RX0, Cond.code yX0_push cX0_push 2 none, Cond.fieldLink RX0 16 "ClusterField$History" "depth" "I", Cond.fieldLink RX0 11 "ClusterField$History" "saved" "[LClusterField$Network;", Cond.methodLink RX0 20 yX0_dropOldest, Cond.instanceMethod yX0_dropOldest, Cond.selects RX0 yX0_dropOldest yX0_dropOldest, Cond.code yX0_dropOldest cX0_dropOldest 3 none, Cond.methodLink RX0 23 yX1_copyFrom, Cond.instanceMethod yX1_copyFrom, Cond.selects RX1 yX1_copyFrom yX1_copyFrom, Cond.initialized RX1, Cond.code yX1_copyFrom cX1_copyFrom 3 none, Cond.fieldLink RX1 41 "ClusterField$Network" "count" "I", Cond.fieldLink RX1 11 "ClusterField$Network" "sensors" "[LClusterField$Sensor;", Cond.fieldLink RX1 17 "ClusterField$Network" "settings" "[I", Cond.methodLink RX1 35 arraycopyName]
def wsX4_setGenerator_r2 : List Cond := [Cond.native arraycopyName, Cond.static arraycopyName, Cond.initialized "java/lang/System", Cond.fieldLink RX1 21 "ClusterField$Network" "baseX" "I", Cond.fieldLink RX1 25 "ClusterField$Network" "baseY" "I", Cond.fieldLink RX1 28 "ClusterField$Network" "generator" "I", Cond.fieldLink RX1 48 "ClusterField$Network" "round" "I", Cond.fieldLink RX1 51 "ClusterField$Network" "lastHeads" "I", Cond.fieldLink RX1 54 "ClusterField$Network" "lastReadings" "I", Cond.fieldLink RX1 57 "ClusterField$Network" "allReadings" "I", Cond.fieldLink RX1 60 "ClusterField$Network" "paid" "I", Cond.methodLink RX1 44 yX3_copyFrom, Cond.instanceMethod yX3_copyFrom, Cond.selects RX3 yX3_copyFrom yX3_copyFrom, Cond.initialized RX3, Cond.code yX3_copyFrom cX3_copyFrom 2 none, Cond.fieldLink RX3 9 "ClusterField$Sensor" "x" "I", Cond.fieldLink RX3 15 "ClusterField$Sensor" "y" "I", Cond.fieldLink RX3 18 "ClusterField$Sensor" "battery" "I", Cond.fieldLink RX3 21 "ClusterField$Sensor" "alive" "Z", Cond.fieldLink RX3 25 "ClusterField$Sensor" "eligible" "Z", Cond.fieldLink RX3 28 "ClusterField$Sensor" "headRounds" "I", Cond.fieldLink RX3 31 "ClusterField$Sensor" "deathRound" "I", Cond.fieldLink RX3 37 "ClusterField$Sensor" "head" "I"]
def wsX4_setGenerator_r3 : List Cond := [Cond.fieldLink RX3 40 "ClusterField$Sensor" "slot" "I"]
def wsX4_setGenerator : List Cond := .code yX4_setGenerator cX4_setGenerator 2 (some .int) :: ((wsX4_setGenerator_r1 ++ (wsX4_setGenerator_r2 ++ wsX4_setGenerator_r3)) ++ wsX40 ++ wsX10 ++ wsX00 ++ wsX30)
def wsX4_charge_r1 : List Cond := [Cond.fieldLink RX4 10 "ClusterField" "network" "LClusterField$Network;", Cond.constant RX4 50 (100000), Cond.fieldLink RX4 58 "ClusterField$Network" "sensors" "[LClusterField$Sensor;", Cond.fieldLink RX4 94 "ClusterField$Sensor" "alive" "Z", Cond.fieldLink RX4 98 "ClusterField$Sensor" "battery" "I", Cond.constant RX4 101 (1000000), Cond.fieldLink RX4 34 "ClusterField" "history" "LClusterField$History;", Cond.methodLink RX4 90 yX1_has, Cond.instanceMethod yX1_has, Cond.selects RX1 yX1_has yX1_has, Cond.initialized RX1, Cond.code yX1_has cX1_has 2 (some .boolean), Cond.fieldLink RX1 41 "ClusterField$Network" "count" "I", Cond.methodLink RX4 46 yX4_inRange, Cond.static yX4_inRange, Cond.initialized RX4, Cond.code yX4_inRange cX4_inRange 3 (some .boolean), Cond.methodLink RX4 55 yX0_push, Cond.instanceMethod yX0_push, Cond.selects RX0 yX0_push yX0_push, Cond.initialized RX0, Cond.code yX0_push cX0_push 2 none, Cond.fieldLink RX0 16 "ClusterField$History" "depth" "I", Cond.fieldLink RX0 11 "ClusterField$History" "saved" "[LClusterField$Network;"]
def wsX4_charge_r2 : List Cond := [Cond.methodLink RX0 20 yX0_dropOldest, Cond.instanceMethod yX0_dropOldest, Cond.selects RX0 yX0_dropOldest yX0_dropOldest, Cond.code yX0_dropOldest cX0_dropOldest 3 none, Cond.methodLink RX0 23 yX1_copyFrom, Cond.instanceMethod yX1_copyFrom, Cond.selects RX1 yX1_copyFrom yX1_copyFrom, Cond.code yX1_copyFrom cX1_copyFrom 3 none, Cond.fieldLink RX1 11 "ClusterField$Network" "sensors" "[LClusterField$Sensor;", Cond.fieldLink RX1 17 "ClusterField$Network" "settings" "[I", Cond.methodLink RX1 35 arraycopyName, Cond.native arraycopyName, Cond.static arraycopyName, Cond.initialized "java/lang/System", Cond.fieldLink RX1 21 "ClusterField$Network" "baseX" "I", Cond.fieldLink RX1 25 "ClusterField$Network" "baseY" "I", Cond.fieldLink RX1 28 "ClusterField$Network" "generator" "I", Cond.fieldLink RX1 48 "ClusterField$Network" "round" "I", Cond.fieldLink RX1 51 "ClusterField$Network" "lastHeads" "I", Cond.fieldLink RX1 54 "ClusterField$Network" "lastReadings" "I", Cond.fieldLink RX1 57 "ClusterField$Network" "allReadings" "I", Cond.fieldLink RX1 60 "ClusterField$Network" "paid" "I", Cond.methodLink RX1 44 yX3_copyFrom, Cond.instanceMethod yX3_copyFrom]
def wsX4_charge_r3 : List Cond := [Cond.selects RX3 yX3_copyFrom yX3_copyFrom, Cond.initialized RX3, Cond.code yX3_copyFrom cX3_copyFrom 2 none, Cond.fieldLink RX3 9 "ClusterField$Sensor" "x" "I", Cond.fieldLink RX3 15 "ClusterField$Sensor" "y" "I", Cond.fieldLink RX3 18 "ClusterField$Sensor" "battery" "I", Cond.fieldLink RX3 21 "ClusterField$Sensor" "alive" "Z", Cond.fieldLink RX3 25 "ClusterField$Sensor" "eligible" "Z", Cond.fieldLink RX3 28 "ClusterField$Sensor" "headRounds" "I", Cond.fieldLink RX3 31 "ClusterField$Sensor" "deathRound" "I", Cond.fieldLink RX3 37 "ClusterField$Sensor" "head" "I", Cond.fieldLink RX3 40 "ClusterField$Sensor" "slot" "I"]
def wsX4_charge : List Cond := .code yX4_charge cX4_charge 4 (some .int) :: ((wsX4_charge_r1 ++ (wsX4_charge_r2 ++ wsX4_charge_r3)) ++ wsX40 ++ wsX10 ++ wsX30 ++ wsX00)
def wsX4_run_r1 : List Cond := [Cond.fieldLink RX4 10 "ClusterField" "network" "LClusterField$Network;", Cond.fieldLink RX4 34 "ClusterField" "history" "LClusterField$History;", Cond.fieldLink RX4 21 "ClusterField" "livePlay" "LClusterField$Rounds;", Cond.methodLink RX4 46 yX4_inRange, Cond.static yX4_inRange, Cond.initialized RX4, Cond.code yX4_inRange cX4_inRange 3 (some .boolean), Cond.methodLink RX4 102 yX1_countAlive, Cond.instanceMethod yX1_countAlive, Cond.selects RX1 yX1_countAlive yX1_countAlive, Cond.initialized RX1, Cond.code yX1_countAlive cX1_countAlive 3 (some .int), Cond.fieldLink RX1 41 "ClusterField$Network" "count" "I", Cond.fieldLink RX1 11 "ClusterField$Network" "sensors" "[LClusterField$Sensor;", Cond.fieldLink RX1 63 "ClusterField$Sensor" "alive" "Z", Cond.methodLink RX4 55 yX0_push, Cond.instanceMethod yX0_push, Cond.selects RX0 yX0_push yX0_push, Cond.initialized RX0, Cond.code yX0_push cX0_push 2 none, Cond.fieldLink RX0 16 "ClusterField$History" "depth" "I", Cond.fieldLink RX0 11 "ClusterField$History" "saved" "[LClusterField$Network;", Cond.methodLink RX0 20 yX0_dropOldest, Cond.instanceMethod yX0_dropOldest]
def wsX4_run_r2 : List Cond := [Cond.selects RX0 yX0_dropOldest yX0_dropOldest, Cond.code yX0_dropOldest cX0_dropOldest 3 none, Cond.methodLink RX0 23 yX1_copyFrom, Cond.instanceMethod yX1_copyFrom, Cond.selects RX1 yX1_copyFrom yX1_copyFrom, Cond.code yX1_copyFrom cX1_copyFrom 3 none, Cond.fieldLink RX1 17 "ClusterField$Network" "settings" "[I", Cond.methodLink RX1 35 arraycopyName, Cond.native arraycopyName, Cond.static arraycopyName, Cond.initialized "java/lang/System", Cond.fieldLink RX1 21 "ClusterField$Network" "baseX" "I", Cond.fieldLink RX1 25 "ClusterField$Network" "baseY" "I", Cond.fieldLink RX1 28 "ClusterField$Network" "generator" "I", Cond.fieldLink RX1 48 "ClusterField$Network" "round" "I", Cond.fieldLink RX1 51 "ClusterField$Network" "lastHeads" "I", Cond.fieldLink RX1 54 "ClusterField$Network" "lastReadings" "I", Cond.fieldLink RX1 57 "ClusterField$Network" "allReadings" "I", Cond.fieldLink RX1 60 "ClusterField$Network" "paid" "I", Cond.methodLink RX1 44 yX3_copyFrom, Cond.instanceMethod yX3_copyFrom, Cond.selects RX3 yX3_copyFrom yX3_copyFrom, Cond.initialized RX3, Cond.code yX3_copyFrom cX3_copyFrom 2 none]
def wsX4_run_r3 : List Cond := [Cond.fieldLink RX3 9 "ClusterField$Sensor" "x" "I", Cond.fieldLink RX3 15 "ClusterField$Sensor" "y" "I", Cond.fieldLink RX3 18 "ClusterField$Sensor" "battery" "I", Cond.fieldLink RX3 21 "ClusterField$Sensor" "alive" "Z", Cond.fieldLink RX3 25 "ClusterField$Sensor" "eligible" "Z", Cond.fieldLink RX3 28 "ClusterField$Sensor" "headRounds" "I", Cond.fieldLink RX3 31 "ClusterField$Sensor" "deathRound" "I", Cond.fieldLink RX3 37 "ClusterField$Sensor" "head" "I", Cond.fieldLink RX3 40 "ClusterField$Sensor" "slot" "I", Cond.methodLink RX4 106 yX2_perform, Cond.instanceMethod yX2_perform, Cond.selects RX2 yX2_perform yX2_perform, Cond.initialized RX2, Cond.code yX2_perform cX2_perform 3 (some .int), Cond.fieldLink RX2 9 "ClusterField$Rounds" "net" "LClusterField$Network;", Cond.methodLink RX2 15 yX1_countAlive, Cond.methodLink RX2 21 yX2_performOne, Cond.instanceMethod yX2_performOne, Cond.selects RX2 yX2_performOne yX2_performOne, Cond.code yX2_performOne cX2_performOne 1 none, Cond.fieldLink RX2 33 "ClusterField$Network" "lastHeads" "I", Cond.fieldLink RX2 52 "ClusterField$Network" "allReadings" "I", Cond.fieldLink RX2 55 "ClusterField$Network" "lastReadings" "I", Cond.fieldLink RX2 58 "ClusterField$Network" "round" "I"]
def wsX4_run_r4 : List Cond := [Cond.methodLink RX2 24 yX2_begin, Cond.instanceMethod yX2_begin, Cond.selects RX2 yX2_begin yX2_begin, Cond.code yX2_begin cX2_begin 4 none, Cond.fieldLink RX2 64 "ClusterField$Network" "count" "I", Cond.fieldLink RX2 67 "ClusterField$Network" "sensors" "[LClusterField$Sensor;", Cond.fieldLink RX2 76 "ClusterField$Sensor" "eligible" "Z", Cond.methodLink RX2 61 yX1_phase, Cond.instanceMethod yX1_phase, Cond.selects RX1 yX1_phase yX1_phase, Cond.code yX1_phase cX1_phase 2 (some .int), Cond.methodLink RX2 71 yX3_beginRound, Cond.instanceMethod yX3_beginRound, Cond.selects RX3 yX3_beginRound yX3_beginRound, Cond.code yX3_beginRound cX3_beginRound 1 none, Cond.fieldLink RX3 43 "ClusterField$Sensor" "elected" "Z", Cond.fieldLink RX3 46 "ClusterField$Sensor" "readings" "I", Cond.methodLink RX2 27 yX2_elect, Cond.instanceMethod yX2_elect, Cond.selects RX2 yX2_elect yX2_elect, Cond.code yX2_elect cX2_elect 4 none, Cond.fieldLink RX2 80 "ClusterField$Network" "settings" "[I", Cond.fieldLink RX2 84 "ClusterField$Sensor" "alive" "Z", Cond.fieldLink RX2 90 "ClusterField$Sensor" "elected" "Z"]
def wsX4_run_r5 : List Cond := [Cond.methodLink RX2 87 yX2_draw, Cond.instanceMethod yX2_draw, Cond.selects RX2 yX2_draw yX2_draw, Cond.code yX2_draw cX2_draw 3 (some .int), Cond.fieldLink RX2 93 "ClusterField$Network" "generator" "I", Cond.constantLong RX2 96 (1103515245), Cond.constantLong RX2 98 (12345), Cond.constantLong RX2 100 (2147483648), Cond.constant RX2 102 (65536), Cond.methodLink RX2 30 yX2_announce, Cond.instanceMethod yX2_announce, Cond.selects RX2 yX2_announce yX2_announce, Cond.code yX2_announce cX2_announce 3 none, Cond.fieldLink RX2 107 "ClusterField$Sensor" "head" "I", Cond.fieldLink RX2 110 "ClusterField$Sensor" "headRounds" "I", Cond.methodLink RX2 103 yX2_pays, Cond.instanceMethod yX2_pays, Cond.selects RX2 yX2_pays yX2_pays, Cond.code yX2_pays cX2_pays 3 (some .boolean), Cond.fieldLink RX2 177 "ClusterField$Sensor" "battery" "I", Cond.fieldLink RX2 180 "ClusterField$Sensor" "deathRound" "I", Cond.fieldLink RX2 183 "ClusterField$Network" "paid" "I", Cond.methodLink RX2 37 yX2_reportToBase, Cond.instanceMethod yX2_reportToBase]
def wsX4_run_r6 : List Cond := [Cond.selects RX2 yX2_reportToBase yX2_reportToBase, Cond.code yX2_reportToBase cX2_reportToBase 3 none, Cond.methodLink RX2 160 yX2_sendToBase, Cond.instanceMethod yX2_sendToBase, Cond.selects RX2 yX2_sendToBase yX2_sendToBase, Cond.code yX2_sendToBase cX2_sendToBase 3 none, Cond.fieldLink RX2 164 "ClusterField$Network" "baseX" "I", Cond.fieldLink RX2 167 "ClusterField$Network" "baseY" "I", Cond.methodLink RX2 134 yX3_distanceTo, Cond.instanceMethod yX3_distanceTo, Cond.selects RX3 yX3_distanceTo yX3_distanceTo, Cond.code yX3_distanceTo cX3_distanceTo 5 (some .int), Cond.methodLink RX2 173 yX1_costOver, Cond.instanceMethod yX1_costOver, Cond.selects RX1 yX1_costOver yX1_costOver, Cond.code yX1_costOver cX1_costOver 3 (some .int), Cond.methodLink RX2 40 yX2_join, Cond.instanceMethod yX2_join, Cond.selects RX2 yX2_join yX2_join, Cond.code yX2_join cX2_join 3 none, Cond.fieldLink RX2 113 "ClusterField$Sensor" "x" "I", Cond.fieldLink RX2 116 "ClusterField$Sensor" "y" "I", Cond.methodLink RX2 119 yX2_nearestHead, Cond.instanceMethod yX2_nearestHead]
def wsX4_run_r7 : List Cond := [Cond.selects RX2 yX2_nearestHead yX2_nearestHead, Cond.code yX2_nearestHead cX2_nearestHead 7 (some .int), Cond.methodLink RX2 131 yX2_isLivingHead, Cond.instanceMethod yX2_isLivingHead, Cond.selects RX2 yX2_isLivingHead yX2_isLivingHead, Cond.code yX2_isLivingHead cX2_isLivingHead 3 (some .boolean), Cond.methodLink RX2 123 yX2_isHead, Cond.instanceMethod yX2_isHead, Cond.selects RX2 yX2_isHead yX2_isHead, Cond.code yX2_isHead cX2_isHead 2 (some .boolean), Cond.methodLink RX2 127 yX2_giveSlots, Cond.instanceMethod yX2_giveSlots, Cond.selects RX2 yX2_giveSlots yX2_giveSlots, Cond.code yX2_giveSlots cX2_giveSlots 4 none, Cond.fieldLink RX2 141 "ClusterField$Sensor" "slot" "I", Cond.methodLink RX2 137 yX2_hasJoined, Cond.instanceMethod yX2_hasJoined, Cond.selects RX2 yX2_hasJoined yX2_hasJoined, Cond.code yX2_hasJoined cX2_hasJoined 3 (some .boolean), Cond.methodLink RX2 43 yX2_reportToHeads, Cond.instanceMethod yX2_reportToHeads, Cond.selects RX2 yX2_reportToHeads yX2_reportToHeads, Cond.code yX2_reportToHeads cX2_reportToHeads 2 none, Cond.methodLink RX2 144 yX2_reportTo]
def wsX4_run_r8 : List Cond := [Cond.instanceMethod yX2_reportTo, Cond.selects RX2 yX2_reportTo yX2_reportTo, Cond.code yX2_reportTo cX2_reportTo 5 none, Cond.fieldLink RX2 151 "ClusterField$Sensor" "readings" "I", Cond.methodLink RX2 147 yX2_sends, Cond.instanceMethod yX2_sends, Cond.selects RX2 yX2_sends yX2_sends, Cond.code yX2_sends cX2_sends 3 (some .boolean), Cond.methodLink RX2 46 yX2_addOwnReadings, Cond.instanceMethod yX2_addOwnReadings, Cond.selects RX2 yX2_addOwnReadings yX2_addOwnReadings, Cond.code yX2_addOwnReadings cX2_addOwnReadings 3 none, Cond.methodLink RX2 49 yX2_deliver, Cond.instanceMethod yX2_deliver, Cond.selects RX2 yX2_deliver yX2_deliver, Cond.code yX2_deliver cX2_deliver 1 none, Cond.methodLink RX2 154 yX2_deliverThroughRelay, Cond.instanceMethod yX2_deliverThroughRelay, Cond.selects RX2 yX2_deliverThroughRelay yX2_deliverThroughRelay, Cond.code yX2_deliverThroughRelay cX2_deliverThroughRelay 5 none, Cond.methodLink RX2 170 yX1_has, Cond.instanceMethod yX1_has, Cond.selects RX1 yX1_has yX1_has, Cond.code yX1_has cX1_has 2 (some .boolean)]
def wsX4_run_r9 : List Cond := [Cond.methodLink RX2 157 yX2_deliverDirectly, Cond.instanceMethod yX2_deliverDirectly, Cond.selects RX2 yX2_deliverDirectly yX2_deliverDirectly, Cond.code yX2_deliverDirectly cX2_deliverDirectly 3 none]
def wsX4_run : List Cond := .code yX4_run cX4_run 2 (some .int) :: ((wsX4_run_r1 ++ (wsX4_run_r2 ++ (wsX4_run_r3 ++ (wsX4_run_r4 ++ (wsX4_run_r5 ++ (wsX4_run_r6 ++ (wsX4_run_r7 ++ (wsX4_run_r8 ++ wsX4_run_r9)))))))) ++ wsX40 ++ wsX10 ++ wsX30 ++ wsX00 ++ wsX20)
def wsX4_roundNumber : List Cond := .code yX4_roundNumber cX4_roundNumber 1 (some .int) :: ([.fieldLink RX4 10 "ClusterField" "network" "LClusterField$Network;", .fieldLink RX4 87 "ClusterField$Network" "round" "I"] ++ wsX40 ++ wsX10)
def wsX4_sensorCount : List Cond := .code yX4_sensorCount cX4_sensorCount 1 (some .int) :: ([.fieldLink RX4 10 "ClusterField" "network" "LClusterField$Network;", .fieldLink RX4 51 "ClusterField$Network" "count" "I"] ++ wsX40 ++ wsX10)
def wsX4_aliveCount : List Cond := .code yX4_aliveCount cX4_aliveCount 1 (some .int) :: ([.fieldLink RX4 10 "ClusterField" "network" "LClusterField$Network;", .methodLink RX4 102 yX1_countAlive, .instanceMethod yX1_countAlive, .selects RX1 yX1_countAlive yX1_countAlive, .initialized RX1, .code yX1_countAlive cX1_countAlive 3 (some .int), .fieldLink RX1 41 "ClusterField$Network" "count" "I", .fieldLink RX1 11 "ClusterField$Network" "sensors" "[LClusterField$Sensor;", .fieldLink RX1 63 "ClusterField$Sensor" "alive" "Z"] ++ wsX40 ++ wsX10 ++ wsX30)
def wsX4_isAlive : List Cond := .code yX4_isAlive cX4_isAlive 2 (some .int) :: ([.fieldLink RX4 10 "ClusterField" "network" "LClusterField$Network;", .fieldLink RX4 58 "ClusterField$Network" "sensors" "[LClusterField$Sensor;", .fieldLink RX4 94 "ClusterField$Sensor" "alive" "Z", .methodLink RX4 90 yX1_has, .instanceMethod yX1_has, .selects RX1 yX1_has yX1_has, .initialized RX1, .code yX1_has cX1_has 2 (some .boolean), .fieldLink RX1 41 "ClusterField$Network" "count" "I"] ++ wsX40 ++ wsX10 ++ wsX30)
def wsX4_battery : List Cond := .code yX4_battery cX4_battery 2 (some .int) :: ([.fieldLink RX4 10 "ClusterField" "network" "LClusterField$Network;", .fieldLink RX4 58 "ClusterField$Network" "sensors" "[LClusterField$Sensor;", .fieldLink RX4 98 "ClusterField$Sensor" "battery" "I", .methodLink RX4 90 yX1_has, .instanceMethod yX1_has, .selects RX1 yX1_has yX1_has, .initialized RX1, .code yX1_has cX1_has 2 (some .boolean), .fieldLink RX1 41 "ClusterField$Network" "count" "I"] ++ wsX40 ++ wsX10 ++ wsX30)
def wsX4_isEligible : List Cond := .code yX4_isEligible cX4_isEligible 3 (some .int) :: ([.fieldLink RX4 10 "ClusterField" "network" "LClusterField$Network;", .fieldLink RX4 58 "ClusterField$Network" "sensors" "[LClusterField$Sensor;", .fieldLink RX4 94 "ClusterField$Sensor" "alive" "Z", .fieldLink RX4 110 "ClusterField$Sensor" "eligible" "Z", .methodLink RX4 90 yX1_has, .instanceMethod yX1_has, .selects RX1 yX1_has yX1_has, .initialized RX1, .code yX1_has cX1_has 2 (some .boolean), .fieldLink RX1 41 "ClusterField$Network" "count" "I", .methodLink RX4 113 yX1_phase, .instanceMethod yX1_phase, .selects RX1 yX1_phase yX1_phase, .code yX1_phase cX1_phase 2 (some .int), .fieldLink RX1 17 "ClusterField$Network" "settings" "[I", .fieldLink RX1 48 "ClusterField$Network" "round" "I"] ++ wsX40 ++ wsX10 ++ wsX30)
def wsX4_headRounds : List Cond := .code yX4_headRounds cX4_headRounds 2 (some .int) :: ([.fieldLink RX4 10 "ClusterField" "network" "LClusterField$Network;", .fieldLink RX4 58 "ClusterField$Network" "sensors" "[LClusterField$Sensor;", .fieldLink RX4 116 "ClusterField$Sensor" "headRounds" "I", .methodLink RX4 90 yX1_has, .instanceMethod yX1_has, .selects RX1 yX1_has yX1_has, .initialized RX1, .code yX1_has cX1_has 2 (some .boolean), .fieldLink RX1 41 "ClusterField$Network" "count" "I"] ++ wsX40 ++ wsX10 ++ wsX30)
def wsX4_deathRound : List Cond := .code yX4_deathRound cX4_deathRound 2 (some .int) :: ([.fieldLink RX4 10 "ClusterField" "network" "LClusterField$Network;", .fieldLink RX4 58 "ClusterField$Network" "sensors" "[LClusterField$Sensor;", .fieldLink RX4 119 "ClusterField$Sensor" "deathRound" "I", .methodLink RX4 90 yX1_has, .instanceMethod yX1_has, .selects RX1 yX1_has yX1_has, .initialized RX1, .code yX1_has cX1_has 2 (some .boolean), .fieldLink RX1 41 "ClusterField$Network" "count" "I"] ++ wsX40 ++ wsX10 ++ wsX30)
def wsX4_headOf : List Cond := .code yX4_headOf cX4_headOf 2 (some .int) :: ([.fieldLink RX4 10 "ClusterField" "network" "LClusterField$Network;", .fieldLink RX4 58 "ClusterField$Network" "sensors" "[LClusterField$Sensor;", .fieldLink RX4 122 "ClusterField$Sensor" "head" "I", .methodLink RX4 90 yX1_has, .instanceMethod yX1_has, .selects RX1 yX1_has yX1_has, .initialized RX1, .code yX1_has cX1_has 2 (some .boolean), .fieldLink RX1 41 "ClusterField$Network" "count" "I"] ++ wsX40 ++ wsX10 ++ wsX30)
def wsX4_slotOf : List Cond := .code yX4_slotOf cX4_slotOf 2 (some .int) :: ([.fieldLink RX4 10 "ClusterField" "network" "LClusterField$Network;", .fieldLink RX4 58 "ClusterField$Network" "sensors" "[LClusterField$Sensor;", .fieldLink RX4 125 "ClusterField$Sensor" "slot" "I", .methodLink RX4 90 yX1_has, .instanceMethod yX1_has, .selects RX1 yX1_has yX1_has, .initialized RX1, .code yX1_has cX1_has 2 (some .boolean), .fieldLink RX1 41 "ClusterField$Network" "count" "I"] ++ wsX40 ++ wsX10 ++ wsX30)
def wsX4_headCount : List Cond := .code yX4_headCount cX4_headCount 1 (some .int) :: ([.fieldLink RX4 10 "ClusterField" "network" "LClusterField$Network;", .fieldLink RX4 128 "ClusterField$Network" "lastHeads" "I"] ++ wsX40 ++ wsX10)
def wsX4_lastDelivered : List Cond := .code yX4_lastDelivered cX4_lastDelivered 1 (some .int) :: ([.fieldLink RX4 10 "ClusterField" "network" "LClusterField$Network;", .fieldLink RX4 131 "ClusterField$Network" "lastReadings" "I"] ++ wsX40 ++ wsX10)
def wsX4_deliveredTotal : List Cond := .code yX4_deliveredTotal cX4_deliveredTotal 1 (some .int) :: ([.fieldLink RX4 10 "ClusterField" "network" "LClusterField$Network;", .fieldLink RX4 134 "ClusterField$Network" "allReadings" "I"] ++ wsX40 ++ wsX10)
def wsX4_energyPaid : List Cond := .code yX4_energyPaid cX4_energyPaid 1 (some .int) :: ([.fieldLink RX4 10 "ClusterField" "network" "LClusterField$Network;", .fieldLink RX4 137 "ClusterField$Network" "paid" "I"] ++ wsX40 ++ wsX10)
def wsX4_sendCost : List Cond := .code yX4_sendCost cX4_sendCost 5 (some .int) :: ([.fieldLink RX4 10 "ClusterField" "network" "LClusterField$Network;", .fieldLink RX4 58 "ClusterField$Network" "sensors" "[LClusterField$Sensor;", .fieldLink RX4 68 "ClusterField$Network" "baseX" "I", .fieldLink RX4 71 "ClusterField$Network" "baseY" "I", .fieldLink RX4 147 "ClusterField$Sensor" "x" "I", .fieldLink RX4 150 "ClusterField$Sensor" "y" "I", .methodLink RX4 90 yX1_has, .instanceMethod yX1_has, .selects RX1 yX1_has yX1_has, .initialized RX1, .code yX1_has cX1_has 2 (some .boolean), .fieldLink RX1 41 "ClusterField$Network" "count" "I", .methodLink RX4 140 yX3_distanceTo, .instanceMethod yX3_distanceTo, .selects RX3 yX3_distanceTo yX3_distanceTo, .initialized RX3, .code yX3_distanceTo cX3_distanceTo 5 (some .int), .fieldLink RX3 9 "ClusterField$Sensor" "x" "I", .fieldLink RX3 15 "ClusterField$Sensor" "y" "I", .methodLink RX4 144 yX1_costOver, .instanceMethod yX1_costOver, .selects RX1 yX1_costOver yX1_costOver, .code yX1_costOver cX1_costOver 3 (some .int), .fieldLink RX1 17 "ClusterField$Network" "settings" "[I"] ++ wsX40 ++ wsX10 ++ wsX30)
def wsX4_forecastDeath_r1 : List Cond := [Cond.fieldLink RX4 10 "ClusterField" "network" "LClusterField$Network;", Cond.fieldLink RX4 58 "ClusterField$Network" "sensors" "[LClusterField$Sensor;", Cond.fieldLink RX4 94 "ClusterField$Sensor" "alive" "Z", Cond.fieldLink RX4 25 "ClusterField" "trial" "LClusterField$Network;", Cond.fieldLink RX4 28 "ClusterField" "trialPlay" "LClusterField$Rounds;", Cond.fieldLink RX4 119 "ClusterField$Sensor" "deathRound" "I", Cond.methodLink RX4 90 yX1_has, Cond.instanceMethod yX1_has, Cond.selects RX1 yX1_has yX1_has, Cond.initialized RX1, Cond.code yX1_has cX1_has 2 (some .boolean), Cond.fieldLink RX1 41 "ClusterField$Network" "count" "I", Cond.methodLink RX4 46 yX4_inRange, Cond.static yX4_inRange, Cond.initialized RX4, Cond.code yX4_inRange cX4_inRange 3 (some .boolean), Cond.methodLink RX4 153 yX1_copyFrom, Cond.instanceMethod yX1_copyFrom, Cond.selects RX1 yX1_copyFrom yX1_copyFrom, Cond.code yX1_copyFrom cX1_copyFrom 3 none, Cond.fieldLink RX1 11 "ClusterField$Network" "sensors" "[LClusterField$Sensor;", Cond.fieldLink RX1 17 "ClusterField$Network" "settings" "[I", Cond.methodLink RX1 35 arraycopyName, Cond.native arraycopyName]
def wsX4_forecastDeath_r2 : List Cond := [Cond.static arraycopyName, Cond.initialized "java/lang/System", Cond.fieldLink RX1 21 "ClusterField$Network" "baseX" "I", Cond.fieldLink RX1 25 "ClusterField$Network" "baseY" "I", Cond.fieldLink RX1 28 "ClusterField$Network" "generator" "I", Cond.fieldLink RX1 48 "ClusterField$Network" "round" "I", Cond.fieldLink RX1 51 "ClusterField$Network" "lastHeads" "I", Cond.fieldLink RX1 54 "ClusterField$Network" "lastReadings" "I", Cond.fieldLink RX1 57 "ClusterField$Network" "allReadings" "I", Cond.fieldLink RX1 60 "ClusterField$Network" "paid" "I", Cond.methodLink RX1 44 yX3_copyFrom, Cond.instanceMethod yX3_copyFrom, Cond.selects RX3 yX3_copyFrom yX3_copyFrom, Cond.initialized RX3, Cond.code yX3_copyFrom cX3_copyFrom 2 none, Cond.fieldLink RX3 9 "ClusterField$Sensor" "x" "I", Cond.fieldLink RX3 15 "ClusterField$Sensor" "y" "I", Cond.fieldLink RX3 18 "ClusterField$Sensor" "battery" "I", Cond.fieldLink RX3 21 "ClusterField$Sensor" "alive" "Z", Cond.fieldLink RX3 25 "ClusterField$Sensor" "eligible" "Z", Cond.fieldLink RX3 28 "ClusterField$Sensor" "headRounds" "I", Cond.fieldLink RX3 31 "ClusterField$Sensor" "deathRound" "I", Cond.fieldLink RX3 37 "ClusterField$Sensor" "head" "I", Cond.fieldLink RX3 40 "ClusterField$Sensor" "slot" "I"]
def wsX4_forecastDeath_r3 : List Cond := [Cond.methodLink RX4 106 yX2_perform, Cond.instanceMethod yX2_perform, Cond.selects RX2 yX2_perform yX2_perform, Cond.initialized RX2, Cond.code yX2_perform cX2_perform 3 (some .int), Cond.fieldLink RX2 9 "ClusterField$Rounds" "net" "LClusterField$Network;", Cond.methodLink RX2 15 yX1_countAlive, Cond.instanceMethod yX1_countAlive, Cond.selects RX1 yX1_countAlive yX1_countAlive, Cond.code yX1_countAlive cX1_countAlive 3 (some .int), Cond.fieldLink RX1 63 "ClusterField$Sensor" "alive" "Z", Cond.methodLink RX2 21 yX2_performOne, Cond.instanceMethod yX2_performOne, Cond.selects RX2 yX2_performOne yX2_performOne, Cond.code yX2_performOne cX2_performOne 1 none, Cond.fieldLink RX2 33 "ClusterField$Network" "lastHeads" "I", Cond.fieldLink RX2 52 "ClusterField$Network" "allReadings" "I", Cond.fieldLink RX2 55 "ClusterField$Network" "lastReadings" "I", Cond.fieldLink RX2 58 "ClusterField$Network" "round" "I", Cond.methodLink RX2 24 yX2_begin, Cond.instanceMethod yX2_begin, Cond.selects RX2 yX2_begin yX2_begin, Cond.code yX2_begin cX2_begin 4 none, Cond.fieldLink RX2 64 "ClusterField$Network" "count" "I"]
def wsX4_forecastDeath_r4 : List Cond := [Cond.fieldLink RX2 67 "ClusterField$Network" "sensors" "[LClusterField$Sensor;", Cond.fieldLink RX2 76 "ClusterField$Sensor" "eligible" "Z", Cond.methodLink RX2 61 yX1_phase, Cond.instanceMethod yX1_phase, Cond.selects RX1 yX1_phase yX1_phase, Cond.code yX1_phase cX1_phase 2 (some .int), Cond.methodLink RX2 71 yX3_beginRound, Cond.instanceMethod yX3_beginRound, Cond.selects RX3 yX3_beginRound yX3_beginRound, Cond.code yX3_beginRound cX3_beginRound 1 none, Cond.fieldLink RX3 43 "ClusterField$Sensor" "elected" "Z", Cond.fieldLink RX3 46 "ClusterField$Sensor" "readings" "I", Cond.methodLink RX2 27 yX2_elect, Cond.instanceMethod yX2_elect, Cond.selects RX2 yX2_elect yX2_elect, Cond.code yX2_elect cX2_elect 4 none, Cond.fieldLink RX2 80 "ClusterField$Network" "settings" "[I", Cond.fieldLink RX2 84 "ClusterField$Sensor" "alive" "Z", Cond.fieldLink RX2 90 "ClusterField$Sensor" "elected" "Z", Cond.methodLink RX2 87 yX2_draw, Cond.instanceMethod yX2_draw, Cond.selects RX2 yX2_draw yX2_draw, Cond.code yX2_draw cX2_draw 3 (some .int), Cond.fieldLink RX2 93 "ClusterField$Network" "generator" "I"]
def wsX4_forecastDeath_r5 : List Cond := [Cond.constantLong RX2 96 (1103515245), Cond.constantLong RX2 98 (12345), Cond.constantLong RX2 100 (2147483648), Cond.constant RX2 102 (65536), Cond.methodLink RX2 30 yX2_announce, Cond.instanceMethod yX2_announce, Cond.selects RX2 yX2_announce yX2_announce, Cond.code yX2_announce cX2_announce 3 none, Cond.fieldLink RX2 107 "ClusterField$Sensor" "head" "I", Cond.fieldLink RX2 110 "ClusterField$Sensor" "headRounds" "I", Cond.methodLink RX2 103 yX2_pays, Cond.instanceMethod yX2_pays, Cond.selects RX2 yX2_pays yX2_pays, Cond.code yX2_pays cX2_pays 3 (some .boolean), Cond.fieldLink RX2 177 "ClusterField$Sensor" "battery" "I", Cond.fieldLink RX2 180 "ClusterField$Sensor" "deathRound" "I", Cond.fieldLink RX2 183 "ClusterField$Network" "paid" "I", Cond.methodLink RX2 37 yX2_reportToBase, Cond.instanceMethod yX2_reportToBase, Cond.selects RX2 yX2_reportToBase yX2_reportToBase, Cond.code yX2_reportToBase cX2_reportToBase 3 none, Cond.methodLink RX2 160 yX2_sendToBase, Cond.instanceMethod yX2_sendToBase, Cond.selects RX2 yX2_sendToBase yX2_sendToBase]
def wsX4_forecastDeath_r6 : List Cond := [Cond.code yX2_sendToBase cX2_sendToBase 3 none, Cond.fieldLink RX2 164 "ClusterField$Network" "baseX" "I", Cond.fieldLink RX2 167 "ClusterField$Network" "baseY" "I", Cond.methodLink RX2 134 yX3_distanceTo, Cond.instanceMethod yX3_distanceTo, Cond.selects RX3 yX3_distanceTo yX3_distanceTo, Cond.code yX3_distanceTo cX3_distanceTo 5 (some .int), Cond.methodLink RX2 173 yX1_costOver, Cond.instanceMethod yX1_costOver, Cond.selects RX1 yX1_costOver yX1_costOver, Cond.code yX1_costOver cX1_costOver 3 (some .int), Cond.methodLink RX2 40 yX2_join, Cond.instanceMethod yX2_join, Cond.selects RX2 yX2_join yX2_join, Cond.code yX2_join cX2_join 3 none, Cond.fieldLink RX2 113 "ClusterField$Sensor" "x" "I", Cond.fieldLink RX2 116 "ClusterField$Sensor" "y" "I", Cond.methodLink RX2 119 yX2_nearestHead, Cond.instanceMethod yX2_nearestHead, Cond.selects RX2 yX2_nearestHead yX2_nearestHead, Cond.code yX2_nearestHead cX2_nearestHead 7 (some .int), Cond.methodLink RX2 131 yX2_isLivingHead, Cond.instanceMethod yX2_isLivingHead, Cond.selects RX2 yX2_isLivingHead yX2_isLivingHead]
def wsX4_forecastDeath_r7 : List Cond := [Cond.code yX2_isLivingHead cX2_isLivingHead 3 (some .boolean), Cond.methodLink RX2 123 yX2_isHead, Cond.instanceMethod yX2_isHead, Cond.selects RX2 yX2_isHead yX2_isHead, Cond.code yX2_isHead cX2_isHead 2 (some .boolean), Cond.methodLink RX2 127 yX2_giveSlots, Cond.instanceMethod yX2_giveSlots, Cond.selects RX2 yX2_giveSlots yX2_giveSlots, Cond.code yX2_giveSlots cX2_giveSlots 4 none, Cond.fieldLink RX2 141 "ClusterField$Sensor" "slot" "I", Cond.methodLink RX2 137 yX2_hasJoined, Cond.instanceMethod yX2_hasJoined, Cond.selects RX2 yX2_hasJoined yX2_hasJoined, Cond.code yX2_hasJoined cX2_hasJoined 3 (some .boolean), Cond.methodLink RX2 43 yX2_reportToHeads, Cond.instanceMethod yX2_reportToHeads, Cond.selects RX2 yX2_reportToHeads yX2_reportToHeads, Cond.code yX2_reportToHeads cX2_reportToHeads 2 none, Cond.methodLink RX2 144 yX2_reportTo, Cond.instanceMethod yX2_reportTo, Cond.selects RX2 yX2_reportTo yX2_reportTo, Cond.code yX2_reportTo cX2_reportTo 5 none, Cond.fieldLink RX2 151 "ClusterField$Sensor" "readings" "I", Cond.methodLink RX2 147 yX2_sends]
def wsX4_forecastDeath_r8 : List Cond := [Cond.instanceMethod yX2_sends, Cond.selects RX2 yX2_sends yX2_sends, Cond.code yX2_sends cX2_sends 3 (some .boolean), Cond.methodLink RX2 46 yX2_addOwnReadings, Cond.instanceMethod yX2_addOwnReadings, Cond.selects RX2 yX2_addOwnReadings yX2_addOwnReadings, Cond.code yX2_addOwnReadings cX2_addOwnReadings 3 none, Cond.methodLink RX2 49 yX2_deliver, Cond.instanceMethod yX2_deliver, Cond.selects RX2 yX2_deliver yX2_deliver, Cond.code yX2_deliver cX2_deliver 1 none, Cond.methodLink RX2 154 yX2_deliverThroughRelay, Cond.instanceMethod yX2_deliverThroughRelay, Cond.selects RX2 yX2_deliverThroughRelay yX2_deliverThroughRelay, Cond.code yX2_deliverThroughRelay cX2_deliverThroughRelay 5 none, Cond.methodLink RX2 170 yX1_has, Cond.methodLink RX2 157 yX2_deliverDirectly, Cond.instanceMethod yX2_deliverDirectly, Cond.selects RX2 yX2_deliverDirectly yX2_deliverDirectly, Cond.code yX2_deliverDirectly cX2_deliverDirectly 3 none]
def wsX4_forecastDeath : List Cond := .code yX4_forecastDeath cX4_forecastDeath 3 (some .int) :: ((wsX4_forecastDeath_r1 ++ (wsX4_forecastDeath_r2 ++ (wsX4_forecastDeath_r3 ++ (wsX4_forecastDeath_r4 ++ (wsX4_forecastDeath_r5 ++ (wsX4_forecastDeath_r6 ++ (wsX4_forecastDeath_r7 ++ wsX4_forecastDeath_r8))))))) ++ wsX40 ++ wsX10 ++ wsX30 ++ wsX20)
def wsX4_forecastDelivered_r1 : List Cond := [Cond.fieldLink RX4 25 "ClusterField" "trial" "LClusterField$Network;", Cond.fieldLink RX4 10 "ClusterField" "network" "LClusterField$Network;", Cond.fieldLink RX4 28 "ClusterField" "trialPlay" "LClusterField$Rounds;", Cond.fieldLink RX4 134 "ClusterField$Network" "allReadings" "I", Cond.methodLink RX4 46 yX4_inRange, Cond.static yX4_inRange, Cond.initialized RX4, Cond.code yX4_inRange cX4_inRange 3 (some .boolean), Cond.methodLink RX4 153 yX1_copyFrom, Cond.instanceMethod yX1_copyFrom, Cond.selects RX1 yX1_copyFrom yX1_copyFrom, Cond.initialized RX1, Cond.code yX1_copyFrom cX1_copyFrom 3 none, Cond.fieldLink RX1 41 "ClusterField$Network" "count" "I", Cond.fieldLink RX1 11 "ClusterField$Network" "sensors" "[LClusterField$Sensor;", Cond.fieldLink RX1 17 "ClusterField$Network" "settings" "[I", Cond.methodLink RX1 35 arraycopyName, Cond.native arraycopyName, Cond.static arraycopyName, Cond.initialized "java/lang/System", Cond.fieldLink RX1 21 "ClusterField$Network" "baseX" "I", Cond.fieldLink RX1 25 "ClusterField$Network" "baseY" "I", Cond.fieldLink RX1 28 "ClusterField$Network" "generator" "I", Cond.fieldLink RX1 48 "ClusterField$Network" "round" "I"]
def wsX4_forecastDelivered_r2 : List Cond := [Cond.fieldLink RX1 51 "ClusterField$Network" "lastHeads" "I", Cond.fieldLink RX1 54 "ClusterField$Network" "lastReadings" "I", Cond.fieldLink RX1 57 "ClusterField$Network" "allReadings" "I", Cond.fieldLink RX1 60 "ClusterField$Network" "paid" "I", Cond.methodLink RX1 44 yX3_copyFrom, Cond.instanceMethod yX3_copyFrom, Cond.selects RX3 yX3_copyFrom yX3_copyFrom, Cond.initialized RX3, Cond.code yX3_copyFrom cX3_copyFrom 2 none, Cond.fieldLink RX3 9 "ClusterField$Sensor" "x" "I", Cond.fieldLink RX3 15 "ClusterField$Sensor" "y" "I", Cond.fieldLink RX3 18 "ClusterField$Sensor" "battery" "I", Cond.fieldLink RX3 21 "ClusterField$Sensor" "alive" "Z", Cond.fieldLink RX3 25 "ClusterField$Sensor" "eligible" "Z", Cond.fieldLink RX3 28 "ClusterField$Sensor" "headRounds" "I", Cond.fieldLink RX3 31 "ClusterField$Sensor" "deathRound" "I", Cond.fieldLink RX3 37 "ClusterField$Sensor" "head" "I", Cond.fieldLink RX3 40 "ClusterField$Sensor" "slot" "I", Cond.methodLink RX4 106 yX2_perform, Cond.instanceMethod yX2_perform, Cond.selects RX2 yX2_perform yX2_perform, Cond.initialized RX2, Cond.code yX2_perform cX2_perform 3 (some .int), Cond.fieldLink RX2 9 "ClusterField$Rounds" "net" "LClusterField$Network;"]
def wsX4_forecastDelivered_r3 : List Cond := [Cond.methodLink RX2 15 yX1_countAlive, Cond.instanceMethod yX1_countAlive, Cond.selects RX1 yX1_countAlive yX1_countAlive, Cond.code yX1_countAlive cX1_countAlive 3 (some .int), Cond.fieldLink RX1 63 "ClusterField$Sensor" "alive" "Z", Cond.methodLink RX2 21 yX2_performOne, Cond.instanceMethod yX2_performOne, Cond.selects RX2 yX2_performOne yX2_performOne, Cond.code yX2_performOne cX2_performOne 1 none, Cond.fieldLink RX2 33 "ClusterField$Network" "lastHeads" "I", Cond.fieldLink RX2 52 "ClusterField$Network" "allReadings" "I", Cond.fieldLink RX2 55 "ClusterField$Network" "lastReadings" "I", Cond.fieldLink RX2 58 "ClusterField$Network" "round" "I", Cond.methodLink RX2 24 yX2_begin, Cond.instanceMethod yX2_begin, Cond.selects RX2 yX2_begin yX2_begin, Cond.code yX2_begin cX2_begin 4 none, Cond.fieldLink RX2 64 "ClusterField$Network" "count" "I", Cond.fieldLink RX2 67 "ClusterField$Network" "sensors" "[LClusterField$Sensor;", Cond.fieldLink RX2 76 "ClusterField$Sensor" "eligible" "Z", Cond.methodLink RX2 61 yX1_phase, Cond.instanceMethod yX1_phase, Cond.selects RX1 yX1_phase yX1_phase, Cond.code yX1_phase cX1_phase 2 (some .int)]
def wsX4_forecastDelivered_r4 : List Cond := [Cond.methodLink RX2 71 yX3_beginRound, Cond.instanceMethod yX3_beginRound, Cond.selects RX3 yX3_beginRound yX3_beginRound, Cond.code yX3_beginRound cX3_beginRound 1 none, Cond.fieldLink RX3 43 "ClusterField$Sensor" "elected" "Z", Cond.fieldLink RX3 46 "ClusterField$Sensor" "readings" "I", Cond.methodLink RX2 27 yX2_elect, Cond.instanceMethod yX2_elect, Cond.selects RX2 yX2_elect yX2_elect, Cond.code yX2_elect cX2_elect 4 none, Cond.fieldLink RX2 80 "ClusterField$Network" "settings" "[I", Cond.fieldLink RX2 84 "ClusterField$Sensor" "alive" "Z", Cond.fieldLink RX2 90 "ClusterField$Sensor" "elected" "Z", Cond.methodLink RX2 87 yX2_draw, Cond.instanceMethod yX2_draw, Cond.selects RX2 yX2_draw yX2_draw, Cond.code yX2_draw cX2_draw 3 (some .int), Cond.fieldLink RX2 93 "ClusterField$Network" "generator" "I", Cond.constantLong RX2 96 (1103515245), Cond.constantLong RX2 98 (12345), Cond.constantLong RX2 100 (2147483648), Cond.constant RX2 102 (65536), Cond.methodLink RX2 30 yX2_announce, Cond.instanceMethod yX2_announce]
def wsX4_forecastDelivered_r5 : List Cond := [Cond.selects RX2 yX2_announce yX2_announce, Cond.code yX2_announce cX2_announce 3 none, Cond.fieldLink RX2 107 "ClusterField$Sensor" "head" "I", Cond.fieldLink RX2 110 "ClusterField$Sensor" "headRounds" "I", Cond.methodLink RX2 103 yX2_pays, Cond.instanceMethod yX2_pays, Cond.selects RX2 yX2_pays yX2_pays, Cond.code yX2_pays cX2_pays 3 (some .boolean), Cond.fieldLink RX2 177 "ClusterField$Sensor" "battery" "I", Cond.fieldLink RX2 180 "ClusterField$Sensor" "deathRound" "I", Cond.fieldLink RX2 183 "ClusterField$Network" "paid" "I", Cond.methodLink RX2 37 yX2_reportToBase, Cond.instanceMethod yX2_reportToBase, Cond.selects RX2 yX2_reportToBase yX2_reportToBase, Cond.code yX2_reportToBase cX2_reportToBase 3 none, Cond.methodLink RX2 160 yX2_sendToBase, Cond.instanceMethod yX2_sendToBase, Cond.selects RX2 yX2_sendToBase yX2_sendToBase, Cond.code yX2_sendToBase cX2_sendToBase 3 none, Cond.fieldLink RX2 164 "ClusterField$Network" "baseX" "I", Cond.fieldLink RX2 167 "ClusterField$Network" "baseY" "I", Cond.methodLink RX2 134 yX3_distanceTo, Cond.instanceMethod yX3_distanceTo, Cond.selects RX3 yX3_distanceTo yX3_distanceTo]
def wsX4_forecastDelivered_r6 : List Cond := [Cond.code yX3_distanceTo cX3_distanceTo 5 (some .int), Cond.methodLink RX2 173 yX1_costOver, Cond.instanceMethod yX1_costOver, Cond.selects RX1 yX1_costOver yX1_costOver, Cond.code yX1_costOver cX1_costOver 3 (some .int), Cond.methodLink RX2 40 yX2_join, Cond.instanceMethod yX2_join, Cond.selects RX2 yX2_join yX2_join, Cond.code yX2_join cX2_join 3 none, Cond.fieldLink RX2 113 "ClusterField$Sensor" "x" "I", Cond.fieldLink RX2 116 "ClusterField$Sensor" "y" "I", Cond.methodLink RX2 119 yX2_nearestHead, Cond.instanceMethod yX2_nearestHead, Cond.selects RX2 yX2_nearestHead yX2_nearestHead, Cond.code yX2_nearestHead cX2_nearestHead 7 (some .int), Cond.methodLink RX2 131 yX2_isLivingHead, Cond.instanceMethod yX2_isLivingHead, Cond.selects RX2 yX2_isLivingHead yX2_isLivingHead, Cond.code yX2_isLivingHead cX2_isLivingHead 3 (some .boolean), Cond.methodLink RX2 123 yX2_isHead, Cond.instanceMethod yX2_isHead, Cond.selects RX2 yX2_isHead yX2_isHead, Cond.code yX2_isHead cX2_isHead 2 (some .boolean), Cond.methodLink RX2 127 yX2_giveSlots]
def wsX4_forecastDelivered_r7 : List Cond := [Cond.instanceMethod yX2_giveSlots, Cond.selects RX2 yX2_giveSlots yX2_giveSlots, Cond.code yX2_giveSlots cX2_giveSlots 4 none, Cond.fieldLink RX2 141 "ClusterField$Sensor" "slot" "I", Cond.methodLink RX2 137 yX2_hasJoined, Cond.instanceMethod yX2_hasJoined, Cond.selects RX2 yX2_hasJoined yX2_hasJoined, Cond.code yX2_hasJoined cX2_hasJoined 3 (some .boolean), Cond.methodLink RX2 43 yX2_reportToHeads, Cond.instanceMethod yX2_reportToHeads, Cond.selects RX2 yX2_reportToHeads yX2_reportToHeads, Cond.code yX2_reportToHeads cX2_reportToHeads 2 none, Cond.methodLink RX2 144 yX2_reportTo, Cond.instanceMethod yX2_reportTo, Cond.selects RX2 yX2_reportTo yX2_reportTo, Cond.code yX2_reportTo cX2_reportTo 5 none, Cond.fieldLink RX2 151 "ClusterField$Sensor" "readings" "I", Cond.methodLink RX2 147 yX2_sends, Cond.instanceMethod yX2_sends, Cond.selects RX2 yX2_sends yX2_sends, Cond.code yX2_sends cX2_sends 3 (some .boolean), Cond.methodLink RX2 46 yX2_addOwnReadings, Cond.instanceMethod yX2_addOwnReadings, Cond.selects RX2 yX2_addOwnReadings yX2_addOwnReadings]
def wsX4_forecastDelivered_r8 : List Cond := [Cond.code yX2_addOwnReadings cX2_addOwnReadings 3 none, Cond.methodLink RX2 49 yX2_deliver, Cond.instanceMethod yX2_deliver, Cond.selects RX2 yX2_deliver yX2_deliver, Cond.code yX2_deliver cX2_deliver 1 none, Cond.methodLink RX2 154 yX2_deliverThroughRelay, Cond.instanceMethod yX2_deliverThroughRelay, Cond.selects RX2 yX2_deliverThroughRelay yX2_deliverThroughRelay, Cond.code yX2_deliverThroughRelay cX2_deliverThroughRelay 5 none, Cond.methodLink RX2 170 yX1_has, Cond.instanceMethod yX1_has, Cond.selects RX1 yX1_has yX1_has, Cond.code yX1_has cX1_has 2 (some .boolean), Cond.methodLink RX2 157 yX2_deliverDirectly, Cond.instanceMethod yX2_deliverDirectly, Cond.selects RX2 yX2_deliverDirectly yX2_deliverDirectly, Cond.code yX2_deliverDirectly cX2_deliverDirectly 3 none]
def wsX4_forecastDelivered : List Cond := .code yX4_forecastDelivered cX4_forecastDelivered 2 (some .int) :: ((wsX4_forecastDelivered_r1 ++ (wsX4_forecastDelivered_r2 ++ (wsX4_forecastDelivered_r3 ++ (wsX4_forecastDelivered_r4 ++ (wsX4_forecastDelivered_r5 ++ (wsX4_forecastDelivered_r6 ++ (wsX4_forecastDelivered_r7 ++ wsX4_forecastDelivered_r8))))))) ++ wsX40 ++ wsX10 ++ wsX30 ++ wsX20)
def wsX4_undo_r1 : List Cond := [Cond.fieldLink RX4 34 "ClusterField" "history" "LClusterField$History;", Cond.fieldLink RX4 156 "ClusterField$History" "depth" "I", Cond.fieldLink RX4 10 "ClusterField" "network" "LClusterField$Network;", Cond.methodLink RX4 159 yX0_popInto, Cond.instanceMethod yX0_popInto, Cond.selects RX0 yX0_popInto yX0_popInto, Cond.initialized RX0, Cond.code yX0_popInto cX0_popInto 2 none, Cond.fieldLink RX0 16 "ClusterField$History" "depth" "I", Cond.fieldLink RX0 11 "ClusterField$History" "saved" "[LClusterField$Network;", Cond.methodLink RX0 23 yX1_copyFrom, Cond.instanceMethod yX1_copyFrom, Cond.selects RX1 yX1_copyFrom yX1_copyFrom, Cond.initialized RX1, Cond.code yX1_copyFrom cX1_copyFrom 3 none, Cond.fieldLink RX1 41 "ClusterField$Network" "count" "I", Cond.fieldLink RX1 11 "ClusterField$Network" "sensors" "[LClusterField$Sensor;", Cond.fieldLink RX1 17 "ClusterField$Network" "settings" "[I", Cond.methodLink RX1 35 arraycopyName, Cond.native arraycopyName, Cond.static arraycopyName, Cond.initialized "java/lang/System", Cond.fieldLink RX1 21 "ClusterField$Network" "baseX" "I", Cond.fieldLink RX1 25 "ClusterField$Network" "baseY" "I"]
def wsX4_undo_r2 : List Cond := [Cond.fieldLink RX1 28 "ClusterField$Network" "generator" "I", Cond.fieldLink RX1 48 "ClusterField$Network" "round" "I", Cond.fieldLink RX1 51 "ClusterField$Network" "lastHeads" "I", Cond.fieldLink RX1 54 "ClusterField$Network" "lastReadings" "I", Cond.fieldLink RX1 57 "ClusterField$Network" "allReadings" "I", Cond.fieldLink RX1 60 "ClusterField$Network" "paid" "I", Cond.methodLink RX1 44 yX3_copyFrom, Cond.instanceMethod yX3_copyFrom, Cond.selects RX3 yX3_copyFrom yX3_copyFrom, Cond.initialized RX3, Cond.code yX3_copyFrom cX3_copyFrom 2 none, Cond.fieldLink RX3 9 "ClusterField$Sensor" "x" "I", Cond.fieldLink RX3 15 "ClusterField$Sensor" "y" "I", Cond.fieldLink RX3 18 "ClusterField$Sensor" "battery" "I", Cond.fieldLink RX3 21 "ClusterField$Sensor" "alive" "Z", Cond.fieldLink RX3 25 "ClusterField$Sensor" "eligible" "Z", Cond.fieldLink RX3 28 "ClusterField$Sensor" "headRounds" "I", Cond.fieldLink RX3 31 "ClusterField$Sensor" "deathRound" "I", Cond.fieldLink RX3 37 "ClusterField$Sensor" "head" "I", Cond.fieldLink RX3 40 "ClusterField$Sensor" "slot" "I"]
def wsX4_undo : List Cond := .code yX4_undo cX4_undo 1 (some .int) :: ((wsX4_undo_r1 ++ wsX4_undo_r2) ++ wsX40 ++ wsX00 ++ wsX10 ++ wsX30)
def wsX4_undoDepth : List Cond := .code yX4_undoDepth cX4_undoDepth 1 (some .int) :: ([.fieldLink RX4 34 "ClusterField" "history" "LClusterField$History;", .fieldLink RX4 156 "ClusterField$History" "depth" "I"] ++ wsX40 ++ wsX00)
def wsX4_save_r1 : List Cond := [Cond.fieldLink RX4 38 "ClusterField" "snapshots" "[LClusterField$Network;", Cond.fieldLink RX4 10 "ClusterField" "network" "LClusterField$Network;", Cond.fieldLink RX4 42 "ClusterField" "snapshotFilled" "[Z", Cond.fieldLink RX4 51 "ClusterField$Network" "count" "I", Cond.methodLink RX4 46 yX4_inRange, Cond.static yX4_inRange, Cond.initialized RX4, Cond.code yX4_inRange cX4_inRange 3 (some .boolean), Cond.methodLink RX4 153 yX1_copyFrom, Cond.instanceMethod yX1_copyFrom, Cond.selects RX1 yX1_copyFrom yX1_copyFrom, Cond.initialized RX1, Cond.code yX1_copyFrom cX1_copyFrom 3 none, Cond.fieldLink RX1 41 "ClusterField$Network" "count" "I", Cond.fieldLink RX1 11 "ClusterField$Network" "sensors" "[LClusterField$Sensor;", Cond.fieldLink RX1 17 "ClusterField$Network" "settings" "[I", Cond.methodLink RX1 35 arraycopyName, Cond.native arraycopyName, Cond.static arraycopyName, Cond.initialized "java/lang/System", Cond.fieldLink RX1 21 "ClusterField$Network" "baseX" "I", Cond.fieldLink RX1 25 "ClusterField$Network" "baseY" "I", Cond.fieldLink RX1 28 "ClusterField$Network" "generator" "I", Cond.fieldLink RX1 48 "ClusterField$Network" "round" "I"]
def wsX4_save_r2 : List Cond := [Cond.fieldLink RX1 51 "ClusterField$Network" "lastHeads" "I", Cond.fieldLink RX1 54 "ClusterField$Network" "lastReadings" "I", Cond.fieldLink RX1 57 "ClusterField$Network" "allReadings" "I", Cond.fieldLink RX1 60 "ClusterField$Network" "paid" "I", Cond.methodLink RX1 44 yX3_copyFrom, Cond.instanceMethod yX3_copyFrom, Cond.selects RX3 yX3_copyFrom yX3_copyFrom, Cond.initialized RX3, Cond.code yX3_copyFrom cX3_copyFrom 2 none, Cond.fieldLink RX3 9 "ClusterField$Sensor" "x" "I", Cond.fieldLink RX3 15 "ClusterField$Sensor" "y" "I", Cond.fieldLink RX3 18 "ClusterField$Sensor" "battery" "I", Cond.fieldLink RX3 21 "ClusterField$Sensor" "alive" "Z", Cond.fieldLink RX3 25 "ClusterField$Sensor" "eligible" "Z", Cond.fieldLink RX3 28 "ClusterField$Sensor" "headRounds" "I", Cond.fieldLink RX3 31 "ClusterField$Sensor" "deathRound" "I", Cond.fieldLink RX3 37 "ClusterField$Sensor" "head" "I", Cond.fieldLink RX3 40 "ClusterField$Sensor" "slot" "I"]
def wsX4_save : List Cond := .code yX4_save cX4_save 2 (some .int) :: ((wsX4_save_r1 ++ wsX4_save_r2) ++ wsX40 ++ wsX10 ++ wsX30)
def wsX4_restore_r1 : List Cond := [Cond.fieldLink RX4 42 "ClusterField" "snapshotFilled" "[Z", Cond.fieldLink RX4 10 "ClusterField" "network" "LClusterField$Network;", Cond.fieldLink RX4 38 "ClusterField" "snapshots" "[LClusterField$Network;", Cond.fieldLink RX4 34 "ClusterField" "history" "LClusterField$History;", Cond.fieldLink RX4 156 "ClusterField$History" "depth" "I", Cond.fieldLink RX4 51 "ClusterField$Network" "count" "I", Cond.methodLink RX4 46 yX4_inRange, Cond.static yX4_inRange, Cond.initialized RX4, Cond.code yX4_inRange cX4_inRange 3 (some .boolean), Cond.methodLink RX4 153 yX1_copyFrom, Cond.instanceMethod yX1_copyFrom, Cond.selects RX1 yX1_copyFrom yX1_copyFrom, Cond.initialized RX1, Cond.code yX1_copyFrom cX1_copyFrom 3 none, Cond.fieldLink RX1 41 "ClusterField$Network" "count" "I", Cond.fieldLink RX1 11 "ClusterField$Network" "sensors" "[LClusterField$Sensor;", Cond.fieldLink RX1 17 "ClusterField$Network" "settings" "[I", Cond.methodLink RX1 35 arraycopyName, Cond.native arraycopyName, Cond.static arraycopyName, Cond.initialized "java/lang/System", Cond.fieldLink RX1 21 "ClusterField$Network" "baseX" "I", Cond.fieldLink RX1 25 "ClusterField$Network" "baseY" "I"]
def wsX4_restore_r2 : List Cond := [Cond.fieldLink RX1 28 "ClusterField$Network" "generator" "I", Cond.fieldLink RX1 48 "ClusterField$Network" "round" "I", Cond.fieldLink RX1 51 "ClusterField$Network" "lastHeads" "I", Cond.fieldLink RX1 54 "ClusterField$Network" "lastReadings" "I", Cond.fieldLink RX1 57 "ClusterField$Network" "allReadings" "I", Cond.fieldLink RX1 60 "ClusterField$Network" "paid" "I", Cond.methodLink RX1 44 yX3_copyFrom, Cond.instanceMethod yX3_copyFrom, Cond.selects RX3 yX3_copyFrom yX3_copyFrom, Cond.initialized RX3, Cond.code yX3_copyFrom cX3_copyFrom 2 none, Cond.fieldLink RX3 9 "ClusterField$Sensor" "x" "I", Cond.fieldLink RX3 15 "ClusterField$Sensor" "y" "I", Cond.fieldLink RX3 18 "ClusterField$Sensor" "battery" "I", Cond.fieldLink RX3 21 "ClusterField$Sensor" "alive" "Z", Cond.fieldLink RX3 25 "ClusterField$Sensor" "eligible" "Z", Cond.fieldLink RX3 28 "ClusterField$Sensor" "headRounds" "I", Cond.fieldLink RX3 31 "ClusterField$Sensor" "deathRound" "I", Cond.fieldLink RX3 37 "ClusterField$Sensor" "head" "I", Cond.fieldLink RX3 40 "ClusterField$Sensor" "slot" "I"]
def wsX4_restore : List Cond := .code yX4_restore cX4_restore 2 (some .int) :: ((wsX4_restore_r1 ++ wsX4_restore_r2) ++ wsX40 ++ wsX00 ++ wsX10 ++ wsX30)
def wsX5_init : List Cond := .code yX5_init cX5_init 1 none :: ([.methodLink RX5 1 objectInit, .instanceMethod objectInit, .code objectInit ⟨#[0xb1]⟩ 1 none, .arrayClass .int, .fieldLink RX5 7 "ClusterFieldModel" "s" "[I", .fieldLink RX5 13 "ClusterFieldModel" "copy" "[I", .fieldLink RX5 16 "ClusterFieldModel" "history" "[I", .fieldLink RX5 19 "ClusterFieldModel" "slots" "[I", .arrayClass .boolean, .fieldLink RX5 22 "ClusterFieldModel" "isSaved" "[Z", .fieldLink RX5 26 "ClusterFieldModel" "isElected" "[Z", .fieldLink RX5 29 "ClusterFieldModel" "with" "[I"] ++ wsX50)
def wsX5_in : List Cond := .code yX5_in cX5_in 3 (some .boolean) :: ([])
def wsX5_keep : List Cond := .code yX5_keep cX5_keep 2 none :: ([.fieldLink RX5 36 "ClusterFieldModel" "depth" "I", .fieldLink RX5 16 "ClusterFieldModel" "history" "[I", .fieldLink RX5 7 "ClusterFieldModel" "s" "[I"] ++ wsX50)
def wsX5_isSensor : List Cond := .code yX5_isSensor cX5_isSensor 2 (some .boolean) :: ([.fieldLink RX5 7 "ClusterFieldModel" "s" "[I", .methodLink RX5 39 yX5_in, .static yX5_in, .initialized RX5, .code yX5_in cX5_in 3 (some .boolean)] ++ wsX50)
def wsX5_of : List Cond := .code yX5_of cX5_of 3 (some .int) :: ([.fieldLink RX5 7 "ClusterFieldModel" "s" "[I"] ++ wsX50)
def wsX5_set : List Cond := .code yX5_set cX5_set 4 none :: ([.fieldLink RX5 7 "ClusterFieldModel" "s" "[I"] ++ wsX50)
def wsX5_lives : List Cond := .code yX5_lives cX5_lives 2 (some .boolean) :: ([.methodLink RX5 43 yX5_of, .instanceMethod yX5_of, .selects RX5 yX5_of yX5_of, .initialized RX5, .code yX5_of cX5_of 3 (some .int), .fieldLink RX5 7 "ClusterFieldModel" "s" "[I"] ++ wsX50)
def wsX5_setting : List Cond := .code yX5_setting cX5_setting 2 (some .int) :: ([.fieldLink RX5 7 "ClusterFieldModel" "s" "[I"] ++ wsX50)
def wsX5_addSensor : List Cond := .code yX5_addSensor cX5_addSensor 5 (some .int) :: ([.fieldLink RX5 32 "ClusterFieldModel" "thrown" "I", .constant RX5 47 (100000), .fieldLink RX5 7 "ClusterFieldModel" "s" "[I", .methodLink RX5 39 yX5_in, .static yX5_in, .initialized RX5, .code yX5_in cX5_in 3 (some .boolean), .methodLink RX5 48 yX5_keep, .instanceMethod yX5_keep, .selects RX5 yX5_keep yX5_keep, .code yX5_keep cX5_keep 2 none, .fieldLink RX5 36 "ClusterFieldModel" "depth" "I", .fieldLink RX5 16 "ClusterFieldModel" "history" "[I", .methodLink RX5 51 yX5_set, .instanceMethod yX5_set, .selects RX5 yX5_set yX5_set, .code yX5_set cX5_set 4 none] ++ wsX50)
def wsX5_moveBase : List Cond := .code yX5_moveBase cX5_moveBase 4 (some .int) :: ([.fieldLink RX5 32 "ClusterFieldModel" "thrown" "I", .fieldLink RX5 7 "ClusterFieldModel" "s" "[I", .methodLink RX5 39 yX5_in, .static yX5_in, .initialized RX5, .code yX5_in cX5_in 3 (some .boolean), .methodLink RX5 48 yX5_keep, .instanceMethod yX5_keep, .selects RX5 yX5_keep yX5_keep, .code yX5_keep cX5_keep 2 none, .fieldLink RX5 36 "ClusterFieldModel" "depth" "I", .fieldLink RX5 16 "ClusterFieldModel" "history" "[I"] ++ wsX50)
def wsX5_isSettingValue : List Cond := .code yX5_isSettingValue cX5_isSettingValue 2 (some .boolean) :: ([.methodLink RX5 39 yX5_in, .static yX5_in, .initialized RX5, .code yX5_in cX5_in 3 (some .boolean)])
def wsX5_setSetting : List Cond := .code yX5_setSetting cX5_setSetting 4 (some .int) :: ([.fieldLink RX5 32 "ClusterFieldModel" "thrown" "I", .fieldLink RX5 7 "ClusterFieldModel" "s" "[I", .methodLink RX5 55 yX5_isSettingValue, .static yX5_isSettingValue, .initialized RX5, .code yX5_isSettingValue cX5_isSettingValue 2 (some .boolean), .methodLink RX5 39 yX5_in, .static yX5_in, .code yX5_in cX5_in 3 (some .boolean), .methodLink RX5 48 yX5_keep, .instanceMethod yX5_keep, .selects RX5 yX5_keep yX5_keep, .code yX5_keep cX5_keep 2 none, .fieldLink RX5 36 "ClusterFieldModel" "depth" "I", .fieldLink RX5 16 "ClusterFieldModel" "history" "[I"] ++ wsX50)
def wsX5_setGenerator : List Cond := .code yX5_setGenerator cX5_setGenerator 2 (some .int) :: ([.fieldLink RX5 32 "ClusterFieldModel" "thrown" "I", .fieldLink RX5 7 "ClusterFieldModel" "s" "[I", .methodLink RX5 48 yX5_keep, .instanceMethod yX5_keep, .selects RX5 yX5_keep yX5_keep, .initialized RX5, .code yX5_keep cX5_keep 2 none, .fieldLink RX5 36 "ClusterFieldModel" "depth" "I", .fieldLink RX5 16 "ClusterFieldModel" "history" "[I"] ++ wsX50)
def wsX5_charge_r1 : List Cond := [Cond.fieldLink RX5 32 "ClusterFieldModel" "thrown" "I", Cond.constant RX5 47 (100000), Cond.constant RX5 66 (1000000), Cond.methodLink RX5 59 yX5_isSensor, Cond.instanceMethod yX5_isSensor, Cond.selects RX5 yX5_isSensor yX5_isSensor, Cond.initialized RX5, Cond.code yX5_isSensor cX5_isSensor 2 (some .boolean), Cond.fieldLink RX5 7 "ClusterFieldModel" "s" "[I", Cond.methodLink RX5 39 yX5_in, Cond.static yX5_in, Cond.code yX5_in cX5_in 3 (some .boolean), Cond.methodLink RX5 63 yX5_lives, Cond.instanceMethod yX5_lives, Cond.selects RX5 yX5_lives yX5_lives, Cond.code yX5_lives cX5_lives 2 (some .boolean), Cond.methodLink RX5 43 yX5_of, Cond.instanceMethod yX5_of, Cond.selects RX5 yX5_of yX5_of, Cond.code yX5_of cX5_of 3 (some .int), Cond.methodLink RX5 48 yX5_keep, Cond.instanceMethod yX5_keep, Cond.selects RX5 yX5_keep yX5_keep, Cond.code yX5_keep cX5_keep 2 none]
def wsX5_charge_r2 : List Cond := [Cond.fieldLink RX5 36 "ClusterFieldModel" "depth" "I", Cond.fieldLink RX5 16 "ClusterFieldModel" "history" "[I", Cond.methodLink RX5 51 yX5_set, Cond.instanceMethod yX5_set, Cond.selects RX5 yX5_set yX5_set, Cond.code yX5_set cX5_set 4 none]
def wsX5_charge : List Cond := .code yX5_charge cX5_charge 3 (some .int) :: ((wsX5_charge_r1 ++ wsX5_charge_r2) ++ wsX50)
def wsX5_distanceTo : List Cond := .code yX5_distanceTo cX5_distanceTo 6 (some .int) :: ([.methodLink RX5 43 yX5_of, .instanceMethod yX5_of, .selects RX5 yX5_of yX5_of, .initialized RX5, .code yX5_of cX5_of 3 (some .int), .fieldLink RX5 7 "ClusterFieldModel" "s" "[I"] ++ wsX50)
def wsX5_distance : List Cond := .code yX5_distance cX5_distance 3 (some .int) :: ([.methodLink RX5 43 yX5_of, .instanceMethod yX5_of, .selects RX5 yX5_of yX5_of, .initialized RX5, .code yX5_of cX5_of 3 (some .int), .fieldLink RX5 7 "ClusterFieldModel" "s" "[I", .methodLink RX5 67 yX5_distanceTo, .instanceMethod yX5_distanceTo, .selects RX5 yX5_distanceTo yX5_distanceTo, .code yX5_distanceTo cX5_distanceTo 6 (some .int)] ++ wsX50)
def wsX5_distanceToBase : List Cond := .code yX5_distanceToBase cX5_distanceToBase 2 (some .int) :: ([.fieldLink RX5 7 "ClusterFieldModel" "s" "[I", .methodLink RX5 67 yX5_distanceTo, .instanceMethod yX5_distanceTo, .selects RX5 yX5_distanceTo yX5_distanceTo, .initialized RX5, .code yX5_distanceTo cX5_distanceTo 6 (some .int), .methodLink RX5 43 yX5_of, .instanceMethod yX5_of, .selects RX5 yX5_of yX5_of, .code yX5_of cX5_of 3 (some .int)] ++ wsX50)
def wsX5_sendingCost : List Cond := .code yX5_sendingCost cX5_sendingCost 2 (some .int) :: ([.methodLink RX5 71 yX5_setting, .instanceMethod yX5_setting, .selects RX5 yX5_setting yX5_setting, .initialized RX5, .code yX5_setting cX5_setting 2 (some .int), .fieldLink RX5 7 "ClusterFieldModel" "s" "[I"] ++ wsX50)
def wsX5_pays : List Cond := .code yX5_pays cX5_pays 3 (some .boolean) :: ([.fieldLink RX5 7 "ClusterFieldModel" "s" "[I", .methodLink RX5 43 yX5_of, .instanceMethod yX5_of, .selects RX5 yX5_of yX5_of, .initialized RX5, .code yX5_of cX5_of 3 (some .int), .methodLink RX5 51 yX5_set, .instanceMethod yX5_set, .selects RX5 yX5_set yX5_set, .code yX5_set cX5_set 4 none] ++ wsX50)
def wsX5_takesIn : List Cond := .code yX5_takesIn cX5_takesIn 2 (some .boolean) :: ([.methodLink RX5 63 yX5_lives, .instanceMethod yX5_lives, .selects RX5 yX5_lives yX5_lives, .initialized RX5, .code yX5_lives cX5_lives 2 (some .boolean), .methodLink RX5 43 yX5_of, .instanceMethod yX5_of, .selects RX5 yX5_of yX5_of, .code yX5_of cX5_of 3 (some .int), .fieldLink RX5 7 "ClusterFieldModel" "s" "[I", .methodLink RX5 71 yX5_setting, .instanceMethod yX5_setting, .selects RX5 yX5_setting yX5_setting, .code yX5_setting cX5_setting 2 (some .int), .methodLink RX5 75 yX5_pays, .instanceMethod yX5_pays, .selects RX5 yX5_pays yX5_pays, .code yX5_pays cX5_pays 3 (some .boolean), .methodLink RX5 51 yX5_set, .instanceMethod yX5_set, .selects RX5 yX5_set yX5_set, .code yX5_set cX5_set 4 none] ++ wsX50)
def wsX5_draw : List Cond := .code yX5_draw cX5_draw 1 (some .int) :: ([.fieldLink RX5 7 "ClusterFieldModel" "s" "[I", .constant RX5 78 (1103515245), .constant RX5 79 (2147483647), .constant RX5 80 (65536)] ++ wsX50)
def wsX5_isHead : List Cond := .code yX5_isHead cX5_isHead 2 (some .boolean) :: ([.methodLink RX5 43 yX5_of, .instanceMethod yX5_of, .selects RX5 yX5_of yX5_of, .initialized RX5, .code yX5_of cX5_of 3 (some .int), .fieldLink RX5 7 "ClusterFieldModel" "s" "[I"] ++ wsX50)
def wsX5_elect_r1 : List Cond := [Cond.fieldLink RX5 7 "ClusterFieldModel" "s" "[I", Cond.fieldLink RX5 29 "ClusterFieldModel" "with" "[I", Cond.fieldLink RX5 26 "ClusterFieldModel" "isElected" "[Z", Cond.methodLink RX5 71 yX5_setting, Cond.instanceMethod yX5_setting, Cond.selects RX5 yX5_setting yX5_setting, Cond.initialized RX5, Cond.code yX5_setting cX5_setting 2 (some .int), Cond.methodLink RX5 43 yX5_of, Cond.instanceMethod yX5_of, Cond.selects RX5 yX5_of yX5_of, Cond.code yX5_of cX5_of 3 (some .int), Cond.methodLink RX5 51 yX5_set, Cond.instanceMethod yX5_set, Cond.selects RX5 yX5_set yX5_set, Cond.code yX5_set cX5_set 4 none, Cond.methodLink RX5 63 yX5_lives, Cond.instanceMethod yX5_lives, Cond.selects RX5 yX5_lives yX5_lives, Cond.code yX5_lives cX5_lives 2 (some .boolean), Cond.methodLink RX5 81 yX5_draw, Cond.instanceMethod yX5_draw, Cond.selects RX5 yX5_draw yX5_draw, Cond.code yX5_draw cX5_draw 1 (some .int)]
def wsX5_elect_r2 : List Cond := [Cond.constant RX5 78 (1103515245), Cond.constant RX5 79 (2147483647), Cond.constant RX5 80 (65536)]
def wsX5_elect : List Cond := .code yX5_elect cX5_elect 3 none :: ((wsX5_elect_r1 ++ wsX5_elect_r2) ++ wsX50)
def wsX5_announce : List Cond := .code yX5_announce cX5_announce 2 none :: ([.fieldLink RX5 7 "ClusterFieldModel" "s" "[I", .fieldLink RX5 26 "ClusterFieldModel" "isElected" "[Z", .methodLink RX5 71 yX5_setting, .instanceMethod yX5_setting, .selects RX5 yX5_setting yX5_setting, .initialized RX5, .code yX5_setting cX5_setting 2 (some .int), .methodLink RX5 75 yX5_pays, .instanceMethod yX5_pays, .selects RX5 yX5_pays yX5_pays, .code yX5_pays cX5_pays 3 (some .boolean), .methodLink RX5 43 yX5_of, .instanceMethod yX5_of, .selects RX5 yX5_of yX5_of, .code yX5_of cX5_of 3 (some .int), .methodLink RX5 51 yX5_set, .instanceMethod yX5_set, .selects RX5 yX5_set yX5_set, .code yX5_set cX5_set 4 none] ++ wsX50)
def wsX5_nearestHead : List Cond := .code yX5_nearestHead cX5_nearestHead 4 (some .int) :: ([.fieldLink RX5 7 "ClusterFieldModel" "s" "[I", .methodLink RX5 85 yX5_isHead, .instanceMethod yX5_isHead, .selects RX5 yX5_isHead yX5_isHead, .initialized RX5, .code yX5_isHead cX5_isHead 2 (some .boolean), .methodLink RX5 43 yX5_of, .instanceMethod yX5_of, .selects RX5 yX5_of yX5_of, .code yX5_of cX5_of 3 (some .int), .methodLink RX5 88 yX5_distance, .instanceMethod yX5_distance, .selects RX5 yX5_distance yX5_distance, .code yX5_distance cX5_distance 3 (some .int), .methodLink RX5 67 yX5_distanceTo, .instanceMethod yX5_distanceTo, .selects RX5 yX5_distanceTo yX5_distanceTo, .code yX5_distanceTo cX5_distanceTo 6 (some .int)] ++ wsX50)
def wsX5_join_r1 : List Cond := [Cond.fieldLink RX5 7 "ClusterFieldModel" "s" "[I", Cond.methodLink RX5 63 yX5_lives, Cond.instanceMethod yX5_lives, Cond.selects RX5 yX5_lives yX5_lives, Cond.initialized RX5, Cond.code yX5_lives cX5_lives 2 (some .boolean), Cond.methodLink RX5 43 yX5_of, Cond.instanceMethod yX5_of, Cond.selects RX5 yX5_of yX5_of, Cond.code yX5_of cX5_of 3 (some .int), Cond.methodLink RX5 85 yX5_isHead, Cond.instanceMethod yX5_isHead, Cond.selects RX5 yX5_isHead yX5_isHead, Cond.code yX5_isHead cX5_isHead 2 (some .boolean), Cond.methodLink RX5 91 yX5_nearestHead, Cond.instanceMethod yX5_nearestHead, Cond.selects RX5 yX5_nearestHead yX5_nearestHead, Cond.code yX5_nearestHead cX5_nearestHead 4 (some .int), Cond.methodLink RX5 88 yX5_distance, Cond.instanceMethod yX5_distance, Cond.selects RX5 yX5_distance yX5_distance, Cond.code yX5_distance cX5_distance 3 (some .int), Cond.methodLink RX5 67 yX5_distanceTo, Cond.instanceMethod yX5_distanceTo]
def wsX5_join_r2 : List Cond := [Cond.selects RX5 yX5_distanceTo yX5_distanceTo, Cond.code yX5_distanceTo cX5_distanceTo 6 (some .int), Cond.methodLink RX5 51 yX5_set, Cond.instanceMethod yX5_set, Cond.selects RX5 yX5_set yX5_set, Cond.code yX5_set cX5_set 4 none]
def wsX5_join : List Cond := .code yX5_join cX5_join 5 none :: ((wsX5_join_r1 ++ wsX5_join_r2) ++ wsX50)
def wsX5_report_r1 : List Cond := [Cond.fieldLink RX5 7 "ClusterFieldModel" "s" "[I", Cond.fieldLink RX5 29 "ClusterFieldModel" "with" "[I", Cond.methodLink RX5 85 yX5_isHead, Cond.instanceMethod yX5_isHead, Cond.selects RX5 yX5_isHead yX5_isHead, Cond.initialized RX5, Cond.code yX5_isHead cX5_isHead 2 (some .boolean), Cond.methodLink RX5 43 yX5_of, Cond.instanceMethod yX5_of, Cond.selects RX5 yX5_of yX5_of, Cond.code yX5_of cX5_of 3 (some .int), Cond.methodLink RX5 63 yX5_lives, Cond.instanceMethod yX5_lives, Cond.selects RX5 yX5_lives yX5_lives, Cond.code yX5_lives cX5_lives 2 (some .boolean), Cond.methodLink RX5 88 yX5_distance, Cond.instanceMethod yX5_distance, Cond.selects RX5 yX5_distance yX5_distance, Cond.code yX5_distance cX5_distance 3 (some .int), Cond.methodLink RX5 67 yX5_distanceTo, Cond.instanceMethod yX5_distanceTo, Cond.selects RX5 yX5_distanceTo yX5_distanceTo, Cond.code yX5_distanceTo cX5_distanceTo 6 (some .int), Cond.methodLink RX5 94 yX5_sendingCost]
def wsX5_report_r2 : List Cond := [Cond.instanceMethod yX5_sendingCost, Cond.selects RX5 yX5_sendingCost yX5_sendingCost, Cond.code yX5_sendingCost cX5_sendingCost 2 (some .int), Cond.methodLink RX5 71 yX5_setting, Cond.instanceMethod yX5_setting, Cond.selects RX5 yX5_setting yX5_setting, Cond.code yX5_setting cX5_setting 2 (some .int), Cond.methodLink RX5 75 yX5_pays, Cond.instanceMethod yX5_pays, Cond.selects RX5 yX5_pays yX5_pays, Cond.code yX5_pays cX5_pays 3 (some .boolean), Cond.methodLink RX5 51 yX5_set, Cond.instanceMethod yX5_set, Cond.selects RX5 yX5_set yX5_set, Cond.code yX5_set cX5_set 4 none, Cond.methodLink RX5 97 yX5_takesIn, Cond.instanceMethod yX5_takesIn, Cond.selects RX5 yX5_takesIn yX5_takesIn, Cond.code yX5_takesIn cX5_takesIn 2 (some .boolean)]
def wsX5_report : List Cond := .code yX5_report cX5_report 4 none :: ((wsX5_report_r1 ++ wsX5_report_r2) ++ wsX50)
def wsX5_deliver_r1 : List Cond := [Cond.fieldLink RX5 7 "ClusterFieldModel" "s" "[I", Cond.fieldLink RX5 29 "ClusterFieldModel" "with" "[I", Cond.methodLink RX5 63 yX5_lives, Cond.instanceMethod yX5_lives, Cond.selects RX5 yX5_lives yX5_lives, Cond.initialized RX5, Cond.code yX5_lives cX5_lives 2 (some .boolean), Cond.methodLink RX5 43 yX5_of, Cond.instanceMethod yX5_of, Cond.selects RX5 yX5_of yX5_of, Cond.code yX5_of cX5_of 3 (some .int), Cond.methodLink RX5 100 yX5_distanceToBase, Cond.instanceMethod yX5_distanceToBase, Cond.selects RX5 yX5_distanceToBase yX5_distanceToBase, Cond.code yX5_distanceToBase cX5_distanceToBase 2 (some .int), Cond.methodLink RX5 67 yX5_distanceTo, Cond.instanceMethod yX5_distanceTo, Cond.selects RX5 yX5_distanceTo yX5_distanceTo, Cond.code yX5_distanceTo cX5_distanceTo 6 (some .int), Cond.methodLink RX5 94 yX5_sendingCost, Cond.instanceMethod yX5_sendingCost, Cond.selects RX5 yX5_sendingCost yX5_sendingCost, Cond.code yX5_sendingCost cX5_sendingCost 2 (some .int), Cond.methodLink RX5 71 yX5_setting]
def wsX5_deliver_r2 : List Cond := [Cond.instanceMethod yX5_setting, Cond.selects RX5 yX5_setting yX5_setting, Cond.code yX5_setting cX5_setting 2 (some .int), Cond.methodLink RX5 75 yX5_pays, Cond.instanceMethod yX5_pays, Cond.selects RX5 yX5_pays yX5_pays, Cond.code yX5_pays cX5_pays 3 (some .boolean), Cond.methodLink RX5 51 yX5_set, Cond.instanceMethod yX5_set, Cond.selects RX5 yX5_set yX5_set, Cond.code yX5_set cX5_set 4 none]
def wsX5_deliver : List Cond := .code yX5_deliver cX5_deliver 2 none :: ((wsX5_deliver_r1 ++ wsX5_deliver_r2) ++ wsX50)
def wsX5_relay : List Cond := .code yX5_relay cX5_relay 3 (some .int) :: ([.fieldLink RX5 7 "ClusterFieldModel" "s" "[I", .methodLink RX5 85 yX5_isHead, .instanceMethod yX5_isHead, .selects RX5 yX5_isHead yX5_isHead, .initialized RX5, .code yX5_isHead cX5_isHead 2 (some .boolean), .methodLink RX5 43 yX5_of, .instanceMethod yX5_of, .selects RX5 yX5_of yX5_of, .code yX5_of cX5_of 3 (some .int), .methodLink RX5 63 yX5_lives, .instanceMethod yX5_lives, .selects RX5 yX5_lives yX5_lives, .code yX5_lives cX5_lives 2 (some .boolean), .methodLink RX5 100 yX5_distanceToBase, .instanceMethod yX5_distanceToBase, .selects RX5 yX5_distanceToBase yX5_distanceToBase, .code yX5_distanceToBase cX5_distanceToBase 2 (some .int), .methodLink RX5 67 yX5_distanceTo, .instanceMethod yX5_distanceTo, .selects RX5 yX5_distanceTo yX5_distanceTo, .code yX5_distanceTo cX5_distanceTo 6 (some .int)] ++ wsX50)
def wsX5_deliverByRelay_r1 : List Cond := [Cond.fieldLink RX5 7 "ClusterFieldModel" "s" "[I", Cond.fieldLink RX5 29 "ClusterFieldModel" "with" "[I", Cond.methodLink RX5 103 yX5_relay, Cond.instanceMethod yX5_relay, Cond.selects RX5 yX5_relay yX5_relay, Cond.initialized RX5, Cond.code yX5_relay cX5_relay 3 (some .int), Cond.methodLink RX5 85 yX5_isHead, Cond.instanceMethod yX5_isHead, Cond.selects RX5 yX5_isHead yX5_isHead, Cond.code yX5_isHead cX5_isHead 2 (some .boolean), Cond.methodLink RX5 43 yX5_of, Cond.instanceMethod yX5_of, Cond.selects RX5 yX5_of yX5_of, Cond.code yX5_of cX5_of 3 (some .int), Cond.methodLink RX5 63 yX5_lives, Cond.instanceMethod yX5_lives, Cond.selects RX5 yX5_lives yX5_lives, Cond.code yX5_lives cX5_lives 2 (some .boolean), Cond.methodLink RX5 100 yX5_distanceToBase, Cond.instanceMethod yX5_distanceToBase, Cond.selects RX5 yX5_distanceToBase yX5_distanceToBase, Cond.code yX5_distanceToBase cX5_distanceToBase 2 (some .int), Cond.methodLink RX5 67 yX5_distanceTo]
def wsX5_deliverByRelay_r2 : List Cond := [Cond.instanceMethod yX5_distanceTo, Cond.selects RX5 yX5_distanceTo yX5_distanceTo, Cond.code yX5_distanceTo cX5_distanceTo 6 (some .int), Cond.methodLink RX5 88 yX5_distance, Cond.instanceMethod yX5_distance, Cond.selects RX5 yX5_distance yX5_distance, Cond.code yX5_distance cX5_distance 3 (some .int), Cond.methodLink RX5 94 yX5_sendingCost, Cond.instanceMethod yX5_sendingCost, Cond.selects RX5 yX5_sendingCost yX5_sendingCost, Cond.code yX5_sendingCost cX5_sendingCost 2 (some .int), Cond.methodLink RX5 71 yX5_setting, Cond.instanceMethod yX5_setting, Cond.selects RX5 yX5_setting yX5_setting, Cond.code yX5_setting cX5_setting 2 (some .int), Cond.methodLink RX5 75 yX5_pays, Cond.instanceMethod yX5_pays, Cond.selects RX5 yX5_pays yX5_pays, Cond.code yX5_pays cX5_pays 3 (some .boolean), Cond.methodLink RX5 51 yX5_set, Cond.instanceMethod yX5_set, Cond.selects RX5 yX5_set yX5_set, Cond.code yX5_set cX5_set 4 none, Cond.methodLink RX5 97 yX5_takesIn]
def wsX5_deliverByRelay_r3 : List Cond := [Cond.instanceMethod yX5_takesIn, Cond.selects RX5 yX5_takesIn yX5_takesIn, Cond.code yX5_takesIn cX5_takesIn 2 (some .boolean), Cond.methodLink RX5 106 yX5_deliver, Cond.instanceMethod yX5_deliver, Cond.selects RX5 yX5_deliver yX5_deliver, Cond.code yX5_deliver cX5_deliver 2 none]
def wsX5_deliverByRelay : List Cond := .code yX5_deliverByRelay cX5_deliverByRelay 4 none :: ((wsX5_deliverByRelay_r1 ++ (wsX5_deliverByRelay_r2 ++ wsX5_deliverByRelay_r3)) ++ wsX50)
def wsX5_deliverAlone_r1 : List Cond := [Cond.fieldLink RX5 7 "ClusterFieldModel" "s" "[I", Cond.fieldLink RX5 29 "ClusterFieldModel" "with" "[I", Cond.methodLink RX5 106 yX5_deliver, Cond.instanceMethod yX5_deliver, Cond.selects RX5 yX5_deliver yX5_deliver, Cond.initialized RX5, Cond.code yX5_deliver cX5_deliver 2 none, Cond.methodLink RX5 63 yX5_lives, Cond.instanceMethod yX5_lives, Cond.selects RX5 yX5_lives yX5_lives, Cond.code yX5_lives cX5_lives 2 (some .boolean), Cond.methodLink RX5 43 yX5_of, Cond.instanceMethod yX5_of, Cond.selects RX5 yX5_of yX5_of, Cond.code yX5_of cX5_of 3 (some .int), Cond.methodLink RX5 100 yX5_distanceToBase, Cond.instanceMethod yX5_distanceToBase, Cond.selects RX5 yX5_distanceToBase yX5_distanceToBase, Cond.code yX5_distanceToBase cX5_distanceToBase 2 (some .int), Cond.methodLink RX5 67 yX5_distanceTo, Cond.instanceMethod yX5_distanceTo, Cond.selects RX5 yX5_distanceTo yX5_distanceTo, Cond.code yX5_distanceTo cX5_distanceTo 6 (some .int), Cond.methodLink RX5 94 yX5_sendingCost]
def wsX5_deliverAlone_r2 : List Cond := [Cond.instanceMethod yX5_sendingCost, Cond.selects RX5 yX5_sendingCost yX5_sendingCost, Cond.code yX5_sendingCost cX5_sendingCost 2 (some .int), Cond.methodLink RX5 71 yX5_setting, Cond.instanceMethod yX5_setting, Cond.selects RX5 yX5_setting yX5_setting, Cond.code yX5_setting cX5_setting 2 (some .int), Cond.methodLink RX5 75 yX5_pays, Cond.instanceMethod yX5_pays, Cond.selects RX5 yX5_pays yX5_pays, Cond.code yX5_pays cX5_pays 3 (some .boolean), Cond.methodLink RX5 51 yX5_set, Cond.instanceMethod yX5_set, Cond.selects RX5 yX5_set yX5_set, Cond.code yX5_set cX5_set 4 none]
def wsX5_deliverAlone : List Cond := .code yX5_deliverAlone cX5_deliverAlone 2 none :: ((wsX5_deliverAlone_r1 ++ wsX5_deliverAlone_r2) ++ wsX50)
def wsX5_deliverAll_r1 : List Cond := [Cond.fieldLink RX5 7 "ClusterFieldModel" "s" "[I", Cond.methodLink RX5 85 yX5_isHead, Cond.instanceMethod yX5_isHead, Cond.selects RX5 yX5_isHead yX5_isHead, Cond.initialized RX5, Cond.code yX5_isHead cX5_isHead 2 (some .boolean), Cond.methodLink RX5 43 yX5_of, Cond.instanceMethod yX5_of, Cond.selects RX5 yX5_of yX5_of, Cond.code yX5_of cX5_of 3 (some .int), Cond.methodLink RX5 106 yX5_deliver, Cond.instanceMethod yX5_deliver, Cond.selects RX5 yX5_deliver yX5_deliver, Cond.code yX5_deliver cX5_deliver 2 none, Cond.fieldLink RX5 29 "ClusterFieldModel" "with" "[I", Cond.methodLink RX5 63 yX5_lives, Cond.instanceMethod yX5_lives, Cond.selects RX5 yX5_lives yX5_lives, Cond.code yX5_lives cX5_lives 2 (some .boolean), Cond.methodLink RX5 100 yX5_distanceToBase, Cond.instanceMethod yX5_distanceToBase, Cond.selects RX5 yX5_distanceToBase yX5_distanceToBase, Cond.code yX5_distanceToBase cX5_distanceToBase 2 (some .int), Cond.methodLink RX5 67 yX5_distanceTo]
def wsX5_deliverAll_r2 : List Cond := [Cond.instanceMethod yX5_distanceTo, Cond.selects RX5 yX5_distanceTo yX5_distanceTo, Cond.code yX5_distanceTo cX5_distanceTo 6 (some .int), Cond.methodLink RX5 94 yX5_sendingCost, Cond.instanceMethod yX5_sendingCost, Cond.selects RX5 yX5_sendingCost yX5_sendingCost, Cond.code yX5_sendingCost cX5_sendingCost 2 (some .int), Cond.methodLink RX5 71 yX5_setting, Cond.instanceMethod yX5_setting, Cond.selects RX5 yX5_setting yX5_setting, Cond.code yX5_setting cX5_setting 2 (some .int), Cond.methodLink RX5 75 yX5_pays, Cond.instanceMethod yX5_pays, Cond.selects RX5 yX5_pays yX5_pays, Cond.code yX5_pays cX5_pays 3 (some .boolean), Cond.methodLink RX5 51 yX5_set, Cond.instanceMethod yX5_set, Cond.selects RX5 yX5_set yX5_set, Cond.code yX5_set cX5_set 4 none]
def wsX5_deliverAll : List Cond := .code yX5_deliverAll cX5_deliverAll 2 none :: ((wsX5_deliverAll_r1 ++ wsX5_deliverAll_r2) ++ wsX50)
def wsX5_perform_r1 : List Cond := [Cond.fieldLink RX5 7 "ClusterFieldModel" "s" "[I", Cond.methodLink RX5 110 yX5_elect, Cond.instanceMethod yX5_elect, Cond.selects RX5 yX5_elect yX5_elect, Cond.initialized RX5, Cond.code yX5_elect cX5_elect 3 none, Cond.fieldLink RX5 29 "ClusterFieldModel" "with" "[I", Cond.fieldLink RX5 26 "ClusterFieldModel" "isElected" "[Z", Cond.methodLink RX5 71 yX5_setting, Cond.instanceMethod yX5_setting, Cond.selects RX5 yX5_setting yX5_setting, Cond.code yX5_setting cX5_setting 2 (some .int), Cond.methodLink RX5 43 yX5_of, Cond.instanceMethod yX5_of, Cond.selects RX5 yX5_of yX5_of, Cond.code yX5_of cX5_of 3 (some .int), Cond.methodLink RX5 51 yX5_set, Cond.instanceMethod yX5_set, Cond.selects RX5 yX5_set yX5_set, Cond.code yX5_set cX5_set 4 none, Cond.methodLink RX5 63 yX5_lives, Cond.instanceMethod yX5_lives, Cond.selects RX5 yX5_lives yX5_lives, Cond.code yX5_lives cX5_lives 2 (some .boolean)]
def wsX5_perform_r2 : List Cond := [Cond.methodLink RX5 81 yX5_draw, Cond.instanceMethod yX5_draw, Cond.selects RX5 yX5_draw yX5_draw, Cond.code yX5_draw cX5_draw 1 (some .int), Cond.constant RX5 78 (1103515245), Cond.constant RX5 79 (2147483647), Cond.constant RX5 80 (65536), Cond.methodLink RX5 113 yX5_announce, Cond.instanceMethod yX5_announce, Cond.selects RX5 yX5_announce yX5_announce, Cond.code yX5_announce cX5_announce 2 none, Cond.methodLink RX5 75 yX5_pays, Cond.instanceMethod yX5_pays, Cond.selects RX5 yX5_pays yX5_pays, Cond.code yX5_pays cX5_pays 3 (some .boolean), Cond.methodLink RX5 116 yX5_join, Cond.instanceMethod yX5_join, Cond.selects RX5 yX5_join yX5_join, Cond.code yX5_join cX5_join 5 none, Cond.methodLink RX5 85 yX5_isHead, Cond.instanceMethod yX5_isHead, Cond.selects RX5 yX5_isHead yX5_isHead, Cond.code yX5_isHead cX5_isHead 2 (some .boolean), Cond.methodLink RX5 91 yX5_nearestHead]
def wsX5_perform_r3 : List Cond := [Cond.instanceMethod yX5_nearestHead, Cond.selects RX5 yX5_nearestHead yX5_nearestHead, Cond.code yX5_nearestHead cX5_nearestHead 4 (some .int), Cond.methodLink RX5 88 yX5_distance, Cond.instanceMethod yX5_distance, Cond.selects RX5 yX5_distance yX5_distance, Cond.code yX5_distance cX5_distance 3 (some .int), Cond.methodLink RX5 67 yX5_distanceTo, Cond.instanceMethod yX5_distanceTo, Cond.selects RX5 yX5_distanceTo yX5_distanceTo, Cond.code yX5_distanceTo cX5_distanceTo 6 (some .int), Cond.methodLink RX5 119 yX5_deliverAlone, Cond.instanceMethod yX5_deliverAlone, Cond.selects RX5 yX5_deliverAlone yX5_deliverAlone, Cond.code yX5_deliverAlone cX5_deliverAlone 2 none, Cond.methodLink RX5 106 yX5_deliver, Cond.instanceMethod yX5_deliver, Cond.selects RX5 yX5_deliver yX5_deliver, Cond.code yX5_deliver cX5_deliver 2 none, Cond.methodLink RX5 100 yX5_distanceToBase, Cond.instanceMethod yX5_distanceToBase, Cond.selects RX5 yX5_distanceToBase yX5_distanceToBase, Cond.code yX5_distanceToBase cX5_distanceToBase 2 (some .int), Cond.methodLink RX5 94 yX5_sendingCost]
def wsX5_perform_r4 : List Cond := [Cond.instanceMethod yX5_sendingCost, Cond.selects RX5 yX5_sendingCost yX5_sendingCost, Cond.code yX5_sendingCost cX5_sendingCost 2 (some .int), Cond.methodLink RX5 122 yX5_report, Cond.instanceMethod yX5_report, Cond.selects RX5 yX5_report yX5_report, Cond.code yX5_report cX5_report 4 none, Cond.methodLink RX5 97 yX5_takesIn, Cond.instanceMethod yX5_takesIn, Cond.selects RX5 yX5_takesIn yX5_takesIn, Cond.code yX5_takesIn cX5_takesIn 2 (some .boolean), Cond.methodLink RX5 125 yX5_deliverByRelay, Cond.instanceMethod yX5_deliverByRelay, Cond.selects RX5 yX5_deliverByRelay yX5_deliverByRelay, Cond.code yX5_deliverByRelay cX5_deliverByRelay 4 none, Cond.methodLink RX5 103 yX5_relay, Cond.instanceMethod yX5_relay, Cond.selects RX5 yX5_relay yX5_relay, Cond.code yX5_relay cX5_relay 3 (some .int), Cond.methodLink RX5 128 yX5_deliverAll, Cond.instanceMethod yX5_deliverAll, Cond.selects RX5 yX5_deliverAll yX5_deliverAll, Cond.code yX5_deliverAll cX5_deliverAll 2 none]
def wsX5_perform : List Cond := .code yX5_perform cX5_perform 1 none :: ((wsX5_perform_r1 ++ (wsX5_perform_r2 ++ (wsX5_perform_r3 ++ wsX5_perform_r4))) ++ wsX50)
def wsX5_alive : List Cond := .code yX5_alive cX5_alive 3 (some .int) :: ([.fieldLink RX5 7 "ClusterFieldModel" "s" "[I", .methodLink RX5 43 yX5_of, .instanceMethod yX5_of, .selects RX5 yX5_of yX5_of, .initialized RX5, .code yX5_of cX5_of 3 (some .int)] ++ wsX50)
def wsX5_performMany_r1 : List Cond := [Cond.methodLink RX5 131 yX5_alive, Cond.instanceMethod yX5_alive, Cond.selects RX5 yX5_alive yX5_alive, Cond.initialized RX5, Cond.code yX5_alive cX5_alive 3 (some .int), Cond.fieldLink RX5 7 "ClusterFieldModel" "s" "[I", Cond.methodLink RX5 43 yX5_of, Cond.instanceMethod yX5_of, Cond.selects RX5 yX5_of yX5_of, Cond.code yX5_of cX5_of 3 (some .int), Cond.methodLink RX5 134 yX5_perform, Cond.instanceMethod yX5_perform, Cond.selects RX5 yX5_perform yX5_perform, Cond.code yX5_perform cX5_perform 1 none, Cond.methodLink RX5 110 yX5_elect, Cond.instanceMethod yX5_elect, Cond.selects RX5 yX5_elect yX5_elect, Cond.code yX5_elect cX5_elect 3 none, Cond.fieldLink RX5 29 "ClusterFieldModel" "with" "[I", Cond.fieldLink RX5 26 "ClusterFieldModel" "isElected" "[Z", Cond.methodLink RX5 71 yX5_setting, Cond.instanceMethod yX5_setting, Cond.selects RX5 yX5_setting yX5_setting, Cond.code yX5_setting cX5_setting 2 (some .int)]
def wsX5_performMany_r2 : List Cond := [Cond.methodLink RX5 51 yX5_set, Cond.instanceMethod yX5_set, Cond.selects RX5 yX5_set yX5_set, Cond.code yX5_set cX5_set 4 none, Cond.methodLink RX5 63 yX5_lives, Cond.instanceMethod yX5_lives, Cond.selects RX5 yX5_lives yX5_lives, Cond.code yX5_lives cX5_lives 2 (some .boolean), Cond.methodLink RX5 81 yX5_draw, Cond.instanceMethod yX5_draw, Cond.selects RX5 yX5_draw yX5_draw, Cond.code yX5_draw cX5_draw 1 (some .int), Cond.constant RX5 78 (1103515245), Cond.constant RX5 79 (2147483647), Cond.constant RX5 80 (65536), Cond.methodLink RX5 113 yX5_announce, Cond.instanceMethod yX5_announce, Cond.selects RX5 yX5_announce yX5_announce, Cond.code yX5_announce cX5_announce 2 none, Cond.methodLink RX5 75 yX5_pays, Cond.instanceMethod yX5_pays, Cond.selects RX5 yX5_pays yX5_pays, Cond.code yX5_pays cX5_pays 3 (some .boolean), Cond.methodLink RX5 116 yX5_join]
def wsX5_performMany_r3 : List Cond := [Cond.instanceMethod yX5_join, Cond.selects RX5 yX5_join yX5_join, Cond.code yX5_join cX5_join 5 none, Cond.methodLink RX5 85 yX5_isHead, Cond.instanceMethod yX5_isHead, Cond.selects RX5 yX5_isHead yX5_isHead, Cond.code yX5_isHead cX5_isHead 2 (some .boolean), Cond.methodLink RX5 91 yX5_nearestHead, Cond.instanceMethod yX5_nearestHead, Cond.selects RX5 yX5_nearestHead yX5_nearestHead, Cond.code yX5_nearestHead cX5_nearestHead 4 (some .int), Cond.methodLink RX5 88 yX5_distance, Cond.instanceMethod yX5_distance, Cond.selects RX5 yX5_distance yX5_distance, Cond.code yX5_distance cX5_distance 3 (some .int), Cond.methodLink RX5 67 yX5_distanceTo, Cond.instanceMethod yX5_distanceTo, Cond.selects RX5 yX5_distanceTo yX5_distanceTo, Cond.code yX5_distanceTo cX5_distanceTo 6 (some .int), Cond.methodLink RX5 119 yX5_deliverAlone, Cond.instanceMethod yX5_deliverAlone, Cond.selects RX5 yX5_deliverAlone yX5_deliverAlone, Cond.code yX5_deliverAlone cX5_deliverAlone 2 none, Cond.methodLink RX5 106 yX5_deliver]
def wsX5_performMany_r4 : List Cond := [Cond.instanceMethod yX5_deliver, Cond.selects RX5 yX5_deliver yX5_deliver, Cond.code yX5_deliver cX5_deliver 2 none, Cond.methodLink RX5 100 yX5_distanceToBase, Cond.instanceMethod yX5_distanceToBase, Cond.selects RX5 yX5_distanceToBase yX5_distanceToBase, Cond.code yX5_distanceToBase cX5_distanceToBase 2 (some .int), Cond.methodLink RX5 94 yX5_sendingCost, Cond.instanceMethod yX5_sendingCost, Cond.selects RX5 yX5_sendingCost yX5_sendingCost, Cond.code yX5_sendingCost cX5_sendingCost 2 (some .int), Cond.methodLink RX5 122 yX5_report, Cond.instanceMethod yX5_report, Cond.selects RX5 yX5_report yX5_report, Cond.code yX5_report cX5_report 4 none, Cond.methodLink RX5 97 yX5_takesIn, Cond.instanceMethod yX5_takesIn, Cond.selects RX5 yX5_takesIn yX5_takesIn, Cond.code yX5_takesIn cX5_takesIn 2 (some .boolean), Cond.methodLink RX5 125 yX5_deliverByRelay, Cond.instanceMethod yX5_deliverByRelay, Cond.selects RX5 yX5_deliverByRelay yX5_deliverByRelay, Cond.code yX5_deliverByRelay cX5_deliverByRelay 4 none, Cond.methodLink RX5 103 yX5_relay]
def wsX5_performMany_r5 : List Cond := [Cond.instanceMethod yX5_relay, Cond.selects RX5 yX5_relay yX5_relay, Cond.code yX5_relay cX5_relay 3 (some .int), Cond.methodLink RX5 128 yX5_deliverAll, Cond.instanceMethod yX5_deliverAll, Cond.selects RX5 yX5_deliverAll yX5_deliverAll, Cond.code yX5_deliverAll cX5_deliverAll 2 none]
def wsX5_performMany : List Cond := .code yX5_performMany cX5_performMany 3 (some .int) :: ((wsX5_performMany_r1 ++ (wsX5_performMany_r2 ++ (wsX5_performMany_r3 ++ (wsX5_performMany_r4 ++ wsX5_performMany_r5)))) ++ wsX50)
def wsX5_run_r1 : List Cond := [Cond.fieldLink RX5 32 "ClusterFieldModel" "thrown" "I", Cond.methodLink RX5 39 yX5_in, Cond.static yX5_in, Cond.initialized RX5, Cond.code yX5_in cX5_in 3 (some .boolean), Cond.methodLink RX5 131 yX5_alive, Cond.instanceMethod yX5_alive, Cond.selects RX5 yX5_alive yX5_alive, Cond.code yX5_alive cX5_alive 3 (some .int), Cond.fieldLink RX5 7 "ClusterFieldModel" "s" "[I", Cond.methodLink RX5 43 yX5_of, Cond.instanceMethod yX5_of, Cond.selects RX5 yX5_of yX5_of, Cond.code yX5_of cX5_of 3 (some .int), Cond.methodLink RX5 48 yX5_keep, Cond.instanceMethod yX5_keep, Cond.selects RX5 yX5_keep yX5_keep, Cond.code yX5_keep cX5_keep 2 none, Cond.fieldLink RX5 36 "ClusterFieldModel" "depth" "I", Cond.fieldLink RX5 16 "ClusterFieldModel" "history" "[I", Cond.methodLink RX5 137 yX5_performMany, Cond.instanceMethod yX5_performMany, Cond.selects RX5 yX5_performMany yX5_performMany, Cond.code yX5_performMany cX5_performMany 3 (some .int)]
def wsX5_run_r2 : List Cond := [Cond.methodLink RX5 134 yX5_perform, Cond.instanceMethod yX5_perform, Cond.selects RX5 yX5_perform yX5_perform, Cond.code yX5_perform cX5_perform 1 none, Cond.methodLink RX5 110 yX5_elect, Cond.instanceMethod yX5_elect, Cond.selects RX5 yX5_elect yX5_elect, Cond.code yX5_elect cX5_elect 3 none, Cond.fieldLink RX5 29 "ClusterFieldModel" "with" "[I", Cond.fieldLink RX5 26 "ClusterFieldModel" "isElected" "[Z", Cond.methodLink RX5 71 yX5_setting, Cond.instanceMethod yX5_setting, Cond.selects RX5 yX5_setting yX5_setting, Cond.code yX5_setting cX5_setting 2 (some .int), Cond.methodLink RX5 51 yX5_set, Cond.instanceMethod yX5_set, Cond.selects RX5 yX5_set yX5_set, Cond.code yX5_set cX5_set 4 none, Cond.methodLink RX5 63 yX5_lives, Cond.instanceMethod yX5_lives, Cond.selects RX5 yX5_lives yX5_lives, Cond.code yX5_lives cX5_lives 2 (some .boolean), Cond.methodLink RX5 81 yX5_draw, Cond.instanceMethod yX5_draw]
def wsX5_run_r3 : List Cond := [Cond.selects RX5 yX5_draw yX5_draw, Cond.code yX5_draw cX5_draw 1 (some .int), Cond.constant RX5 78 (1103515245), Cond.constant RX5 79 (2147483647), Cond.constant RX5 80 (65536), Cond.methodLink RX5 113 yX5_announce, Cond.instanceMethod yX5_announce, Cond.selects RX5 yX5_announce yX5_announce, Cond.code yX5_announce cX5_announce 2 none, Cond.methodLink RX5 75 yX5_pays, Cond.instanceMethod yX5_pays, Cond.selects RX5 yX5_pays yX5_pays, Cond.code yX5_pays cX5_pays 3 (some .boolean), Cond.methodLink RX5 116 yX5_join, Cond.instanceMethod yX5_join, Cond.selects RX5 yX5_join yX5_join, Cond.code yX5_join cX5_join 5 none, Cond.methodLink RX5 85 yX5_isHead, Cond.instanceMethod yX5_isHead, Cond.selects RX5 yX5_isHead yX5_isHead, Cond.code yX5_isHead cX5_isHead 2 (some .boolean), Cond.methodLink RX5 91 yX5_nearestHead, Cond.instanceMethod yX5_nearestHead, Cond.selects RX5 yX5_nearestHead yX5_nearestHead]
def wsX5_run_r4 : List Cond := [Cond.code yX5_nearestHead cX5_nearestHead 4 (some .int), Cond.methodLink RX5 88 yX5_distance, Cond.instanceMethod yX5_distance, Cond.selects RX5 yX5_distance yX5_distance, Cond.code yX5_distance cX5_distance 3 (some .int), Cond.methodLink RX5 67 yX5_distanceTo, Cond.instanceMethod yX5_distanceTo, Cond.selects RX5 yX5_distanceTo yX5_distanceTo, Cond.code yX5_distanceTo cX5_distanceTo 6 (some .int), Cond.methodLink RX5 119 yX5_deliverAlone, Cond.instanceMethod yX5_deliverAlone, Cond.selects RX5 yX5_deliverAlone yX5_deliverAlone, Cond.code yX5_deliverAlone cX5_deliverAlone 2 none, Cond.methodLink RX5 106 yX5_deliver, Cond.instanceMethod yX5_deliver, Cond.selects RX5 yX5_deliver yX5_deliver, Cond.code yX5_deliver cX5_deliver 2 none, Cond.methodLink RX5 100 yX5_distanceToBase, Cond.instanceMethod yX5_distanceToBase, Cond.selects RX5 yX5_distanceToBase yX5_distanceToBase, Cond.code yX5_distanceToBase cX5_distanceToBase 2 (some .int), Cond.methodLink RX5 94 yX5_sendingCost, Cond.instanceMethod yX5_sendingCost, Cond.selects RX5 yX5_sendingCost yX5_sendingCost]
def wsX5_run_r5 : List Cond := [Cond.code yX5_sendingCost cX5_sendingCost 2 (some .int), Cond.methodLink RX5 122 yX5_report, Cond.instanceMethod yX5_report, Cond.selects RX5 yX5_report yX5_report, Cond.code yX5_report cX5_report 4 none, Cond.methodLink RX5 97 yX5_takesIn, Cond.instanceMethod yX5_takesIn, Cond.selects RX5 yX5_takesIn yX5_takesIn, Cond.code yX5_takesIn cX5_takesIn 2 (some .boolean), Cond.methodLink RX5 125 yX5_deliverByRelay, Cond.instanceMethod yX5_deliverByRelay, Cond.selects RX5 yX5_deliverByRelay yX5_deliverByRelay, Cond.code yX5_deliverByRelay cX5_deliverByRelay 4 none, Cond.methodLink RX5 103 yX5_relay, Cond.instanceMethod yX5_relay, Cond.selects RX5 yX5_relay yX5_relay, Cond.code yX5_relay cX5_relay 3 (some .int), Cond.methodLink RX5 128 yX5_deliverAll, Cond.instanceMethod yX5_deliverAll, Cond.selects RX5 yX5_deliverAll yX5_deliverAll, Cond.code yX5_deliverAll cX5_deliverAll 2 none]
def wsX5_run : List Cond := .code yX5_run cX5_run 2 (some .int) :: ((wsX5_run_r1 ++ (wsX5_run_r2 ++ (wsX5_run_r3 ++ (wsX5_run_r4 ++ wsX5_run_r5)))) ++ wsX50)
def wsX5_roundNumber : List Cond := .code yX5_roundNumber cX5_roundNumber 1 (some .int) :: ([.fieldLink RX5 32 "ClusterFieldModel" "thrown" "I", .fieldLink RX5 7 "ClusterFieldModel" "s" "[I"] ++ wsX50)
def wsX5_sensorCount : List Cond := .code yX5_sensorCount cX5_sensorCount 1 (some .int) :: ([.fieldLink RX5 32 "ClusterFieldModel" "thrown" "I", .fieldLink RX5 7 "ClusterFieldModel" "s" "[I"] ++ wsX50)
def wsX5_aliveCount : List Cond := .code yX5_aliveCount cX5_aliveCount 1 (some .int) :: ([.fieldLink RX5 32 "ClusterFieldModel" "thrown" "I", .methodLink RX5 131 yX5_alive, .instanceMethod yX5_alive, .selects RX5 yX5_alive yX5_alive, .initialized RX5, .code yX5_alive cX5_alive 3 (some .int), .fieldLink RX5 7 "ClusterFieldModel" "s" "[I", .methodLink RX5 43 yX5_of, .instanceMethod yX5_of, .selects RX5 yX5_of yX5_of, .code yX5_of cX5_of 3 (some .int)] ++ wsX50)
def wsX5_value : List Cond := .code yX5_value cX5_value 3 (some .int) :: ([.methodLink RX5 59 yX5_isSensor, .instanceMethod yX5_isSensor, .selects RX5 yX5_isSensor yX5_isSensor, .initialized RX5, .code yX5_isSensor cX5_isSensor 2 (some .boolean), .fieldLink RX5 7 "ClusterFieldModel" "s" "[I", .methodLink RX5 39 yX5_in, .static yX5_in, .code yX5_in cX5_in 3 (some .boolean), .methodLink RX5 43 yX5_of, .instanceMethod yX5_of, .selects RX5 yX5_of yX5_of, .code yX5_of cX5_of 3 (some .int)] ++ wsX50)
def wsX5_isAlive : List Cond := .code yX5_isAlive cX5_isAlive 2 (some .int) :: ([.fieldLink RX5 32 "ClusterFieldModel" "thrown" "I", .methodLink RX5 140 yX5_value, .instanceMethod yX5_value, .selects RX5 yX5_value yX5_value, .initialized RX5, .code yX5_value cX5_value 3 (some .int), .methodLink RX5 59 yX5_isSensor, .instanceMethod yX5_isSensor, .selects RX5 yX5_isSensor yX5_isSensor, .code yX5_isSensor cX5_isSensor 2 (some .boolean), .fieldLink RX5 7 "ClusterFieldModel" "s" "[I", .methodLink RX5 39 yX5_in, .static yX5_in, .code yX5_in cX5_in 3 (some .boolean), .methodLink RX5 43 yX5_of, .instanceMethod yX5_of, .selects RX5 yX5_of yX5_of, .code yX5_of cX5_of 3 (some .int)] ++ wsX50)
def wsX5_battery : List Cond := .code yX5_battery cX5_battery 2 (some .int) :: ([.fieldLink RX5 32 "ClusterFieldModel" "thrown" "I", .methodLink RX5 140 yX5_value, .instanceMethod yX5_value, .selects RX5 yX5_value yX5_value, .initialized RX5, .code yX5_value cX5_value 3 (some .int), .methodLink RX5 59 yX5_isSensor, .instanceMethod yX5_isSensor, .selects RX5 yX5_isSensor yX5_isSensor, .code yX5_isSensor cX5_isSensor 2 (some .boolean), .fieldLink RX5 7 "ClusterFieldModel" "s" "[I", .methodLink RX5 39 yX5_in, .static yX5_in, .code yX5_in cX5_in 3 (some .boolean), .methodLink RX5 43 yX5_of, .instanceMethod yX5_of, .selects RX5 yX5_of yX5_of, .code yX5_of cX5_of 3 (some .int)] ++ wsX50)
def wsX5_isEligible : List Cond := .code yX5_isEligible cX5_isEligible 3 (some .int) :: ([.fieldLink RX5 32 "ClusterFieldModel" "thrown" "I", .fieldLink RX5 7 "ClusterFieldModel" "s" "[I", .methodLink RX5 59 yX5_isSensor, .instanceMethod yX5_isSensor, .selects RX5 yX5_isSensor yX5_isSensor, .initialized RX5, .code yX5_isSensor cX5_isSensor 2 (some .boolean), .methodLink RX5 39 yX5_in, .static yX5_in, .code yX5_in cX5_in 3 (some .boolean), .methodLink RX5 63 yX5_lives, .instanceMethod yX5_lives, .selects RX5 yX5_lives yX5_lives, .code yX5_lives cX5_lives 2 (some .boolean), .methodLink RX5 43 yX5_of, .instanceMethod yX5_of, .selects RX5 yX5_of yX5_of, .code yX5_of cX5_of 3 (some .int), .methodLink RX5 71 yX5_setting, .instanceMethod yX5_setting, .selects RX5 yX5_setting yX5_setting, .code yX5_setting cX5_setting 2 (some .int)] ++ wsX50)
def wsX5_headRounds : List Cond := .code yX5_headRounds cX5_headRounds 2 (some .int) :: ([.fieldLink RX5 32 "ClusterFieldModel" "thrown" "I", .methodLink RX5 140 yX5_value, .instanceMethod yX5_value, .selects RX5 yX5_value yX5_value, .initialized RX5, .code yX5_value cX5_value 3 (some .int), .methodLink RX5 59 yX5_isSensor, .instanceMethod yX5_isSensor, .selects RX5 yX5_isSensor yX5_isSensor, .code yX5_isSensor cX5_isSensor 2 (some .boolean), .fieldLink RX5 7 "ClusterFieldModel" "s" "[I", .methodLink RX5 39 yX5_in, .static yX5_in, .code yX5_in cX5_in 3 (some .boolean), .methodLink RX5 43 yX5_of, .instanceMethod yX5_of, .selects RX5 yX5_of yX5_of, .code yX5_of cX5_of 3 (some .int)] ++ wsX50)
def wsX5_deathRound : List Cond := .code yX5_deathRound cX5_deathRound 2 (some .int) :: ([.fieldLink RX5 32 "ClusterFieldModel" "thrown" "I", .methodLink RX5 140 yX5_value, .instanceMethod yX5_value, .selects RX5 yX5_value yX5_value, .initialized RX5, .code yX5_value cX5_value 3 (some .int), .methodLink RX5 59 yX5_isSensor, .instanceMethod yX5_isSensor, .selects RX5 yX5_isSensor yX5_isSensor, .code yX5_isSensor cX5_isSensor 2 (some .boolean), .fieldLink RX5 7 "ClusterFieldModel" "s" "[I", .methodLink RX5 39 yX5_in, .static yX5_in, .code yX5_in cX5_in 3 (some .boolean), .methodLink RX5 43 yX5_of, .instanceMethod yX5_of, .selects RX5 yX5_of yX5_of, .code yX5_of cX5_of 3 (some .int)] ++ wsX50)
def wsX5_headOf : List Cond := .code yX5_headOf cX5_headOf 2 (some .int) :: ([.fieldLink RX5 32 "ClusterFieldModel" "thrown" "I", .methodLink RX5 140 yX5_value, .instanceMethod yX5_value, .selects RX5 yX5_value yX5_value, .initialized RX5, .code yX5_value cX5_value 3 (some .int), .methodLink RX5 59 yX5_isSensor, .instanceMethod yX5_isSensor, .selects RX5 yX5_isSensor yX5_isSensor, .code yX5_isSensor cX5_isSensor 2 (some .boolean), .fieldLink RX5 7 "ClusterFieldModel" "s" "[I", .methodLink RX5 39 yX5_in, .static yX5_in, .code yX5_in cX5_in 3 (some .boolean), .methodLink RX5 43 yX5_of, .instanceMethod yX5_of, .selects RX5 yX5_of yX5_of, .code yX5_of cX5_of 3 (some .int)] ++ wsX50)
def wsX5_slotOf : List Cond := .code yX5_slotOf cX5_slotOf 2 (some .int) :: ([.fieldLink RX5 32 "ClusterFieldModel" "thrown" "I", .methodLink RX5 140 yX5_value, .instanceMethod yX5_value, .selects RX5 yX5_value yX5_value, .initialized RX5, .code yX5_value cX5_value 3 (some .int), .methodLink RX5 59 yX5_isSensor, .instanceMethod yX5_isSensor, .selects RX5 yX5_isSensor yX5_isSensor, .code yX5_isSensor cX5_isSensor 2 (some .boolean), .fieldLink RX5 7 "ClusterFieldModel" "s" "[I", .methodLink RX5 39 yX5_in, .static yX5_in, .code yX5_in cX5_in 3 (some .boolean), .methodLink RX5 43 yX5_of, .instanceMethod yX5_of, .selects RX5 yX5_of yX5_of, .code yX5_of cX5_of 3 (some .int)] ++ wsX50)
def wsX5_headCount : List Cond := .code yX5_headCount cX5_headCount 1 (some .int) :: ([.fieldLink RX5 32 "ClusterFieldModel" "thrown" "I", .fieldLink RX5 7 "ClusterFieldModel" "s" "[I"] ++ wsX50)
def wsX5_lastDelivered : List Cond := .code yX5_lastDelivered cX5_lastDelivered 1 (some .int) :: ([.fieldLink RX5 32 "ClusterFieldModel" "thrown" "I", .fieldLink RX5 7 "ClusterFieldModel" "s" "[I"] ++ wsX50)
def wsX5_deliveredTotal : List Cond := .code yX5_deliveredTotal cX5_deliveredTotal 1 (some .int) :: ([.fieldLink RX5 32 "ClusterFieldModel" "thrown" "I", .fieldLink RX5 7 "ClusterFieldModel" "s" "[I"] ++ wsX50)
def wsX5_energyPaid : List Cond := .code yX5_energyPaid cX5_energyPaid 1 (some .int) :: ([.fieldLink RX5 32 "ClusterFieldModel" "thrown" "I", .fieldLink RX5 7 "ClusterFieldModel" "s" "[I"] ++ wsX50)
def wsX5_sendCost_r1 : List Cond := [Cond.fieldLink RX5 32 "ClusterFieldModel" "thrown" "I", Cond.methodLink RX5 59 yX5_isSensor, Cond.instanceMethod yX5_isSensor, Cond.selects RX5 yX5_isSensor yX5_isSensor, Cond.initialized RX5, Cond.code yX5_isSensor cX5_isSensor 2 (some .boolean), Cond.fieldLink RX5 7 "ClusterFieldModel" "s" "[I", Cond.methodLink RX5 39 yX5_in, Cond.static yX5_in, Cond.code yX5_in cX5_in 3 (some .boolean), Cond.methodLink RX5 100 yX5_distanceToBase, Cond.instanceMethod yX5_distanceToBase, Cond.selects RX5 yX5_distanceToBase yX5_distanceToBase, Cond.code yX5_distanceToBase cX5_distanceToBase 2 (some .int), Cond.methodLink RX5 67 yX5_distanceTo, Cond.instanceMethod yX5_distanceTo, Cond.selects RX5 yX5_distanceTo yX5_distanceTo, Cond.code yX5_distanceTo cX5_distanceTo 6 (some .int), Cond.methodLink RX5 43 yX5_of, Cond.instanceMethod yX5_of, Cond.selects RX5 yX5_of yX5_of, Cond.code yX5_of cX5_of 3 (some .int), Cond.methodLink RX5 88 yX5_distance, Cond.instanceMethod yX5_distance]
def wsX5_sendCost_r2 : List Cond := [Cond.selects RX5 yX5_distance yX5_distance, Cond.code yX5_distance cX5_distance 3 (some .int), Cond.methodLink RX5 94 yX5_sendingCost, Cond.instanceMethod yX5_sendingCost, Cond.selects RX5 yX5_sendingCost yX5_sendingCost, Cond.code yX5_sendingCost cX5_sendingCost 2 (some .int), Cond.methodLink RX5 71 yX5_setting, Cond.instanceMethod yX5_setting, Cond.selects RX5 yX5_setting yX5_setting, Cond.code yX5_setting cX5_setting 2 (some .int)]
def wsX5_sendCost : List Cond := .code yX5_sendCost cX5_sendCost 3 (some .int) :: ((wsX5_sendCost_r1 ++ wsX5_sendCost_r2) ++ wsX50)
def wsX5_takeCopy : List Cond := .code yX5_takeCopy cX5_takeCopy 2 none :: ([.fieldLink RX5 13 "ClusterFieldModel" "copy" "[I", .fieldLink RX5 7 "ClusterFieldModel" "s" "[I"] ++ wsX50)
def wsX5_putBack : List Cond := .code yX5_putBack cX5_putBack 2 none :: ([.fieldLink RX5 7 "ClusterFieldModel" "s" "[I", .fieldLink RX5 13 "ClusterFieldModel" "copy" "[I"] ++ wsX50)
def wsX5_forecastDeath_r1 : List Cond := [Cond.fieldLink RX5 32 "ClusterFieldModel" "thrown" "I", Cond.methodLink RX5 59 yX5_isSensor, Cond.instanceMethod yX5_isSensor, Cond.selects RX5 yX5_isSensor yX5_isSensor, Cond.initialized RX5, Cond.code yX5_isSensor cX5_isSensor 2 (some .boolean), Cond.fieldLink RX5 7 "ClusterFieldModel" "s" "[I", Cond.methodLink RX5 39 yX5_in, Cond.static yX5_in, Cond.code yX5_in cX5_in 3 (some .boolean), Cond.methodLink RX5 63 yX5_lives, Cond.instanceMethod yX5_lives, Cond.selects RX5 yX5_lives yX5_lives, Cond.code yX5_lives cX5_lives 2 (some .boolean), Cond.methodLink RX5 43 yX5_of, Cond.instanceMethod yX5_of, Cond.selects RX5 yX5_of yX5_of, Cond.code yX5_of cX5_of 3 (some .int), Cond.methodLink RX5 143 yX5_takeCopy, Cond.instanceMethod yX5_takeCopy, Cond.selects RX5 yX5_takeCopy yX5_takeCopy, Cond.code yX5_takeCopy cX5_takeCopy 2 none, Cond.fieldLink RX5 13 "ClusterFieldModel" "copy" "[I", Cond.methodLink RX5 137 yX5_performMany]
def wsX5_forecastDeath_r2 : List Cond := [Cond.instanceMethod yX5_performMany, Cond.selects RX5 yX5_performMany yX5_performMany, Cond.code yX5_performMany cX5_performMany 3 (some .int), Cond.methodLink RX5 131 yX5_alive, Cond.instanceMethod yX5_alive, Cond.selects RX5 yX5_alive yX5_alive, Cond.code yX5_alive cX5_alive 3 (some .int), Cond.methodLink RX5 134 yX5_perform, Cond.instanceMethod yX5_perform, Cond.selects RX5 yX5_perform yX5_perform, Cond.code yX5_perform cX5_perform 1 none, Cond.methodLink RX5 110 yX5_elect, Cond.instanceMethod yX5_elect, Cond.selects RX5 yX5_elect yX5_elect, Cond.code yX5_elect cX5_elect 3 none, Cond.fieldLink RX5 29 "ClusterFieldModel" "with" "[I", Cond.fieldLink RX5 26 "ClusterFieldModel" "isElected" "[Z", Cond.methodLink RX5 71 yX5_setting, Cond.instanceMethod yX5_setting, Cond.selects RX5 yX5_setting yX5_setting, Cond.code yX5_setting cX5_setting 2 (some .int), Cond.methodLink RX5 51 yX5_set, Cond.instanceMethod yX5_set, Cond.selects RX5 yX5_set yX5_set]
def wsX5_forecastDeath_r3 : List Cond := [Cond.code yX5_set cX5_set 4 none, Cond.methodLink RX5 81 yX5_draw, Cond.instanceMethod yX5_draw, Cond.selects RX5 yX5_draw yX5_draw, Cond.code yX5_draw cX5_draw 1 (some .int), Cond.constant RX5 78 (1103515245), Cond.constant RX5 79 (2147483647), Cond.constant RX5 80 (65536), Cond.methodLink RX5 113 yX5_announce, Cond.instanceMethod yX5_announce, Cond.selects RX5 yX5_announce yX5_announce, Cond.code yX5_announce cX5_announce 2 none, Cond.methodLink RX5 75 yX5_pays, Cond.instanceMethod yX5_pays, Cond.selects RX5 yX5_pays yX5_pays, Cond.code yX5_pays cX5_pays 3 (some .boolean), Cond.methodLink RX5 116 yX5_join, Cond.instanceMethod yX5_join, Cond.selects RX5 yX5_join yX5_join, Cond.code yX5_join cX5_join 5 none, Cond.methodLink RX5 85 yX5_isHead, Cond.instanceMethod yX5_isHead, Cond.selects RX5 yX5_isHead yX5_isHead, Cond.code yX5_isHead cX5_isHead 2 (some .boolean)]
def wsX5_forecastDeath_r4 : List Cond := [Cond.methodLink RX5 91 yX5_nearestHead, Cond.instanceMethod yX5_nearestHead, Cond.selects RX5 yX5_nearestHead yX5_nearestHead, Cond.code yX5_nearestHead cX5_nearestHead 4 (some .int), Cond.methodLink RX5 88 yX5_distance, Cond.instanceMethod yX5_distance, Cond.selects RX5 yX5_distance yX5_distance, Cond.code yX5_distance cX5_distance 3 (some .int), Cond.methodLink RX5 67 yX5_distanceTo, Cond.instanceMethod yX5_distanceTo, Cond.selects RX5 yX5_distanceTo yX5_distanceTo, Cond.code yX5_distanceTo cX5_distanceTo 6 (some .int), Cond.methodLink RX5 119 yX5_deliverAlone, Cond.instanceMethod yX5_deliverAlone, Cond.selects RX5 yX5_deliverAlone yX5_deliverAlone, Cond.code yX5_deliverAlone cX5_deliverAlone 2 none, Cond.methodLink RX5 106 yX5_deliver, Cond.instanceMethod yX5_deliver, Cond.selects RX5 yX5_deliver yX5_deliver, Cond.code yX5_deliver cX5_deliver 2 none, Cond.methodLink RX5 100 yX5_distanceToBase, Cond.instanceMethod yX5_distanceToBase, Cond.selects RX5 yX5_distanceToBase yX5_distanceToBase, Cond.code yX5_distanceToBase cX5_distanceToBase 2 (some .int)]
def wsX5_forecastDeath_r5 : List Cond := [Cond.methodLink RX5 94 yX5_sendingCost, Cond.instanceMethod yX5_sendingCost, Cond.selects RX5 yX5_sendingCost yX5_sendingCost, Cond.code yX5_sendingCost cX5_sendingCost 2 (some .int), Cond.methodLink RX5 122 yX5_report, Cond.instanceMethod yX5_report, Cond.selects RX5 yX5_report yX5_report, Cond.code yX5_report cX5_report 4 none, Cond.methodLink RX5 97 yX5_takesIn, Cond.instanceMethod yX5_takesIn, Cond.selects RX5 yX5_takesIn yX5_takesIn, Cond.code yX5_takesIn cX5_takesIn 2 (some .boolean), Cond.methodLink RX5 125 yX5_deliverByRelay, Cond.instanceMethod yX5_deliverByRelay, Cond.selects RX5 yX5_deliverByRelay yX5_deliverByRelay, Cond.code yX5_deliverByRelay cX5_deliverByRelay 4 none, Cond.methodLink RX5 103 yX5_relay, Cond.instanceMethod yX5_relay, Cond.selects RX5 yX5_relay yX5_relay, Cond.code yX5_relay cX5_relay 3 (some .int), Cond.methodLink RX5 128 yX5_deliverAll, Cond.instanceMethod yX5_deliverAll, Cond.selects RX5 yX5_deliverAll yX5_deliverAll, Cond.code yX5_deliverAll cX5_deliverAll 2 none]
def wsX5_forecastDeath_r6 : List Cond := [Cond.methodLink RX5 146 yX5_putBack, Cond.instanceMethod yX5_putBack, Cond.selects RX5 yX5_putBack yX5_putBack, Cond.code yX5_putBack cX5_putBack 2 none]
def wsX5_forecastDeath : List Cond := .code yX5_forecastDeath cX5_forecastDeath 4 (some .int) :: ((wsX5_forecastDeath_r1 ++ (wsX5_forecastDeath_r2 ++ (wsX5_forecastDeath_r3 ++ (wsX5_forecastDeath_r4 ++ (wsX5_forecastDeath_r5 ++ wsX5_forecastDeath_r6))))) ++ wsX50)
def wsX5_forecastDelivered_r1 : List Cond := [Cond.fieldLink RX5 32 "ClusterFieldModel" "thrown" "I", Cond.fieldLink RX5 7 "ClusterFieldModel" "s" "[I", Cond.fieldLink RX5 13 "ClusterFieldModel" "copy" "[I", Cond.methodLink RX5 39 yX5_in, Cond.static yX5_in, Cond.initialized RX5, Cond.code yX5_in cX5_in 3 (some .boolean), Cond.methodLink RX5 143 yX5_takeCopy, Cond.instanceMethod yX5_takeCopy, Cond.selects RX5 yX5_takeCopy yX5_takeCopy, Cond.code yX5_takeCopy cX5_takeCopy 2 none, Cond.methodLink RX5 137 yX5_performMany, Cond.instanceMethod yX5_performMany, Cond.selects RX5 yX5_performMany yX5_performMany, Cond.code yX5_performMany cX5_performMany 3 (some .int), Cond.methodLink RX5 131 yX5_alive, Cond.instanceMethod yX5_alive, Cond.selects RX5 yX5_alive yX5_alive, Cond.code yX5_alive cX5_alive 3 (some .int), Cond.methodLink RX5 43 yX5_of, Cond.instanceMethod yX5_of, Cond.selects RX5 yX5_of yX5_of, Cond.code yX5_of cX5_of 3 (some .int), Cond.methodLink RX5 134 yX5_perform]
def wsX5_forecastDelivered_r2 : List Cond := [Cond.instanceMethod yX5_perform, Cond.selects RX5 yX5_perform yX5_perform, Cond.code yX5_perform cX5_perform 1 none, Cond.methodLink RX5 110 yX5_elect, Cond.instanceMethod yX5_elect, Cond.selects RX5 yX5_elect yX5_elect, Cond.code yX5_elect cX5_elect 3 none, Cond.fieldLink RX5 29 "ClusterFieldModel" "with" "[I", Cond.fieldLink RX5 26 "ClusterFieldModel" "isElected" "[Z", Cond.methodLink RX5 71 yX5_setting, Cond.instanceMethod yX5_setting, Cond.selects RX5 yX5_setting yX5_setting, Cond.code yX5_setting cX5_setting 2 (some .int), Cond.methodLink RX5 51 yX5_set, Cond.instanceMethod yX5_set, Cond.selects RX5 yX5_set yX5_set, Cond.code yX5_set cX5_set 4 none, Cond.methodLink RX5 63 yX5_lives, Cond.instanceMethod yX5_lives, Cond.selects RX5 yX5_lives yX5_lives, Cond.code yX5_lives cX5_lives 2 (some .boolean), Cond.methodLink RX5 81 yX5_draw, Cond.instanceMethod yX5_draw, Cond.selects RX5 yX5_draw yX5_draw]
def wsX5_forecastDelivered_r3 : List Cond := [Cond.code yX5_draw cX5_draw 1 (some .int), Cond.constant RX5 78 (1103515245), Cond.constant RX5 79 (2147483647), Cond.constant RX5 80 (65536), Cond.methodLink RX5 113 yX5_announce, Cond.instanceMethod yX5_announce, Cond.selects RX5 yX5_announce yX5_announce, Cond.code yX5_announce cX5_announce 2 none, Cond.methodLink RX5 75 yX5_pays, Cond.instanceMethod yX5_pays, Cond.selects RX5 yX5_pays yX5_pays, Cond.code yX5_pays cX5_pays 3 (some .boolean), Cond.methodLink RX5 116 yX5_join, Cond.instanceMethod yX5_join, Cond.selects RX5 yX5_join yX5_join, Cond.code yX5_join cX5_join 5 none, Cond.methodLink RX5 85 yX5_isHead, Cond.instanceMethod yX5_isHead, Cond.selects RX5 yX5_isHead yX5_isHead, Cond.code yX5_isHead cX5_isHead 2 (some .boolean), Cond.methodLink RX5 91 yX5_nearestHead, Cond.instanceMethod yX5_nearestHead, Cond.selects RX5 yX5_nearestHead yX5_nearestHead, Cond.code yX5_nearestHead cX5_nearestHead 4 (some .int)]
def wsX5_forecastDelivered_r4 : List Cond := [Cond.methodLink RX5 88 yX5_distance, Cond.instanceMethod yX5_distance, Cond.selects RX5 yX5_distance yX5_distance, Cond.code yX5_distance cX5_distance 3 (some .int), Cond.methodLink RX5 67 yX5_distanceTo, Cond.instanceMethod yX5_distanceTo, Cond.selects RX5 yX5_distanceTo yX5_distanceTo, Cond.code yX5_distanceTo cX5_distanceTo 6 (some .int), Cond.methodLink RX5 119 yX5_deliverAlone, Cond.instanceMethod yX5_deliverAlone, Cond.selects RX5 yX5_deliverAlone yX5_deliverAlone, Cond.code yX5_deliverAlone cX5_deliverAlone 2 none, Cond.methodLink RX5 106 yX5_deliver, Cond.instanceMethod yX5_deliver, Cond.selects RX5 yX5_deliver yX5_deliver, Cond.code yX5_deliver cX5_deliver 2 none, Cond.methodLink RX5 100 yX5_distanceToBase, Cond.instanceMethod yX5_distanceToBase, Cond.selects RX5 yX5_distanceToBase yX5_distanceToBase, Cond.code yX5_distanceToBase cX5_distanceToBase 2 (some .int), Cond.methodLink RX5 94 yX5_sendingCost, Cond.instanceMethod yX5_sendingCost, Cond.selects RX5 yX5_sendingCost yX5_sendingCost, Cond.code yX5_sendingCost cX5_sendingCost 2 (some .int)]
def wsX5_forecastDelivered_r5 : List Cond := [Cond.methodLink RX5 122 yX5_report, Cond.instanceMethod yX5_report, Cond.selects RX5 yX5_report yX5_report, Cond.code yX5_report cX5_report 4 none, Cond.methodLink RX5 97 yX5_takesIn, Cond.instanceMethod yX5_takesIn, Cond.selects RX5 yX5_takesIn yX5_takesIn, Cond.code yX5_takesIn cX5_takesIn 2 (some .boolean), Cond.methodLink RX5 125 yX5_deliverByRelay, Cond.instanceMethod yX5_deliverByRelay, Cond.selects RX5 yX5_deliverByRelay yX5_deliverByRelay, Cond.code yX5_deliverByRelay cX5_deliverByRelay 4 none, Cond.methodLink RX5 103 yX5_relay, Cond.instanceMethod yX5_relay, Cond.selects RX5 yX5_relay yX5_relay, Cond.code yX5_relay cX5_relay 3 (some .int), Cond.methodLink RX5 128 yX5_deliverAll, Cond.instanceMethod yX5_deliverAll, Cond.selects RX5 yX5_deliverAll yX5_deliverAll, Cond.code yX5_deliverAll cX5_deliverAll 2 none, Cond.methodLink RX5 146 yX5_putBack, Cond.instanceMethod yX5_putBack, Cond.selects RX5 yX5_putBack yX5_putBack, Cond.code yX5_putBack cX5_putBack 2 none]
def wsX5_forecastDelivered : List Cond := .code yX5_forecastDelivered cX5_forecastDelivered 3 (some .int) :: ((wsX5_forecastDelivered_r1 ++ (wsX5_forecastDelivered_r2 ++ (wsX5_forecastDelivered_r3 ++ (wsX5_forecastDelivered_r4 ++ wsX5_forecastDelivered_r5)))) ++ wsX50)
def wsX5_undo : List Cond := .code yX5_undo cX5_undo 2 (some .int) :: ([.fieldLink RX5 32 "ClusterFieldModel" "thrown" "I", .fieldLink RX5 36 "ClusterFieldModel" "depth" "I", .fieldLink RX5 7 "ClusterFieldModel" "s" "[I", .fieldLink RX5 16 "ClusterFieldModel" "history" "[I"] ++ wsX50)
def wsX5_undoDepth : List Cond := .code yX5_undoDepth cX5_undoDepth 1 (some .int) :: ([.fieldLink RX5 32 "ClusterFieldModel" "thrown" "I", .fieldLink RX5 36 "ClusterFieldModel" "depth" "I"] ++ wsX50)
def wsX5_save : List Cond := .code yX5_save cX5_save 3 (some .int) :: ([.fieldLink RX5 32 "ClusterFieldModel" "thrown" "I", .fieldLink RX5 19 "ClusterFieldModel" "slots" "[I", .fieldLink RX5 7 "ClusterFieldModel" "s" "[I", .fieldLink RX5 22 "ClusterFieldModel" "isSaved" "[Z", .methodLink RX5 39 yX5_in, .static yX5_in, .initialized RX5, .code yX5_in cX5_in 3 (some .boolean)] ++ wsX50)
def wsX5_restore : List Cond := .code yX5_restore cX5_restore 3 (some .int) :: ([.fieldLink RX5 32 "ClusterFieldModel" "thrown" "I", .fieldLink RX5 22 "ClusterFieldModel" "isSaved" "[Z", .fieldLink RX5 7 "ClusterFieldModel" "s" "[I", .fieldLink RX5 19 "ClusterFieldModel" "slots" "[I", .fieldLink RX5 36 "ClusterFieldModel" "depth" "I", .methodLink RX5 39 yX5_in, .static yX5_in, .initialized RX5, .code yX5_in cX5_in 3 (some .boolean)] ++ wsX50)
def wsL_law_r1 : List Cond := [Cond.classLink RL 7 RX4, Cond.instantiable RX4 7, Cond.initialized RX4, Cond.classLink RL 10 RX5, Cond.instantiable RX5 9, Cond.initialized RX5, Cond.methodLink RL 9 yX4_init, Cond.instanceMethod yX4_init, Cond.code yX4_init cX4_init 2 none, Cond.methodLink RX4 1 objectInit, Cond.instanceMethod objectInit, Cond.code objectInit ⟨#[0xb1]⟩ 1 none, Cond.classLink RX4 7 RX1, Cond.instantiable RX1 11, Cond.initialized RX1, Cond.fieldLink RX4 10 "ClusterField" "network" "LClusterField$Network;", Cond.classLink RX4 16 RX2, Cond.instantiable RX2 1, Cond.initialized RX2, Cond.fieldLink RX4 21 "ClusterField" "livePlay" "LClusterField$Rounds;", Cond.fieldLink RX4 25 "ClusterField" "trial" "LClusterField$Network;", Cond.fieldLink RX4 28 "ClusterField" "trialPlay" "LClusterField$Rounds;", Cond.classLink RX4 31 RX0, Cond.instantiable RX0 2]
def wsL_law_r2 : List Cond := [Cond.initialized RX0, Cond.fieldLink RX4 34 "ClusterField" "history" "LClusterField$History;", Cond.fieldLink RX4 38 "ClusterField" "snapshots" "[LClusterField$Network;", Cond.arrayClass .boolean, Cond.fieldLink RX4 42 "ClusterField" "snapshotFilled" "[Z", Cond.methodLink RX4 9 yX1_init, Cond.instanceMethod yX1_init, Cond.code yX1_init cX1_init 2 none, Cond.methodLink RX1 3 objectInit, Cond.classLink RX1 9 RX3, Cond.fieldLink RX1 11 "ClusterField$Network" "sensors" "[LClusterField$Sensor;", Cond.arrayClass .int, Cond.fieldLink RX1 17 "ClusterField$Network" "settings" "[I", Cond.fieldLink RX1 21 "ClusterField$Network" "baseX" "I", Cond.fieldLink RX1 25 "ClusterField$Network" "baseY" "I", Cond.fieldLink RX1 28 "ClusterField$Network" "generator" "I", Cond.instantiable RX3 11, Cond.initialized RX3, Cond.fieldLink RX1 32 "ClusterField$Network" "FIRST" "[I", Cond.methodLink RX1 35 arraycopyName, Cond.native arraycopyName, Cond.static arraycopyName, Cond.initialized "java/lang/System", Cond.instanceMethod yX3_init]
def wsL_law_r3 : List Cond := [Cond.code yX3_init cX3_init 1 none, Cond.methodLink RX3 3 objectInit, Cond.methodLink RX4 18 yX2_init, Cond.instanceMethod yX2_init, Cond.code yX2_init cX2_init 2 none, Cond.methodLink RX2 3 objectInit, Cond.fieldLink RX2 9 "ClusterField$Rounds" "net" "LClusterField$Network;", Cond.methodLink RX4 33 yX0_init, Cond.instanceMethod yX0_init, Cond.code yX0_init cX0_init 2 none, Cond.methodLink RX0 1 objectInit, Cond.classLink RX0 9 RX1, Cond.fieldLink RX0 11 "ClusterField$History" "saved" "[LClusterField$Network;", Cond.methodLink RX0 15 yX1_init, Cond.methodLink RL 12 yX5_init, Cond.instanceMethod yX5_init, Cond.code yX5_init cX5_init 1 none, Cond.methodLink RX5 1 objectInit, Cond.fieldLink RX5 7 "ClusterFieldModel" "s" "[I", Cond.fieldLink RX5 13 "ClusterFieldModel" "copy" "[I", Cond.fieldLink RX5 16 "ClusterFieldModel" "history" "[I", Cond.fieldLink RX5 19 "ClusterFieldModel" "slots" "[I", Cond.fieldLink RX5 22 "ClusterFieldModel" "isSaved" "[Z", Cond.fieldLink RX5 26 "ClusterFieldModel" "isElected" "[Z"]
def wsL_law_r4 : List Cond := [Cond.fieldLink RX5 29 "ClusterFieldModel" "with" "[I", Cond.methodLink RL 13 yX4_addSensor, Cond.instanceMethod yX4_addSensor, Cond.selects RX4 yX4_addSensor yX4_addSensor, Cond.code yX4_addSensor cX4_addSensor 4 (some .int), Cond.constant RX4 50 (100000), Cond.fieldLink RX4 51 "ClusterField$Network" "count" "I", Cond.fieldLink RX4 58 "ClusterField$Network" "sensors" "[LClusterField$Sensor;", Cond.methodLink RX4 46 yX4_inRange, Cond.static yX4_inRange, Cond.code yX4_inRange cX4_inRange 3 (some .boolean), Cond.methodLink RX4 55 yX0_push, Cond.instanceMethod yX0_push, Cond.selects RX0 yX0_push yX0_push, Cond.code yX0_push cX0_push 2 none, Cond.fieldLink RX0 16 "ClusterField$History" "depth" "I", Cond.methodLink RX0 20 yX0_dropOldest, Cond.instanceMethod yX0_dropOldest, Cond.selects RX0 yX0_dropOldest yX0_dropOldest, Cond.code yX0_dropOldest cX0_dropOldest 3 none, Cond.methodLink RX0 23 yX1_copyFrom, Cond.instanceMethod yX1_copyFrom, Cond.selects RX1 yX1_copyFrom yX1_copyFrom, Cond.code yX1_copyFrom cX1_copyFrom 3 none]
def wsL_law_r5 : List Cond := [Cond.fieldLink RX1 41 "ClusterField$Network" "count" "I", Cond.fieldLink RX1 48 "ClusterField$Network" "round" "I", Cond.fieldLink RX1 51 "ClusterField$Network" "lastHeads" "I", Cond.fieldLink RX1 54 "ClusterField$Network" "lastReadings" "I", Cond.fieldLink RX1 57 "ClusterField$Network" "allReadings" "I", Cond.fieldLink RX1 60 "ClusterField$Network" "paid" "I", Cond.methodLink RX1 44 yX3_copyFrom, Cond.instanceMethod yX3_copyFrom, Cond.selects RX3 yX3_copyFrom yX3_copyFrom, Cond.code yX3_copyFrom cX3_copyFrom 2 none, Cond.fieldLink RX3 9 "ClusterField$Sensor" "x" "I", Cond.fieldLink RX3 15 "ClusterField$Sensor" "y" "I", Cond.fieldLink RX3 18 "ClusterField$Sensor" "battery" "I", Cond.fieldLink RX3 21 "ClusterField$Sensor" "alive" "Z", Cond.fieldLink RX3 25 "ClusterField$Sensor" "eligible" "Z", Cond.fieldLink RX3 28 "ClusterField$Sensor" "headRounds" "I", Cond.fieldLink RX3 31 "ClusterField$Sensor" "deathRound" "I", Cond.fieldLink RX3 37 "ClusterField$Sensor" "head" "I", Cond.fieldLink RX3 40 "ClusterField$Sensor" "slot" "I", Cond.methodLink RX4 62 yX3_place, Cond.instanceMethod yX3_place, Cond.selects RX3 yX3_place yX3_place, Cond.code yX3_place cX3_place 4 none, Cond.methodLink RX3 34 yX3_beginRound]
def wsL_law_r6 : List Cond := [Cond.instanceMethod yX3_beginRound, Cond.selects RX3 yX3_beginRound yX3_beginRound, Cond.code yX3_beginRound cX3_beginRound 1 none, Cond.fieldLink RX3 43 "ClusterField$Sensor" "elected" "Z", Cond.fieldLink RX3 46 "ClusterField$Sensor" "readings" "I", Cond.methodLink RL 17 yX5_addSensor, Cond.instanceMethod yX5_addSensor, Cond.selects RX5 yX5_addSensor yX5_addSensor, Cond.code yX5_addSensor cX5_addSensor 5 (some .int), Cond.fieldLink RX5 32 "ClusterFieldModel" "thrown" "I", Cond.constant RX5 47 (100000), Cond.methodLink RX5 39 yX5_in, Cond.static yX5_in, Cond.code yX5_in cX5_in 3 (some .boolean), Cond.methodLink RX5 48 yX5_keep, Cond.instanceMethod yX5_keep, Cond.selects RX5 yX5_keep yX5_keep, Cond.code yX5_keep cX5_keep 2 none, Cond.fieldLink RX5 36 "ClusterFieldModel" "depth" "I", Cond.methodLink RX5 51 yX5_set, Cond.instanceMethod yX5_set, Cond.selects RX5 yX5_set yX5_set, Cond.code yX5_set cX5_set 4 none, Cond.methodLink RL 18 yX4_moveBase]
def wsL_law_r7 : List Cond := [Cond.instanceMethod yX4_moveBase, Cond.selects RX4 yX4_moveBase yX4_moveBase, Cond.code yX4_moveBase cX4_moveBase 4 (some .int), Cond.fieldLink RX4 68 "ClusterField$Network" "baseX" "I", Cond.fieldLink RX4 71 "ClusterField$Network" "baseY" "I", Cond.methodLink RL 22 yX5_moveBase, Cond.instanceMethod yX5_moveBase, Cond.selects RX5 yX5_moveBase yX5_moveBase, Cond.code yX5_moveBase cX5_moveBase 4 (some .int), Cond.methodLink RL 23 yX4_setSetting, Cond.instanceMethod yX4_setSetting, Cond.selects RX4 yX4_setSetting yX4_setSetting, Cond.code yX4_setSetting cX4_setSetting 4 (some .int), Cond.fieldLink RX4 74 "ClusterField$Network" "LEAST" "[I", Cond.fieldLink RX4 78 "ClusterField$Network" "GREATEST" "[I", Cond.fieldLink RX4 81 "ClusterField$Network" "settings" "[I", Cond.methodLink RL 26 yX5_setSetting, Cond.instanceMethod yX5_setSetting, Cond.selects RX5 yX5_setSetting yX5_setSetting, Cond.code yX5_setSetting cX5_setSetting 4 (some .int), Cond.methodLink RX5 55 yX5_isSettingValue, Cond.static yX5_isSettingValue, Cond.code yX5_isSettingValue cX5_isSettingValue 2 (some .boolean), Cond.methodLink RL 27 yX4_setGenerator]
def wsL_law_r8 : List Cond := [Cond.instanceMethod yX4_setGenerator, Cond.selects RX4 yX4_setGenerator yX4_setGenerator, Cond.code yX4_setGenerator cX4_setGenerator 2 (some .int), Cond.fieldLink RX4 84 "ClusterField$Network" "generator" "I", Cond.fieldLink RX4 87 "ClusterField$Network" "round" "I", Cond.methodLink RL 31 yX5_setGenerator, Cond.instanceMethod yX5_setGenerator, Cond.selects RX5 yX5_setGenerator yX5_setGenerator, Cond.code yX5_setGenerator cX5_setGenerator 2 (some .int), Cond.methodLink RL 32 yX4_charge, Cond.instanceMethod yX4_charge, Cond.selects RX4 yX4_charge yX4_charge, Cond.code yX4_charge cX4_charge 4 (some .int), Cond.fieldLink RX4 94 "ClusterField$Sensor" "alive" "Z", Cond.fieldLink RX4 98 "ClusterField$Sensor" "battery" "I", Cond.constant RX4 101 (1000000), Cond.methodLink RX4 90 yX1_has, Cond.instanceMethod yX1_has, Cond.selects RX1 yX1_has yX1_has, Cond.code yX1_has cX1_has 2 (some .boolean), Cond.methodLink RL 35 yX5_charge, Cond.instanceMethod yX5_charge, Cond.selects RX5 yX5_charge yX5_charge, Cond.code yX5_charge cX5_charge 3 (some .int)]
def wsL_law_r9 : List Cond := [Cond.constant RX5 66 (1000000), Cond.methodLink RX5 59 yX5_isSensor, Cond.instanceMethod yX5_isSensor, Cond.selects RX5 yX5_isSensor yX5_isSensor, Cond.code yX5_isSensor cX5_isSensor 2 (some .boolean), Cond.methodLink RX5 63 yX5_lives, Cond.instanceMethod yX5_lives, Cond.selects RX5 yX5_lives yX5_lives, Cond.code yX5_lives cX5_lives 2 (some .boolean), Cond.methodLink RX5 43 yX5_of, Cond.instanceMethod yX5_of, Cond.selects RX5 yX5_of yX5_of, Cond.code yX5_of cX5_of 3 (some .int), Cond.methodLink RL 36 yX4_run, Cond.instanceMethod yX4_run, Cond.selects RX4 yX4_run yX4_run, Cond.code yX4_run cX4_run 2 (some .int), Cond.methodLink RX4 102 yX1_countAlive, Cond.instanceMethod yX1_countAlive, Cond.selects RX1 yX1_countAlive yX1_countAlive, Cond.code yX1_countAlive cX1_countAlive 3 (some .int), Cond.fieldLink RX1 63 "ClusterField$Sensor" "alive" "Z", Cond.methodLink RX4 106 yX2_perform, Cond.instanceMethod yX2_perform]
def wsL_law_r10 : List Cond := [Cond.selects RX2 yX2_perform yX2_perform, Cond.code yX2_perform cX2_perform 3 (some .int), Cond.methodLink RX2 15 yX1_countAlive, Cond.methodLink RX2 21 yX2_performOne, Cond.instanceMethod yX2_performOne, Cond.selects RX2 yX2_performOne yX2_performOne, Cond.code yX2_performOne cX2_performOne 1 none, Cond.fieldLink RX2 33 "ClusterField$Network" "lastHeads" "I", Cond.fieldLink RX2 52 "ClusterField$Network" "allReadings" "I", Cond.fieldLink RX2 55 "ClusterField$Network" "lastReadings" "I", Cond.fieldLink RX2 58 "ClusterField$Network" "round" "I", Cond.methodLink RX2 24 yX2_begin, Cond.instanceMethod yX2_begin, Cond.selects RX2 yX2_begin yX2_begin, Cond.code yX2_begin cX2_begin 4 none, Cond.fieldLink RX2 64 "ClusterField$Network" "count" "I", Cond.fieldLink RX2 67 "ClusterField$Network" "sensors" "[LClusterField$Sensor;", Cond.fieldLink RX2 76 "ClusterField$Sensor" "eligible" "Z", Cond.methodLink RX2 61 yX1_phase, Cond.instanceMethod yX1_phase, Cond.selects RX1 yX1_phase yX1_phase, Cond.code yX1_phase cX1_phase 2 (some .int), Cond.methodLink RX2 71 yX3_beginRound, Cond.methodLink RX2 27 yX2_elect]
def wsL_law_r11 : List Cond := [Cond.instanceMethod yX2_elect, Cond.selects RX2 yX2_elect yX2_elect, Cond.code yX2_elect cX2_elect 4 none, Cond.fieldLink RX2 80 "ClusterField$Network" "settings" "[I", Cond.fieldLink RX2 84 "ClusterField$Sensor" "alive" "Z", Cond.fieldLink RX2 90 "ClusterField$Sensor" "elected" "Z", Cond.methodLink RX2 87 yX2_draw, Cond.instanceMethod yX2_draw, Cond.selects RX2 yX2_draw yX2_draw, Cond.code yX2_draw cX2_draw 3 (some .int), Cond.fieldLink RX2 93 "ClusterField$Network" "generator" "I", Cond.constantLong RX2 96 (1103515245), Cond.constantLong RX2 98 (12345), Cond.constantLong RX2 100 (2147483648), Cond.constant RX2 102 (65536), Cond.methodLink RX2 30 yX2_announce, Cond.instanceMethod yX2_announce, Cond.selects RX2 yX2_announce yX2_announce, Cond.code yX2_announce cX2_announce 3 none, Cond.fieldLink RX2 107 "ClusterField$Sensor" "head" "I", Cond.fieldLink RX2 110 "ClusterField$Sensor" "headRounds" "I", Cond.methodLink RX2 103 yX2_pays, Cond.instanceMethod yX2_pays, Cond.selects RX2 yX2_pays yX2_pays]
def wsL_law_r12 : List Cond := [Cond.code yX2_pays cX2_pays 3 (some .boolean), Cond.fieldLink RX2 177 "ClusterField$Sensor" "battery" "I", Cond.fieldLink RX2 180 "ClusterField$Sensor" "deathRound" "I", Cond.fieldLink RX2 183 "ClusterField$Network" "paid" "I", Cond.methodLink RX2 37 yX2_reportToBase, Cond.instanceMethod yX2_reportToBase, Cond.selects RX2 yX2_reportToBase yX2_reportToBase, Cond.code yX2_reportToBase cX2_reportToBase 3 none, Cond.methodLink RX2 160 yX2_sendToBase, Cond.instanceMethod yX2_sendToBase, Cond.selects RX2 yX2_sendToBase yX2_sendToBase, Cond.code yX2_sendToBase cX2_sendToBase 3 none, Cond.fieldLink RX2 164 "ClusterField$Network" "baseX" "I", Cond.fieldLink RX2 167 "ClusterField$Network" "baseY" "I", Cond.methodLink RX2 134 yX3_distanceTo, Cond.instanceMethod yX3_distanceTo, Cond.selects RX3 yX3_distanceTo yX3_distanceTo, Cond.code yX3_distanceTo cX3_distanceTo 5 (some .int), Cond.methodLink RX2 173 yX1_costOver, Cond.instanceMethod yX1_costOver, Cond.selects RX1 yX1_costOver yX1_costOver, Cond.code yX1_costOver cX1_costOver 3 (some .int), Cond.methodLink RX2 40 yX2_join, Cond.instanceMethod yX2_join]
def wsL_law_r13 : List Cond := [Cond.selects RX2 yX2_join yX2_join, Cond.code yX2_join cX2_join 3 none, Cond.fieldLink RX2 113 "ClusterField$Sensor" "x" "I", Cond.fieldLink RX2 116 "ClusterField$Sensor" "y" "I", Cond.methodLink RX2 119 yX2_nearestHead, Cond.instanceMethod yX2_nearestHead, Cond.selects RX2 yX2_nearestHead yX2_nearestHead, Cond.code yX2_nearestHead cX2_nearestHead 7 (some .int), Cond.methodLink RX2 131 yX2_isLivingHead, Cond.instanceMethod yX2_isLivingHead, Cond.selects RX2 yX2_isLivingHead yX2_isLivingHead, Cond.code yX2_isLivingHead cX2_isLivingHead 3 (some .boolean), Cond.methodLink RX2 123 yX2_isHead, Cond.instanceMethod yX2_isHead, Cond.selects RX2 yX2_isHead yX2_isHead, Cond.code yX2_isHead cX2_isHead 2 (some .boolean), Cond.methodLink RX2 127 yX2_giveSlots, Cond.instanceMethod yX2_giveSlots, Cond.selects RX2 yX2_giveSlots yX2_giveSlots, Cond.code yX2_giveSlots cX2_giveSlots 4 none, Cond.fieldLink RX2 141 "ClusterField$Sensor" "slot" "I", Cond.methodLink RX2 137 yX2_hasJoined, Cond.instanceMethod yX2_hasJoined, Cond.selects RX2 yX2_hasJoined yX2_hasJoined]
def wsL_law_r14 : List Cond := [Cond.code yX2_hasJoined cX2_hasJoined 3 (some .boolean), Cond.methodLink RX2 43 yX2_reportToHeads, Cond.instanceMethod yX2_reportToHeads, Cond.selects RX2 yX2_reportToHeads yX2_reportToHeads, Cond.code yX2_reportToHeads cX2_reportToHeads 2 none, Cond.methodLink RX2 144 yX2_reportTo, Cond.instanceMethod yX2_reportTo, Cond.selects RX2 yX2_reportTo yX2_reportTo, Cond.code yX2_reportTo cX2_reportTo 5 none, Cond.fieldLink RX2 151 "ClusterField$Sensor" "readings" "I", Cond.methodLink RX2 147 yX2_sends, Cond.instanceMethod yX2_sends, Cond.selects RX2 yX2_sends yX2_sends, Cond.code yX2_sends cX2_sends 3 (some .boolean), Cond.methodLink RX2 46 yX2_addOwnReadings, Cond.instanceMethod yX2_addOwnReadings, Cond.selects RX2 yX2_addOwnReadings yX2_addOwnReadings, Cond.code yX2_addOwnReadings cX2_addOwnReadings 3 none, Cond.methodLink RX2 49 yX2_deliver, Cond.instanceMethod yX2_deliver, Cond.selects RX2 yX2_deliver yX2_deliver, Cond.code yX2_deliver cX2_deliver 1 none, Cond.methodLink RX2 154 yX2_deliverThroughRelay, Cond.instanceMethod yX2_deliverThroughRelay]
def wsL_law_r15 : List Cond := [Cond.selects RX2 yX2_deliverThroughRelay yX2_deliverThroughRelay, Cond.code yX2_deliverThroughRelay cX2_deliverThroughRelay 5 none, Cond.methodLink RX2 170 yX1_has, Cond.methodLink RX2 157 yX2_deliverDirectly, Cond.instanceMethod yX2_deliverDirectly, Cond.selects RX2 yX2_deliverDirectly yX2_deliverDirectly, Cond.code yX2_deliverDirectly cX2_deliverDirectly 3 none, Cond.methodLink RL 39 yX5_run, Cond.instanceMethod yX5_run, Cond.selects RX5 yX5_run yX5_run, Cond.code yX5_run cX5_run 2 (some .int), Cond.methodLink RX5 131 yX5_alive, Cond.instanceMethod yX5_alive, Cond.selects RX5 yX5_alive yX5_alive, Cond.code yX5_alive cX5_alive 3 (some .int), Cond.methodLink RX5 137 yX5_performMany, Cond.instanceMethod yX5_performMany, Cond.selects RX5 yX5_performMany yX5_performMany, Cond.code yX5_performMany cX5_performMany 3 (some .int), Cond.methodLink RX5 134 yX5_perform, Cond.instanceMethod yX5_perform, Cond.selects RX5 yX5_perform yX5_perform, Cond.code yX5_perform cX5_perform 1 none, Cond.methodLink RX5 110 yX5_elect]
def wsL_law_r16 : List Cond := [Cond.instanceMethod yX5_elect, Cond.selects RX5 yX5_elect yX5_elect, Cond.code yX5_elect cX5_elect 3 none, Cond.methodLink RX5 71 yX5_setting, Cond.instanceMethod yX5_setting, Cond.selects RX5 yX5_setting yX5_setting, Cond.code yX5_setting cX5_setting 2 (some .int), Cond.methodLink RX5 81 yX5_draw, Cond.instanceMethod yX5_draw, Cond.selects RX5 yX5_draw yX5_draw, Cond.code yX5_draw cX5_draw 1 (some .int), Cond.constant RX5 78 (1103515245), Cond.constant RX5 79 (2147483647), Cond.constant RX5 80 (65536), Cond.methodLink RX5 113 yX5_announce, Cond.instanceMethod yX5_announce, Cond.selects RX5 yX5_announce yX5_announce, Cond.code yX5_announce cX5_announce 2 none, Cond.methodLink RX5 75 yX5_pays, Cond.instanceMethod yX5_pays, Cond.selects RX5 yX5_pays yX5_pays, Cond.code yX5_pays cX5_pays 3 (some .boolean), Cond.methodLink RX5 116 yX5_join, Cond.instanceMethod yX5_join]
def wsL_law_r17 : List Cond := [Cond.selects RX5 yX5_join yX5_join, Cond.code yX5_join cX5_join 5 none, Cond.methodLink RX5 85 yX5_isHead, Cond.instanceMethod yX5_isHead, Cond.selects RX5 yX5_isHead yX5_isHead, Cond.code yX5_isHead cX5_isHead 2 (some .boolean), Cond.methodLink RX5 91 yX5_nearestHead, Cond.instanceMethod yX5_nearestHead, Cond.selects RX5 yX5_nearestHead yX5_nearestHead, Cond.code yX5_nearestHead cX5_nearestHead 4 (some .int), Cond.methodLink RX5 88 yX5_distance, Cond.instanceMethod yX5_distance, Cond.selects RX5 yX5_distance yX5_distance, Cond.code yX5_distance cX5_distance 3 (some .int), Cond.methodLink RX5 67 yX5_distanceTo, Cond.instanceMethod yX5_distanceTo, Cond.selects RX5 yX5_distanceTo yX5_distanceTo, Cond.code yX5_distanceTo cX5_distanceTo 6 (some .int), Cond.methodLink RX5 119 yX5_deliverAlone, Cond.instanceMethod yX5_deliverAlone, Cond.selects RX5 yX5_deliverAlone yX5_deliverAlone, Cond.code yX5_deliverAlone cX5_deliverAlone 2 none, Cond.methodLink RX5 106 yX5_deliver, Cond.instanceMethod yX5_deliver]
def wsL_law_r18 : List Cond := [Cond.selects RX5 yX5_deliver yX5_deliver, Cond.code yX5_deliver cX5_deliver 2 none, Cond.methodLink RX5 100 yX5_distanceToBase, Cond.instanceMethod yX5_distanceToBase, Cond.selects RX5 yX5_distanceToBase yX5_distanceToBase, Cond.code yX5_distanceToBase cX5_distanceToBase 2 (some .int), Cond.methodLink RX5 94 yX5_sendingCost, Cond.instanceMethod yX5_sendingCost, Cond.selects RX5 yX5_sendingCost yX5_sendingCost, Cond.code yX5_sendingCost cX5_sendingCost 2 (some .int), Cond.methodLink RX5 122 yX5_report, Cond.instanceMethod yX5_report, Cond.selects RX5 yX5_report yX5_report, Cond.code yX5_report cX5_report 4 none, Cond.methodLink RX5 97 yX5_takesIn, Cond.instanceMethod yX5_takesIn, Cond.selects RX5 yX5_takesIn yX5_takesIn, Cond.code yX5_takesIn cX5_takesIn 2 (some .boolean), Cond.methodLink RX5 125 yX5_deliverByRelay, Cond.instanceMethod yX5_deliverByRelay, Cond.selects RX5 yX5_deliverByRelay yX5_deliverByRelay, Cond.code yX5_deliverByRelay cX5_deliverByRelay 4 none, Cond.methodLink RX5 103 yX5_relay, Cond.instanceMethod yX5_relay]
def wsL_law_r19 : List Cond := [Cond.selects RX5 yX5_relay yX5_relay, Cond.code yX5_relay cX5_relay 3 (some .int), Cond.methodLink RX5 128 yX5_deliverAll, Cond.instanceMethod yX5_deliverAll, Cond.selects RX5 yX5_deliverAll yX5_deliverAll, Cond.code yX5_deliverAll cX5_deliverAll 2 none, Cond.methodLink RL 40 yX4_roundNumber, Cond.instanceMethod yX4_roundNumber, Cond.selects RX4 yX4_roundNumber yX4_roundNumber, Cond.code yX4_roundNumber cX4_roundNumber 1 (some .int), Cond.methodLink RL 44 yX5_roundNumber, Cond.instanceMethod yX5_roundNumber, Cond.selects RX5 yX5_roundNumber yX5_roundNumber, Cond.code yX5_roundNumber cX5_roundNumber 1 (some .int), Cond.methodLink RL 45 yX4_sensorCount, Cond.instanceMethod yX4_sensorCount, Cond.selects RX4 yX4_sensorCount yX4_sensorCount, Cond.code yX4_sensorCount cX4_sensorCount 1 (some .int), Cond.methodLink RL 48 yX5_sensorCount, Cond.instanceMethod yX5_sensorCount, Cond.selects RX5 yX5_sensorCount yX5_sensorCount, Cond.code yX5_sensorCount cX5_sensorCount 1 (some .int), Cond.methodLink RL 49 yX4_aliveCount, Cond.instanceMethod yX4_aliveCount]
def wsL_law_r20 : List Cond := [Cond.selects RX4 yX4_aliveCount yX4_aliveCount, Cond.code yX4_aliveCount cX4_aliveCount 1 (some .int), Cond.methodLink RL 52 yX5_aliveCount, Cond.instanceMethod yX5_aliveCount, Cond.selects RX5 yX5_aliveCount yX5_aliveCount, Cond.code yX5_aliveCount cX5_aliveCount 1 (some .int), Cond.methodLink RL 53 yX4_isAlive, Cond.instanceMethod yX4_isAlive, Cond.selects RX4 yX4_isAlive yX4_isAlive, Cond.code yX4_isAlive cX4_isAlive 2 (some .int), Cond.methodLink RL 56 yX5_isAlive, Cond.instanceMethod yX5_isAlive, Cond.selects RX5 yX5_isAlive yX5_isAlive, Cond.code yX5_isAlive cX5_isAlive 2 (some .int), Cond.methodLink RX5 140 yX5_value, Cond.instanceMethod yX5_value, Cond.selects RX5 yX5_value yX5_value, Cond.code yX5_value cX5_value 3 (some .int), Cond.methodLink RL 57 yX4_battery, Cond.instanceMethod yX4_battery, Cond.selects RX4 yX4_battery yX4_battery, Cond.code yX4_battery cX4_battery 2 (some .int), Cond.methodLink RL 60 yX5_battery, Cond.instanceMethod yX5_battery]
def wsL_law_r21 : List Cond := [Cond.selects RX5 yX5_battery yX5_battery, Cond.code yX5_battery cX5_battery 2 (some .int), Cond.methodLink RL 61 yX4_isEligible, Cond.instanceMethod yX4_isEligible, Cond.selects RX4 yX4_isEligible yX4_isEligible, Cond.code yX4_isEligible cX4_isEligible 3 (some .int), Cond.fieldLink RX4 110 "ClusterField$Sensor" "eligible" "Z", Cond.methodLink RX4 113 yX1_phase, Cond.methodLink RL 64 yX5_isEligible, Cond.instanceMethod yX5_isEligible, Cond.selects RX5 yX5_isEligible yX5_isEligible, Cond.code yX5_isEligible cX5_isEligible 3 (some .int), Cond.methodLink RL 65 yX4_headRounds, Cond.instanceMethod yX4_headRounds, Cond.selects RX4 yX4_headRounds yX4_headRounds, Cond.code yX4_headRounds cX4_headRounds 2 (some .int), Cond.fieldLink RX4 116 "ClusterField$Sensor" "headRounds" "I", Cond.methodLink RL 68 yX5_headRounds, Cond.instanceMethod yX5_headRounds, Cond.selects RX5 yX5_headRounds yX5_headRounds, Cond.code yX5_headRounds cX5_headRounds 2 (some .int), Cond.methodLink RL 69 yX4_deathRound, Cond.instanceMethod yX4_deathRound, Cond.selects RX4 yX4_deathRound yX4_deathRound]
def wsL_law_r22 : List Cond := [Cond.code yX4_deathRound cX4_deathRound 2 (some .int), Cond.fieldLink RX4 119 "ClusterField$Sensor" "deathRound" "I", Cond.methodLink RL 72 yX5_deathRound, Cond.instanceMethod yX5_deathRound, Cond.selects RX5 yX5_deathRound yX5_deathRound, Cond.code yX5_deathRound cX5_deathRound 2 (some .int), Cond.methodLink RL 73 yX4_headOf, Cond.instanceMethod yX4_headOf, Cond.selects RX4 yX4_headOf yX4_headOf, Cond.code yX4_headOf cX4_headOf 2 (some .int), Cond.fieldLink RX4 122 "ClusterField$Sensor" "head" "I", Cond.methodLink RL 76 yX5_headOf, Cond.instanceMethod yX5_headOf, Cond.selects RX5 yX5_headOf yX5_headOf, Cond.code yX5_headOf cX5_headOf 2 (some .int), Cond.methodLink RL 77 yX4_slotOf, Cond.instanceMethod yX4_slotOf, Cond.selects RX4 yX4_slotOf yX4_slotOf, Cond.code yX4_slotOf cX4_slotOf 2 (some .int), Cond.fieldLink RX4 125 "ClusterField$Sensor" "slot" "I", Cond.methodLink RL 80 yX5_slotOf, Cond.instanceMethod yX5_slotOf, Cond.selects RX5 yX5_slotOf yX5_slotOf, Cond.code yX5_slotOf cX5_slotOf 2 (some .int)]
def wsL_law_r23 : List Cond := [Cond.methodLink RL 81 yX4_headCount, Cond.instanceMethod yX4_headCount, Cond.selects RX4 yX4_headCount yX4_headCount, Cond.code yX4_headCount cX4_headCount 1 (some .int), Cond.fieldLink RX4 128 "ClusterField$Network" "lastHeads" "I", Cond.methodLink RL 84 yX5_headCount, Cond.instanceMethod yX5_headCount, Cond.selects RX5 yX5_headCount yX5_headCount, Cond.code yX5_headCount cX5_headCount 1 (some .int), Cond.methodLink RL 85 yX4_lastDelivered, Cond.instanceMethod yX4_lastDelivered, Cond.selects RX4 yX4_lastDelivered yX4_lastDelivered, Cond.code yX4_lastDelivered cX4_lastDelivered 1 (some .int), Cond.fieldLink RX4 131 "ClusterField$Network" "lastReadings" "I", Cond.methodLink RL 88 yX5_lastDelivered, Cond.instanceMethod yX5_lastDelivered, Cond.selects RX5 yX5_lastDelivered yX5_lastDelivered, Cond.code yX5_lastDelivered cX5_lastDelivered 1 (some .int), Cond.methodLink RL 89 yX4_deliveredTotal, Cond.instanceMethod yX4_deliveredTotal, Cond.selects RX4 yX4_deliveredTotal yX4_deliveredTotal, Cond.code yX4_deliveredTotal cX4_deliveredTotal 1 (some .int), Cond.fieldLink RX4 134 "ClusterField$Network" "allReadings" "I", Cond.methodLink RL 92 yX5_deliveredTotal]
def wsL_law_r24 : List Cond := [Cond.instanceMethod yX5_deliveredTotal, Cond.selects RX5 yX5_deliveredTotal yX5_deliveredTotal, Cond.code yX5_deliveredTotal cX5_deliveredTotal 1 (some .int), Cond.methodLink RL 93 yX4_energyPaid, Cond.instanceMethod yX4_energyPaid, Cond.selects RX4 yX4_energyPaid yX4_energyPaid, Cond.code yX4_energyPaid cX4_energyPaid 1 (some .int), Cond.fieldLink RX4 137 "ClusterField$Network" "paid" "I", Cond.methodLink RL 96 yX5_energyPaid, Cond.instanceMethod yX5_energyPaid, Cond.selects RX5 yX5_energyPaid yX5_energyPaid, Cond.code yX5_energyPaid cX5_energyPaid 1 (some .int), Cond.methodLink RL 97 yX4_sendCost, Cond.instanceMethod yX4_sendCost, Cond.selects RX4 yX4_sendCost yX4_sendCost, Cond.code yX4_sendCost cX4_sendCost 5 (some .int), Cond.fieldLink RX4 147 "ClusterField$Sensor" "x" "I", Cond.fieldLink RX4 150 "ClusterField$Sensor" "y" "I", Cond.methodLink RX4 140 yX3_distanceTo, Cond.methodLink RX4 144 yX1_costOver, Cond.methodLink RL 100 yX5_sendCost, Cond.instanceMethod yX5_sendCost, Cond.selects RX5 yX5_sendCost yX5_sendCost, Cond.code yX5_sendCost cX5_sendCost 3 (some .int)]
def wsL_law_r25 : List Cond := [Cond.methodLink RL 101 yX4_forecastDeath, Cond.instanceMethod yX4_forecastDeath, Cond.selects RX4 yX4_forecastDeath yX4_forecastDeath, Cond.code yX4_forecastDeath cX4_forecastDeath 3 (some .int), Cond.methodLink RX4 153 yX1_copyFrom, Cond.methodLink RL 104 yX5_forecastDeath, Cond.instanceMethod yX5_forecastDeath, Cond.selects RX5 yX5_forecastDeath yX5_forecastDeath, Cond.code yX5_forecastDeath cX5_forecastDeath 4 (some .int), Cond.methodLink RX5 143 yX5_takeCopy, Cond.instanceMethod yX5_takeCopy, Cond.selects RX5 yX5_takeCopy yX5_takeCopy, Cond.code yX5_takeCopy cX5_takeCopy 2 none, Cond.methodLink RX5 146 yX5_putBack, Cond.instanceMethod yX5_putBack, Cond.selects RX5 yX5_putBack yX5_putBack, Cond.code yX5_putBack cX5_putBack 2 none, Cond.methodLink RL 105 yX4_forecastDelivered, Cond.instanceMethod yX4_forecastDelivered, Cond.selects RX4 yX4_forecastDelivered yX4_forecastDelivered, Cond.code yX4_forecastDelivered cX4_forecastDelivered 2 (some .int), Cond.methodLink RL 108 yX5_forecastDelivered, Cond.instanceMethod yX5_forecastDelivered, Cond.selects RX5 yX5_forecastDelivered yX5_forecastDelivered]
def wsL_law_r26 : List Cond := [Cond.code yX5_forecastDelivered cX5_forecastDelivered 3 (some .int), Cond.methodLink RL 109 yX4_undo, Cond.instanceMethod yX4_undo, Cond.selects RX4 yX4_undo yX4_undo, Cond.code yX4_undo cX4_undo 1 (some .int), Cond.fieldLink RX4 156 "ClusterField$History" "depth" "I", Cond.methodLink RX4 159 yX0_popInto, Cond.instanceMethod yX0_popInto, Cond.selects RX0 yX0_popInto yX0_popInto, Cond.code yX0_popInto cX0_popInto 2 none, Cond.methodLink RL 112 yX5_undo, Cond.instanceMethod yX5_undo, Cond.selects RX5 yX5_undo yX5_undo, Cond.code yX5_undo cX5_undo 2 (some .int), Cond.methodLink RL 113 yX4_undoDepth, Cond.instanceMethod yX4_undoDepth, Cond.selects RX4 yX4_undoDepth yX4_undoDepth, Cond.code yX4_undoDepth cX4_undoDepth 1 (some .int), Cond.methodLink RL 116 yX5_undoDepth, Cond.instanceMethod yX5_undoDepth, Cond.selects RX5 yX5_undoDepth yX5_undoDepth, Cond.code yX5_undoDepth cX5_undoDepth 1 (some .int), Cond.methodLink RL 117 yX4_save, Cond.instanceMethod yX4_save]
def wsL_law_r27 : List Cond := [Cond.selects RX4 yX4_save yX4_save, Cond.code yX4_save cX4_save 2 (some .int), Cond.methodLink RL 120 yX5_save, Cond.instanceMethod yX5_save, Cond.selects RX5 yX5_save yX5_save, Cond.code yX5_save cX5_save 3 (some .int), Cond.methodLink RL 121 yX4_restore, Cond.instanceMethod yX4_restore, Cond.selects RX4 yX4_restore yX4_restore, Cond.code yX4_restore cX4_restore 2 (some .int), Cond.methodLink RL 124 yX5_restore, Cond.instanceMethod yX5_restore, Cond.selects RX5 yX5_restore yX5_restore, Cond.code yX5_restore cX5_restore 3 (some .int)]
def wsL_law : List Cond := (wsL_law_r1 ++ (wsL_law_r2 ++ (wsL_law_r3 ++ (wsL_law_r4 ++ (wsL_law_r5 ++ (wsL_law_r6 ++ (wsL_law_r7 ++ (wsL_law_r8 ++ (wsL_law_r9 ++ (wsL_law_r10 ++ (wsL_law_r11 ++ (wsL_law_r12 ++ (wsL_law_r13 ++ (wsL_law_r14 ++ (wsL_law_r15 ++ (wsL_law_r16 ++ (wsL_law_r17 ++ (wsL_law_r18 ++ (wsL_law_r19 ++ (wsL_law_r20 ++ (wsL_law_r21 ++ (wsL_law_r22 ++ (wsL_law_r23 ++ (wsL_law_r24 ++ (wsL_law_r25 ++ (wsL_law_r26 ++ wsL_law_r27)))))))))))))))))))))))))) ++ wsX40 ++ wsX50 ++ wsX10 ++ wsX20 ++ wsX00 ++ wsX30 ++ ([] : List Cond)
set_option maxRecDepth 20000 in
theorem wsL_law_in : ∀ w ∈ wsL_law, w ∈ lw_tbl := fun w h => (goodIn_p wsL_law [42, 45, 50, 57, 180, 190, 494, 229, 232, 237, 241, 245, 249, 253, 257, 527, 530, 535, 539, 261, 543, 265, 547, 550, 273, 554, 277, 281, 558, 562, 566, 570, 286, 290, 294, 299, 303, 307, 312, 316, 324, 328, 332, 336, 340, 344, 348, 352, 356, 360, 364, 368, 372, 376, 380, 384, 388, 392, 397, 575, 579, 583, 587, 591, 595, 599, 606, 610, 614, 618, 622, 626, 630, 634, 638, 642, 646, 650, 654, 658, 662, 666, 401, 670, 405, 674, 409, 678, 413, 682, 686, 417, 690, 421, 694, 426, 698, 430, 702, 434, 706, 438, 710, 442, 714, 446, 718, 450, 722, 454, 726, 458, 730, 464, 734, 738, 742, 469, 746, 473, 477, 750, 481, 754, 485, 758, 489, 762] (by decide +kernel) (by decide +kernel) w h).1
theorem inlX0 : ∀ w ∈ wsX00, w ∈ wsL_law := fun _ h => List.mem_append_left _ (List.mem_append_left _ (List.mem_append_right _ h))
theorem inX0 : ∀ w ∈ wsX00, w ∈ lw_tbl := fun w h => wsL_law_in w (inlX0 w h)
theorem inlX1 : ∀ w ∈ wsX10, w ∈ wsL_law := fun _ h => List.mem_append_left _ (List.mem_append_left _ (List.mem_append_left _ (List.mem_append_left _ (List.mem_append_right _ h))))
theorem inX1 : ∀ w ∈ wsX10, w ∈ lw_tbl := fun w h => wsL_law_in w (inlX1 w h)
theorem inlX2 : ∀ w ∈ wsX20, w ∈ wsL_law := fun _ h => List.mem_append_left _ (List.mem_append_left _ (List.mem_append_left _ (List.mem_append_right _ h)))
theorem inX2 : ∀ w ∈ wsX20, w ∈ lw_tbl := fun w h => wsL_law_in w (inlX2 w h)
theorem inlX3 : ∀ w ∈ wsX30, w ∈ wsL_law := fun _ h => List.mem_append_left _ (List.mem_append_right _ h)
theorem inX3 : ∀ w ∈ wsX30, w ∈ lw_tbl := fun w h => wsL_law_in w (inlX3 w h)
theorem inlX4 : ∀ w ∈ wsX40, w ∈ wsL_law := fun _ h => List.mem_append_left _ (List.mem_append_left _ (List.mem_append_left _ (List.mem_append_left _ (List.mem_append_left _ (List.mem_append_left _ (List.mem_append_right _ h))))))
theorem inX4 : ∀ w ∈ wsX40, w ∈ lw_tbl := fun w h => wsL_law_in w (inlX4 w h)
theorem inlX5 : ∀ w ∈ wsX50, w ∈ wsL_law := fun _ h => List.mem_append_left _ (List.mem_append_left _ (List.mem_append_left _ (List.mem_append_left _ (List.mem_append_left _ (List.mem_append_right _ h)))))
theorem inX5 : ∀ w ∈ wsX50, w ∈ lw_tbl := fun w h => wsL_law_in w (inlX5 w h)
theorem inJ10 : ∀ w ∈ wsJ100, w ∈ lw_tbl := by decide +kernel
set_option maxRecDepth 20000 in
theorem ggX0_init_X1_init : GoodIn wsX0_init wsX1_init := goodIn_r _ [10, 11, 2, 3, 12, 13, 14, 15, 16, 17, 18, 19, 20, 21, 22, 23, 24, 25, 26, 27, 28, 31, 32, 33, 34, 35, 36, 37, 38, 39, 40, 41, 42, 43, 44, 45, 46, 47, 48, 49, 50, 51, 52] (by decide +kernel) (by decide +kernel)
set_option maxRecDepth 20000 in
theorem gX0_init_X1_init : GoodIn wsX0_init (wsX1_init) := ggX0_init_X1_init
theorem dX0_init_0 : decode cX0_init 0 = .ok (.aload_n 0, 1) := by decide +kernel
theorem dX0_init_1 : decode cX0_init 1 = .ok (.invokespecial 1, 3) := by decide +kernel
theorem dX0_init_4 : decode cX0_init 4 = .ok (.aload_n 0, 1) := by decide +kernel
theorem dX0_init_5 : decode cX0_init 5 = .ok (.bipush 6, 2) := by decide +kernel
theorem dX0_init_7 : decode cX0_init 7 = .ok (.anewarray 9, 3) := by decide +kernel
theorem dX0_init_10 : decode cX0_init 10 = .ok (.putfield 11, 3) := by decide +kernel
theorem dX0_init_13 : decode cX0_init 13 = .ok (.iconst 0, 1) := by decide +kernel
theorem dX0_init_14 : decode cX0_init 14 = .ok (.istore_n 1, 1) := by decide +kernel
theorem dX0_init_15 : decode cX0_init 15 = .ok (.iload_n 1, 1) := by decide +kernel
theorem dX0_init_16 : decode cX0_init 16 = .ok (.bipush 6, 2) := by decide +kernel
theorem dX0_init_18 : decode cX0_init 18 = .ok (.if_icmp .ge 22, 3) := by decide +kernel
theorem dX0_init_21 : decode cX0_init 21 = .ok (.aload_n 0, 1) := by decide +kernel
theorem dX0_init_22 : decode cX0_init 22 = .ok (.getfield 11, 3) := by decide +kernel
theorem dX0_init_25 : decode cX0_init 25 = .ok (.iload_n 1, 1) := by decide +kernel
theorem dX0_init_26 : decode cX0_init 26 = .ok (.new 9, 3) := by decide +kernel
theorem dX0_init_29 : decode cX0_init 29 = .ok (.dup, 1) := by decide +kernel
theorem dX0_init_30 : decode cX0_init 30 = .ok (.invokespecial 15, 3) := by decide +kernel
theorem dX0_init_33 : decode cX0_init 33 = .ok (.aastore, 1) := by decide +kernel
theorem dX0_init_34 : decode cX0_init 34 = .ok (.iinc 1 1, 3) := by decide +kernel
theorem dX0_init_37 : decode cX0_init 37 = .ok (.goto (-22), 3) := by decide +kernel
theorem dX0_init_40 : decode cX0_init 40 = .ok (.return_, 1) := by decide +kernel
set_option maxRecDepth 20000 in
theorem ggX0_push_X0_dropOldest : GoodIn wsX0_push wsX0_dropOldest := goodIn_r _ [7, 2, 1, 42, 43] (by decide +kernel) (by decide +kernel)
set_option maxRecDepth 20000 in
theorem gX0_push_X0_dropOldest : GoodIn wsX0_push (wsV RX0 20 RX0 yX0_dropOldest wsX0_dropOldest) := goodIn_app (goodIn_of _ (by decide +kernel)) ggX0_push_X0_dropOldest
set_option maxRecDepth 20000 in
theorem ggX0_push_X1_copyFrom : GoodIn wsX0_push wsX1_copyFrom := goodIn_r _ [12, 13, 14, 15, 16, 17, 18, 19, 20, 21, 22, 23, 24, 25, 26, 27, 28, 29, 30, 31, 32, 33, 34, 35, 36, 37, 38, 39, 40, 41, 44, 45, 46, 47, 48, 49, 50, 51, 52, 53, 54, 55, 56, 57, 58, 59, 60, 61, 62, 63, 64, 65] (by decide +kernel) (by decide +kernel)
set_option maxRecDepth 20000 in
theorem gX0_push_X1_copyFrom : GoodIn wsX0_push (wsV RX0 23 RX1 yX1_copyFrom wsX1_copyFrom) := goodIn_app (goodIn_of _ (by decide +kernel)) ggX0_push_X1_copyFrom
theorem dX0_push_0 : decode cX0_push 0 = .ok (.aload_n 0, 1) := by decide +kernel
theorem dX0_push_1 : decode cX0_push 1 = .ok (.getfield 16, 3) := by decide +kernel
theorem dX0_push_4 : decode cX0_push 4 = .ok (.bipush 6, 2) := by decide +kernel
theorem dX0_push_6 : decode cX0_push 6 = .ok (.if_icmp .lt 7, 3) := by decide +kernel
theorem dX0_push_9 : decode cX0_push 9 = .ok (.aload_n 0, 1) := by decide +kernel
theorem dX0_push_10 : decode cX0_push 10 = .ok (.invokevirtual 20, 3) := by decide +kernel
theorem dX0_push_13 : decode cX0_push 13 = .ok (.aload_n 0, 1) := by decide +kernel
theorem dX0_push_14 : decode cX0_push 14 = .ok (.getfield 11, 3) := by decide +kernel
theorem dX0_push_17 : decode cX0_push 17 = .ok (.aload_n 0, 1) := by decide +kernel
theorem dX0_push_18 : decode cX0_push 18 = .ok (.getfield 16, 3) := by decide +kernel
theorem dX0_push_21 : decode cX0_push 21 = .ok (.aaload, 1) := by decide +kernel
theorem dX0_push_22 : decode cX0_push 22 = .ok (.aload_n 1, 1) := by decide +kernel
theorem dX0_push_23 : decode cX0_push 23 = .ok (.invokevirtual 23, 3) := by decide +kernel
theorem dX0_push_26 : decode cX0_push 26 = .ok (.aload_n 0, 1) := by decide +kernel
theorem dX0_push_27 : decode cX0_push 27 = .ok (.dup, 1) := by decide +kernel
theorem dX0_push_28 : decode cX0_push 28 = .ok (.getfield 16, 3) := by decide +kernel
theorem dX0_push_31 : decode cX0_push 31 = .ok (.iconst 1, 1) := by decide +kernel
theorem dX0_push_32 : decode cX0_push 32 = .ok (.iadd, 1) := by decide +kernel
theorem dX0_push_33 : decode cX0_push 33 = .ok (.putfield 16, 3) := by decide +kernel
theorem dX0_push_36 : decode cX0_push 36 = .ok (.return_, 1) := by decide +kernel
theorem dX0_dropOldest_0 : decode cX0_dropOldest 0 = .ok (.aload_n 0, 1) := by decide +kernel
theorem dX0_dropOldest_1 : decode cX0_dropOldest 1 = .ok (.getfield 11, 3) := by decide +kernel
theorem dX0_dropOldest_4 : decode cX0_dropOldest 4 = .ok (.iconst 0, 1) := by decide +kernel
theorem dX0_dropOldest_5 : decode cX0_dropOldest 5 = .ok (.aaload, 1) := by decide +kernel
theorem dX0_dropOldest_6 : decode cX0_dropOldest 6 = .ok (.astore_n 1, 1) := by decide +kernel
theorem dX0_dropOldest_7 : decode cX0_dropOldest 7 = .ok (.iconst 1, 1) := by decide +kernel
theorem dX0_dropOldest_8 : decode cX0_dropOldest 8 = .ok (.istore_n 2, 1) := by decide +kernel
theorem dX0_dropOldest_9 : decode cX0_dropOldest 9 = .ok (.iload_n 2, 1) := by decide +kernel
theorem dX0_dropOldest_10 : decode cX0_dropOldest 10 = .ok (.bipush 6, 2) := by decide +kernel
theorem dX0_dropOldest_12 : decode cX0_dropOldest 12 = .ok (.if_icmp .ge 23, 3) := by decide +kernel
theorem dX0_dropOldest_15 : decode cX0_dropOldest 15 = .ok (.aload_n 0, 1) := by decide +kernel
theorem dX0_dropOldest_16 : decode cX0_dropOldest 16 = .ok (.getfield 11, 3) := by decide +kernel
theorem dX0_dropOldest_19 : decode cX0_dropOldest 19 = .ok (.iload_n 2, 1) := by decide +kernel
theorem dX0_dropOldest_20 : decode cX0_dropOldest 20 = .ok (.iconst 1, 1) := by decide +kernel
theorem dX0_dropOldest_21 : decode cX0_dropOldest 21 = .ok (.isub, 1) := by decide +kernel
theorem dX0_dropOldest_22 : decode cX0_dropOldest 22 = .ok (.aload_n 0, 1) := by decide +kernel
theorem dX0_dropOldest_23 : decode cX0_dropOldest 23 = .ok (.getfield 11, 3) := by decide +kernel
theorem dX0_dropOldest_26 : decode cX0_dropOldest 26 = .ok (.iload_n 2, 1) := by decide +kernel
theorem dX0_dropOldest_27 : decode cX0_dropOldest 27 = .ok (.aaload, 1) := by decide +kernel
theorem dX0_dropOldest_28 : decode cX0_dropOldest 28 = .ok (.aastore, 1) := by decide +kernel
theorem dX0_dropOldest_29 : decode cX0_dropOldest 29 = .ok (.iinc 2 1, 3) := by decide +kernel
theorem dX0_dropOldest_32 : decode cX0_dropOldest 32 = .ok (.goto (-23), 3) := by decide +kernel
theorem dX0_dropOldest_35 : decode cX0_dropOldest 35 = .ok (.aload_n 0, 1) := by decide +kernel
theorem dX0_dropOldest_36 : decode cX0_dropOldest 36 = .ok (.getfield 11, 3) := by decide +kernel
theorem dX0_dropOldest_39 : decode cX0_dropOldest 39 = .ok (.iconst 5, 1) := by decide +kernel
theorem dX0_dropOldest_40 : decode cX0_dropOldest 40 = .ok (.aload_n 1, 1) := by decide +kernel
theorem dX0_dropOldest_41 : decode cX0_dropOldest 41 = .ok (.aastore, 1) := by decide +kernel
theorem dX0_dropOldest_42 : decode cX0_dropOldest 42 = .ok (.aload_n 0, 1) := by decide +kernel
theorem dX0_dropOldest_43 : decode cX0_dropOldest 43 = .ok (.iconst 5, 1) := by decide +kernel
theorem dX0_dropOldest_44 : decode cX0_dropOldest 44 = .ok (.putfield 16, 3) := by decide +kernel
theorem dX0_dropOldest_47 : decode cX0_dropOldest 47 = .ok (.return_, 1) := by decide +kernel
set_option maxRecDepth 20000 in
theorem ggX0_popInto_X1_copyFrom : GoodIn wsX0_popInto wsX1_copyFrom := goodIn_r _ [7, 8, 9, 10, 11, 12, 13, 14, 15, 16, 17, 18, 19, 20, 21, 22, 23, 24, 25, 26, 27, 28, 29, 30, 31, 32, 33, 34, 35, 36, 39, 40, 41, 42, 43, 44, 45, 46, 47, 48, 49, 50, 51, 52, 53, 54, 55, 56, 57, 58, 59, 60] (by decide +kernel) (by decide +kernel)
set_option maxRecDepth 20000 in
theorem gX0_popInto_X1_copyFrom : GoodIn wsX0_popInto (wsV RX0 23 RX1 yX1_copyFrom wsX1_copyFrom) := goodIn_app (goodIn_of _ (by decide +kernel)) ggX0_popInto_X1_copyFrom
theorem dX0_popInto_0 : decode cX0_popInto 0 = .ok (.aload_n 0, 1) := by decide +kernel
theorem dX0_popInto_1 : decode cX0_popInto 1 = .ok (.getfield 16, 3) := by decide +kernel
theorem dX0_popInto_4 : decode cX0_popInto 4 = .ok (.ifCond .le 26, 3) := by decide +kernel
theorem dX0_popInto_7 : decode cX0_popInto 7 = .ok (.aload_n 0, 1) := by decide +kernel
theorem dX0_popInto_8 : decode cX0_popInto 8 = .ok (.dup, 1) := by decide +kernel
theorem dX0_popInto_9 : decode cX0_popInto 9 = .ok (.getfield 16, 3) := by decide +kernel
theorem dX0_popInto_12 : decode cX0_popInto 12 = .ok (.iconst 1, 1) := by decide +kernel
theorem dX0_popInto_13 : decode cX0_popInto 13 = .ok (.isub, 1) := by decide +kernel
theorem dX0_popInto_14 : decode cX0_popInto 14 = .ok (.putfield 16, 3) := by decide +kernel
theorem dX0_popInto_17 : decode cX0_popInto 17 = .ok (.aload_n 1, 1) := by decide +kernel
theorem dX0_popInto_18 : decode cX0_popInto 18 = .ok (.aload_n 0, 1) := by decide +kernel
theorem dX0_popInto_19 : decode cX0_popInto 19 = .ok (.getfield 11, 3) := by decide +kernel
theorem dX0_popInto_22 : decode cX0_popInto 22 = .ok (.aload_n 0, 1) := by decide +kernel
theorem dX0_popInto_23 : decode cX0_popInto 23 = .ok (.getfield 16, 3) := by decide +kernel
theorem dX0_popInto_26 : decode cX0_popInto 26 = .ok (.aaload, 1) := by decide +kernel
theorem dX0_popInto_27 : decode cX0_popInto 27 = .ok (.invokevirtual 23, 3) := by decide +kernel
theorem dX0_popInto_30 : decode cX0_popInto 30 = .ok (.return_, 1) := by decide +kernel
set_option maxRecDepth 20000 in
theorem ggX1_init_X3_init : GoodIn wsX1_init wsX3_init := goodIn_r _ [19, 20, 2, 3] (by decide +kernel) (by decide +kernel)
set_option maxRecDepth 20000 in
theorem gX1_init_X3_init_n31 : GoodIn wsX1_init (wsX3_init) := ggX1_init_X3_init
theorem dX1_init_0 : decode cX1_init 0 = .ok (.aload_n 0, 1) := by decide +kernel
theorem dX1_init_1 : decode cX1_init 1 = .ok (.invokespecial 3, 3) := by decide +kernel
theorem dX1_init_4 : decode cX1_init 4 = .ok (.aload_n 0, 1) := by decide +kernel
theorem dX1_init_5 : decode cX1_init 5 = .ok (.bipush 12, 2) := by decide +kernel
theorem dX1_init_7 : decode cX1_init 7 = .ok (.anewarray 9, 3) := by decide +kernel
theorem dX1_init_10 : decode cX1_init 10 = .ok (.putfield 11, 3) := by decide +kernel
theorem dX1_init_13 : decode cX1_init 13 = .ok (.aload_n 0, 1) := by decide +kernel
theorem dX1_init_14 : decode cX1_init 14 = .ok (.bipush 6, 2) := by decide +kernel
theorem dX1_init_16 : decode cX1_init 16 = .ok (.newarray .int, 2) := by decide +kernel
theorem dX1_init_18 : decode cX1_init 18 = .ok (.putfield 17, 3) := by decide +kernel
theorem dX1_init_21 : decode cX1_init 21 = .ok (.aload_n 0, 1) := by decide +kernel
theorem dX1_init_22 : decode cX1_init 22 = .ok (.bipush 50, 2) := by decide +kernel
theorem dX1_init_24 : decode cX1_init 24 = .ok (.putfield 21, 3) := by decide +kernel
theorem dX1_init_27 : decode cX1_init 27 = .ok (.aload_n 0, 1) := by decide +kernel
theorem dX1_init_28 : decode cX1_init 28 = .ok (.sipush 150, 3) := by decide +kernel
theorem dX1_init_31 : decode cX1_init 31 = .ok (.putfield 25, 3) := by decide +kernel
theorem dX1_init_34 : decode cX1_init 34 = .ok (.aload_n 0, 1) := by decide +kernel
theorem dX1_init_35 : decode cX1_init 35 = .ok (.iconst 1, 1) := by decide +kernel
theorem dX1_init_36 : decode cX1_init 36 = .ok (.putfield 28, 3) := by decide +kernel
theorem dX1_init_39 : decode cX1_init 39 = .ok (.iconst 0, 1) := by decide +kernel
theorem dX1_init_40 : decode cX1_init 40 = .ok (.istore_n 1, 1) := by decide +kernel
theorem dX1_init_41 : decode cX1_init 41 = .ok (.iload_n 1, 1) := by decide +kernel
theorem dX1_init_42 : decode cX1_init 42 = .ok (.bipush 12, 2) := by decide +kernel
theorem dX1_init_44 : decode cX1_init 44 = .ok (.if_icmp .ge 22, 3) := by decide +kernel
theorem dX1_init_47 : decode cX1_init 47 = .ok (.aload_n 0, 1) := by decide +kernel
theorem dX1_init_48 : decode cX1_init 48 = .ok (.getfield 11, 3) := by decide +kernel
theorem dX1_init_51 : decode cX1_init 51 = .ok (.iload_n 1, 1) := by decide +kernel
theorem dX1_init_52 : decode cX1_init 52 = .ok (.new 9, 3) := by decide +kernel
theorem dX1_init_55 : decode cX1_init 55 = .ok (.dup, 1) := by decide +kernel
theorem dX1_init_56 : decode cX1_init 56 = .ok (.invokespecial 31, 3) := by decide +kernel
theorem dX1_init_59 : decode cX1_init 59 = .ok (.aastore, 1) := by decide +kernel
theorem dX1_init_60 : decode cX1_init 60 = .ok (.iinc 1 1, 3) := by decide +kernel
theorem dX1_init_63 : decode cX1_init 63 = .ok (.goto (-22), 3) := by decide +kernel
theorem dX1_init_66 : decode cX1_init 66 = .ok (.getstatic 32, 3) := by decide +kernel
theorem dX1_init_69 : decode cX1_init 69 = .ok (.iconst 0, 1) := by decide +kernel
theorem dX1_init_70 : decode cX1_init 70 = .ok (.aload_n 0, 1) := by decide +kernel
theorem dX1_init_71 : decode cX1_init 71 = .ok (.getfield 17, 3) := by decide +kernel
theorem dX1_init_74 : decode cX1_init 74 = .ok (.iconst 0, 1) := by decide +kernel
theorem dX1_init_75 : decode cX1_init 75 = .ok (.bipush 6, 2) := by decide +kernel
theorem dX1_init_77 : decode cX1_init 77 = .ok (.invokestatic 35, 3) := by decide +kernel
theorem dX1_init_80 : decode cX1_init 80 = .ok (.return_, 1) := by decide +kernel
set_option maxRecDepth 20000 in
theorem ggX1_copyFrom_X3_copyFrom : GoodIn wsX1_copyFrom wsX3_copyFrom := goodIn_r _ [20, 21, 22, 23, 24, 25, 26, 27, 28, 29, 41, 42, 43, 44, 45, 46, 47, 48, 49, 50, 51] (by decide +kernel) (by decide +kernel)
set_option maxRecDepth 20000 in
theorem gX1_copyFrom_X3_copyFrom : GoodIn wsX1_copyFrom (wsV RX1 44 RX3 yX3_copyFrom wsX3_copyFrom) := goodIn_app (goodIn_of _ (by decide +kernel)) ggX1_copyFrom_X3_copyFrom
theorem dX1_copyFrom_0 : decode cX1_copyFrom 0 = .ok (.aload_n 0, 1) := by decide +kernel
theorem dX1_copyFrom_1 : decode cX1_copyFrom 1 = .ok (.aload_n 1, 1) := by decide +kernel
theorem dX1_copyFrom_2 : decode cX1_copyFrom 2 = .ok (.getfield 41, 3) := by decide +kernel
theorem dX1_copyFrom_5 : decode cX1_copyFrom 5 = .ok (.putfield 41, 3) := by decide +kernel
theorem dX1_copyFrom_8 : decode cX1_copyFrom 8 = .ok (.iconst 0, 1) := by decide +kernel
theorem dX1_copyFrom_9 : decode cX1_copyFrom 9 = .ok (.istore_n 2, 1) := by decide +kernel
theorem dX1_copyFrom_10 : decode cX1_copyFrom 10 = .ok (.iload_n 2, 1) := by decide +kernel
theorem dX1_copyFrom_11 : decode cX1_copyFrom 11 = .ok (.aload_n 0, 1) := by decide +kernel
theorem dX1_copyFrom_12 : decode cX1_copyFrom 12 = .ok (.getfield 41, 3) := by decide +kernel
theorem dX1_copyFrom_15 : decode cX1_copyFrom 15 = .ok (.if_icmp .ge 24, 3) := by decide +kernel
theorem dX1_copyFrom_18 : decode cX1_copyFrom 18 = .ok (.aload_n 0, 1) := by decide +kernel
theorem dX1_copyFrom_19 : decode cX1_copyFrom 19 = .ok (.getfield 11, 3) := by decide +kernel
theorem dX1_copyFrom_22 : decode cX1_copyFrom 22 = .ok (.iload_n 2, 1) := by decide +kernel
theorem dX1_copyFrom_23 : decode cX1_copyFrom 23 = .ok (.aaload, 1) := by decide +kernel
theorem dX1_copyFrom_24 : decode cX1_copyFrom 24 = .ok (.aload_n 1, 1) := by decide +kernel
theorem dX1_copyFrom_25 : decode cX1_copyFrom 25 = .ok (.getfield 11, 3) := by decide +kernel
theorem dX1_copyFrom_28 : decode cX1_copyFrom 28 = .ok (.iload_n 2, 1) := by decide +kernel
theorem dX1_copyFrom_29 : decode cX1_copyFrom 29 = .ok (.aaload, 1) := by decide +kernel
theorem dX1_copyFrom_30 : decode cX1_copyFrom 30 = .ok (.invokevirtual 44, 3) := by decide +kernel
theorem dX1_copyFrom_33 : decode cX1_copyFrom 33 = .ok (.iinc 2 1, 3) := by decide +kernel
theorem dX1_copyFrom_36 : decode cX1_copyFrom 36 = .ok (.goto (-26), 3) := by decide +kernel
theorem dX1_copyFrom_39 : decode cX1_copyFrom 39 = .ok (.aload_n 1, 1) := by decide +kernel
theorem dX1_copyFrom_40 : decode cX1_copyFrom 40 = .ok (.getfield 17, 3) := by decide +kernel
theorem dX1_copyFrom_43 : decode cX1_copyFrom 43 = .ok (.iconst 0, 1) := by decide +kernel
theorem dX1_copyFrom_44 : decode cX1_copyFrom 44 = .ok (.aload_n 0, 1) := by decide +kernel
theorem dX1_copyFrom_45 : decode cX1_copyFrom 45 = .ok (.getfield 17, 3) := by decide +kernel
theorem dX1_copyFrom_48 : decode cX1_copyFrom 48 = .ok (.iconst 0, 1) := by decide +kernel
theorem dX1_copyFrom_49 : decode cX1_copyFrom 49 = .ok (.bipush 6, 2) := by decide +kernel
theorem dX1_copyFrom_51 : decode cX1_copyFrom 51 = .ok (.invokestatic 35, 3) := by decide +kernel
theorem dX1_copyFrom_54 : decode cX1_copyFrom 54 = .ok (.aload_n 0, 1) := by decide +kernel
theorem dX1_copyFrom_55 : decode cX1_copyFrom 55 = .ok (.aload_n 1, 1) := by decide +kernel
theorem dX1_copyFrom_56 : decode cX1_copyFrom 56 = .ok (.getfield 21, 3) := by decide +kernel
theorem dX1_copyFrom_59 : decode cX1_copyFrom 59 = .ok (.putfield 21, 3) := by decide +kernel
theorem dX1_copyFrom_62 : decode cX1_copyFrom 62 = .ok (.aload_n 0, 1) := by decide +kernel
theorem dX1_copyFrom_63 : decode cX1_copyFrom 63 = .ok (.aload_n 1, 1) := by decide +kernel
theorem dX1_copyFrom_64 : decode cX1_copyFrom 64 = .ok (.getfield 25, 3) := by decide +kernel
theorem dX1_copyFrom_67 : decode cX1_copyFrom 67 = .ok (.putfield 25, 3) := by decide +kernel
theorem dX1_copyFrom_70 : decode cX1_copyFrom 70 = .ok (.aload_n 0, 1) := by decide +kernel
theorem dX1_copyFrom_71 : decode cX1_copyFrom 71 = .ok (.aload_n 1, 1) := by decide +kernel
theorem dX1_copyFrom_72 : decode cX1_copyFrom 72 = .ok (.getfield 28, 3) := by decide +kernel
theorem dX1_copyFrom_75 : decode cX1_copyFrom 75 = .ok (.putfield 28, 3) := by decide +kernel
theorem dX1_copyFrom_78 : decode cX1_copyFrom 78 = .ok (.aload_n 0, 1) := by decide +kernel
theorem dX1_copyFrom_79 : decode cX1_copyFrom 79 = .ok (.aload_n 1, 1) := by decide +kernel
theorem dX1_copyFrom_80 : decode cX1_copyFrom 80 = .ok (.getfield 48, 3) := by decide +kernel
theorem dX1_copyFrom_83 : decode cX1_copyFrom 83 = .ok (.putfield 48, 3) := by decide +kernel
theorem dX1_copyFrom_86 : decode cX1_copyFrom 86 = .ok (.aload_n 0, 1) := by decide +kernel
theorem dX1_copyFrom_87 : decode cX1_copyFrom 87 = .ok (.aload_n 1, 1) := by decide +kernel
theorem dX1_copyFrom_88 : decode cX1_copyFrom 88 = .ok (.getfield 51, 3) := by decide +kernel
theorem dX1_copyFrom_91 : decode cX1_copyFrom 91 = .ok (.putfield 51, 3) := by decide +kernel
theorem dX1_copyFrom_94 : decode cX1_copyFrom 94 = .ok (.aload_n 0, 1) := by decide +kernel
theorem dX1_copyFrom_95 : decode cX1_copyFrom 95 = .ok (.aload_n 1, 1) := by decide +kernel
theorem dX1_copyFrom_96 : decode cX1_copyFrom 96 = .ok (.getfield 54, 3) := by decide +kernel
theorem dX1_copyFrom_99 : decode cX1_copyFrom 99 = .ok (.putfield 54, 3) := by decide +kernel
theorem dX1_copyFrom_102 : decode cX1_copyFrom 102 = .ok (.aload_n 0, 1) := by decide +kernel
theorem dX1_copyFrom_103 : decode cX1_copyFrom 103 = .ok (.aload_n 1, 1) := by decide +kernel
theorem dX1_copyFrom_104 : decode cX1_copyFrom 104 = .ok (.getfield 57, 3) := by decide +kernel
theorem dX1_copyFrom_107 : decode cX1_copyFrom 107 = .ok (.putfield 57, 3) := by decide +kernel
theorem dX1_copyFrom_110 : decode cX1_copyFrom 110 = .ok (.aload_n 0, 1) := by decide +kernel
theorem dX1_copyFrom_111 : decode cX1_copyFrom 111 = .ok (.aload_n 1, 1) := by decide +kernel
theorem dX1_copyFrom_112 : decode cX1_copyFrom 112 = .ok (.getfield 60, 3) := by decide +kernel
theorem dX1_copyFrom_115 : decode cX1_copyFrom 115 = .ok (.putfield 60, 3) := by decide +kernel
theorem dX1_copyFrom_118 : decode cX1_copyFrom 118 = .ok (.return_, 1) := by decide +kernel
theorem dX1_has_0 : decode cX1_has 0 = .ok (.iload_n 1, 1) := by decide +kernel
theorem dX1_has_1 : decode cX1_has 1 = .ok (.ifCond .lt 15, 3) := by decide +kernel
theorem dX1_has_4 : decode cX1_has 4 = .ok (.iload_n 1, 1) := by decide +kernel
theorem dX1_has_5 : decode cX1_has 5 = .ok (.aload_n 0, 1) := by decide +kernel
theorem dX1_has_6 : decode cX1_has 6 = .ok (.getfield 41, 3) := by decide +kernel
theorem dX1_has_9 : decode cX1_has 9 = .ok (.if_icmp .ge 7, 3) := by decide +kernel
theorem dX1_has_12 : decode cX1_has 12 = .ok (.iconst 1, 1) := by decide +kernel
theorem dX1_has_13 : decode cX1_has 13 = .ok (.goto 4, 3) := by decide +kernel
theorem dX1_has_16 : decode cX1_has 16 = .ok (.iconst 0, 1) := by decide +kernel
theorem dX1_has_17 : decode cX1_has 17 = .ok (.ireturn, 1) := by decide +kernel
theorem dX1_countAlive_0 : decode cX1_countAlive 0 = .ok (.iconst 0, 1) := by decide +kernel
theorem dX1_countAlive_1 : decode cX1_countAlive 1 = .ok (.istore_n 1, 1) := by decide +kernel
theorem dX1_countAlive_2 : decode cX1_countAlive 2 = .ok (.iconst 0, 1) := by decide +kernel
theorem dX1_countAlive_3 : decode cX1_countAlive 3 = .ok (.istore_n 2, 1) := by decide +kernel
theorem dX1_countAlive_4 : decode cX1_countAlive 4 = .ok (.iload_n 2, 1) := by decide +kernel
theorem dX1_countAlive_5 : decode cX1_countAlive 5 = .ok (.aload_n 0, 1) := by decide +kernel
theorem dX1_countAlive_6 : decode cX1_countAlive 6 = .ok (.getfield 41, 3) := by decide +kernel
theorem dX1_countAlive_9 : decode cX1_countAlive 9 = .ok (.if_icmp .ge 24, 3) := by decide +kernel
theorem dX1_countAlive_12 : decode cX1_countAlive 12 = .ok (.aload_n 0, 1) := by decide +kernel
theorem dX1_countAlive_13 : decode cX1_countAlive 13 = .ok (.getfield 11, 3) := by decide +kernel
theorem dX1_countAlive_16 : decode cX1_countAlive 16 = .ok (.iload_n 2, 1) := by decide +kernel
theorem dX1_countAlive_17 : decode cX1_countAlive 17 = .ok (.aaload, 1) := by decide +kernel
theorem dX1_countAlive_18 : decode cX1_countAlive 18 = .ok (.getfield 63, 3) := by decide +kernel
theorem dX1_countAlive_21 : decode cX1_countAlive 21 = .ok (.ifCond .eq 6, 3) := by decide +kernel
theorem dX1_countAlive_24 : decode cX1_countAlive 24 = .ok (.iinc 1 1, 3) := by decide +kernel
theorem dX1_countAlive_27 : decode cX1_countAlive 27 = .ok (.iinc 2 1, 3) := by decide +kernel
theorem dX1_countAlive_30 : decode cX1_countAlive 30 = .ok (.goto (-26), 3) := by decide +kernel
theorem dX1_countAlive_33 : decode cX1_countAlive 33 = .ok (.iload_n 1, 1) := by decide +kernel
theorem dX1_countAlive_34 : decode cX1_countAlive 34 = .ok (.ireturn, 1) := by decide +kernel
theorem dX1_phase_0 : decode cX1_phase 0 = .ok (.aload_n 0, 1) := by decide +kernel
theorem dX1_phase_1 : decode cX1_phase 1 = .ok (.getfield 17, 3) := by decide +kernel
theorem dX1_phase_4 : decode cX1_phase 4 = .ok (.iconst 0, 1) := by decide +kernel
theorem dX1_phase_5 : decode cX1_phase 5 = .ok (.iaload, 1) := by decide +kernel
theorem dX1_phase_6 : decode cX1_phase 6 = .ok (.istore_n 1, 1) := by decide +kernel
theorem dX1_phase_7 : decode cX1_phase 7 = .ok (.iload_n 1, 1) := by decide +kernel
theorem dX1_phase_8 : decode cX1_phase 8 = .ok (.ifCond .le 12, 3) := by decide +kernel
theorem dX1_phase_11 : decode cX1_phase 11 = .ok (.aload_n 0, 1) := by decide +kernel
theorem dX1_phase_12 : decode cX1_phase 12 = .ok (.getfield 48, 3) := by decide +kernel
theorem dX1_phase_15 : decode cX1_phase 15 = .ok (.iload_n 1, 1) := by decide +kernel
theorem dX1_phase_16 : decode cX1_phase 16 = .ok (.irem, 1) := by decide +kernel
theorem dX1_phase_17 : decode cX1_phase 17 = .ok (.goto 4, 3) := by decide +kernel
theorem dX1_phase_20 : decode cX1_phase 20 = .ok (.iconst 0, 1) := by decide +kernel
theorem dX1_phase_21 : decode cX1_phase 21 = .ok (.ireturn, 1) := by decide +kernel
theorem dX1_costOver_0 : decode cX1_costOver 0 = .ok (.aload_n 0, 1) := by decide +kernel
theorem dX1_costOver_1 : decode cX1_costOver 1 = .ok (.getfield 17, 3) := by decide +kernel
theorem dX1_costOver_4 : decode cX1_costOver 4 = .ok (.iconst 2, 1) := by decide +kernel
theorem dX1_costOver_5 : decode cX1_costOver 5 = .ok (.iaload, 1) := by decide +kernel
theorem dX1_costOver_6 : decode cX1_costOver 6 = .ok (.istore_n 2, 1) := by decide +kernel
theorem dX1_costOver_7 : decode cX1_costOver 7 = .ok (.aload_n 0, 1) := by decide +kernel
theorem dX1_costOver_8 : decode cX1_costOver 8 = .ok (.getfield 17, 3) := by decide +kernel
theorem dX1_costOver_11 : decode cX1_costOver 11 = .ok (.iconst 1, 1) := by decide +kernel
theorem dX1_costOver_12 : decode cX1_costOver 12 = .ok (.iaload, 1) := by decide +kernel
theorem dX1_costOver_13 : decode cX1_costOver 13 = .ok (.iload_n 2, 1) := by decide +kernel
theorem dX1_costOver_14 : decode cX1_costOver 14 = .ok (.ifCond .le 9, 3) := by decide +kernel
theorem dX1_costOver_17 : decode cX1_costOver 17 = .ok (.iload_n 1, 1) := by decide +kernel
theorem dX1_costOver_18 : decode cX1_costOver 18 = .ok (.iload_n 2, 1) := by decide +kernel
theorem dX1_costOver_19 : decode cX1_costOver 19 = .ok (.idiv, 1) := by decide +kernel
theorem dX1_costOver_20 : decode cX1_costOver 20 = .ok (.goto 4, 3) := by decide +kernel
theorem dX1_costOver_23 : decode cX1_costOver 23 = .ok (.iconst 0, 1) := by decide +kernel
theorem dX1_costOver_24 : decode cX1_costOver 24 = .ok (.iadd, 1) := by decide +kernel
theorem dX1_costOver_25 : decode cX1_costOver 25 = .ok (.ireturn, 1) := by decide +kernel
theorem dX2_init_0 : decode cX2_init 0 = .ok (.aload_n 0, 1) := by decide +kernel
theorem dX2_init_1 : decode cX2_init 1 = .ok (.invokespecial 3, 3) := by decide +kernel
theorem dX2_init_4 : decode cX2_init 4 = .ok (.aload_n 0, 1) := by decide +kernel
theorem dX2_init_5 : decode cX2_init 5 = .ok (.aload_n 1, 1) := by decide +kernel
theorem dX2_init_6 : decode cX2_init 6 = .ok (.putfield 9, 3) := by decide +kernel
theorem dX2_init_9 : decode cX2_init 9 = .ok (.return_, 1) := by decide +kernel
set_option maxRecDepth 20000 in
theorem ggX2_perform_X1_countAlive : GoodIn wsX2_perform wsX1_countAlive := goodIn_r _ [6, 7, 8, 9, 151, 152, 153, 154, 155, 156, 157, 158, 159, 160, 161, 162, 163, 164, 165, 166, 167, 168, 169, 170, 171, 172] (by decide +kernel) (by decide +kernel)
set_option maxRecDepth 20000 in
theorem gX2_perform_X1_countAlive : GoodIn wsX2_perform (wsV RX2 15 RX1 yX1_countAlive wsX1_countAlive) := goodIn_app (goodIn_of _ (by decide +kernel)) ggX2_perform_X1_countAlive
set_option maxRecDepth 20000 in
theorem ggX2_perform_X2_performOne : GoodIn wsX2_perform wsX2_performOne := goodIn_r _ [14, 1, 15, 16, 17, 18, 19, 20, 21, 13, 22, 23, 24, 25, 26, 27, 28, 5, 29, 30, 31, 32, 33, 34, 35, 36, 37, 38, 39, 40, 41, 42, 43, 44, 45, 46, 47, 48, 49, 50, 51, 52, 53, 54, 55, 56, 57, 58, 59, 60, 61, 62, 63, 64, 65, 66, 67, 68, 69, 70, 71, 72, 73, 74, 75, 76, 77, 78, 79, 80, 81, 82, 83, 84, 85, 86, 87, 88, 89, 90, 91, 92, 93, 94, 95, 96, 97, 98, 99, 100, 101, 102, 103, 104, 105, 106, 107, 108, 109, 110, 111, 112, 113, 114, 115, 116, 117, 118, 119, 120, 121, 122, 123, 124, 125, 126, 127, 128, 129, 130, 131, 132, 133, 134, 135, 136, 137, 138, 139, 140, 141, 142, 143, 144, 145, 7, 146, 147, 148, 149, 150, 151, 152, 153, 154, 155, 156, 157, 158, 159, 160, 161, 162, 163, 164, 165, 166, 167, 168, 169, 170, 171, 172] (by decide +kernel) (by decide +kernel)
set_option maxRecDepth 20000 in
theorem gX2_perform_X2_performOne : GoodIn wsX2_perform (wsV RX2 21 RX2 yX2_performOne wsX2_performOne) := goodIn_app (goodIn_of _ (by decide +kernel)) ggX2_perform_X2_performOne
theorem dX2_perform_0 : decode cX2_perform 0 = .ok (.iconst 0, 1) := by decide +kernel
theorem dX2_perform_1 : decode cX2_perform 1 = .ok (.istore_n 2, 1) := by decide +kernel
theorem dX2_perform_2 : decode cX2_perform 2 = .ok (.iload_n 2, 1) := by decide +kernel
theorem dX2_perform_3 : decode cX2_perform 3 = .ok (.iload_n 1, 1) := by decide +kernel
theorem dX2_perform_4 : decode cX2_perform 4 = .ok (.if_icmp .ge 23, 3) := by decide +kernel
theorem dX2_perform_7 : decode cX2_perform 7 = .ok (.aload_n 0, 1) := by decide +kernel
theorem dX2_perform_8 : decode cX2_perform 8 = .ok (.getfield 9, 3) := by decide +kernel
theorem dX2_perform_11 : decode cX2_perform 11 = .ok (.invokevirtual 15, 3) := by decide +kernel
theorem dX2_perform_14 : decode cX2_perform 14 = .ok (.ifCond .le 13, 3) := by decide +kernel
theorem dX2_perform_17 : decode cX2_perform 17 = .ok (.aload_n 0, 1) := by decide +kernel
theorem dX2_perform_18 : decode cX2_perform 18 = .ok (.invokevirtual 21, 3) := by decide +kernel
theorem dX2_perform_21 : decode cX2_perform 21 = .ok (.iinc 2 1, 3) := by decide +kernel
theorem dX2_perform_24 : decode cX2_perform 24 = .ok (.goto (-22), 3) := by decide +kernel
theorem dX2_perform_27 : decode cX2_perform 27 = .ok (.iload_n 2, 1) := by decide +kernel
theorem dX2_perform_28 : decode cX2_perform 28 = .ok (.ireturn, 1) := by decide +kernel
set_option maxRecDepth 20000 in
theorem ggX2_performOne_X2_begin : GoodIn wsX2_performOne wsX2_begin := goodIn_r _ [10, 1, 11, 12, 13, 2, 4, 14, 15, 16, 17, 18, 19, 20, 21, 22, 23, 24, 25, 26, 27, 28, 29, 140, 141, 142, 143, 144, 145, 146, 147, 148, 149, 150, 151, 152, 153, 154, 155, 156, 157, 158, 159, 160, 161, 162] (by decide +kernel) (by decide +kernel)
set_option maxRecDepth 20000 in
theorem gX2_performOne_X2_begin : GoodIn wsX2_performOne (wsV RX2 24 RX2 yX2_begin wsX2_begin) := goodIn_app (goodIn_of _ (by decide +kernel)) ggX2_performOne_X2_begin
set_option maxRecDepth 20000 in
theorem ggX2_performOne_X2_elect : GoodIn wsX2_performOne wsX2_elect := goodIn_r _ [33, 1, 34, 11, 12, 35, 13, 36, 14, 15, 16, 17, 18, 19, 20, 37, 38, 39, 9, 40, 41, 42, 43, 44, 45, 140, 141, 142, 143, 144, 145, 146, 147, 148, 149, 150, 151, 152, 153, 154, 155, 156, 157, 158, 159, 160, 161, 162] (by decide +kernel) (by decide +kernel)
set_option maxRecDepth 20000 in
theorem gX2_performOne_X2_elect : GoodIn wsX2_performOne (wsV RX2 27 RX2 yX2_elect wsX2_elect) := goodIn_app (goodIn_of _ (by decide +kernel)) ggX2_performOne_X2_elect
set_option maxRecDepth 20000 in
theorem ggX2_performOne_X2_announce : GoodIn wsX2_performOne wsX2_announce := goodIn_r _ [49, 1, 11, 12, 36, 34, 50, 13, 51, 2, 52, 53, 54, 9, 55, 56, 35, 5, 57, 58, 140, 141, 142, 143, 144, 145, 146, 147, 148, 149, 150, 151, 152, 153, 154, 155, 156, 157, 158, 159, 160, 161, 162] (by decide +kernel) (by decide +kernel)
set_option maxRecDepth 20000 in
theorem gX2_performOne_X2_announce : GoodIn wsX2_performOne (wsV RX2 30 RX2 yX2_announce wsX2_announce) := goodIn_app (goodIn_of _ (by decide +kernel)) ggX2_performOne_X2_announce
set_option maxRecDepth 20000 in
theorem ggX2_performOne_X2_reportToBase : GoodIn wsX2_performOne wsX2_reportToBase := goodIn_r _ [62, 1, 11, 12, 35, 63, 64, 65, 9, 66, 67, 68, 4, 69, 70, 71, 24, 72, 73, 74, 75, 76, 77, 17, 78, 19, 52, 53, 54, 55, 56, 5, 57, 58, 140, 141, 142, 143, 144, 145, 146, 147, 148, 149, 150, 151, 152, 153, 154, 155, 156, 157, 158, 159, 160, 161, 162] (by decide +kernel) (by decide +kernel)
set_option maxRecDepth 20000 in
theorem gX2_performOne_X2_reportToBase : GoodIn wsX2_performOne (wsV RX2 37 RX2 yX2_reportToBase wsX2_reportToBase) := goodIn_app (goodIn_of _ (by decide +kernel)) ggX2_performOne_X2_reportToBase
set_option maxRecDepth 20000 in
theorem ggX2_performOne_X2_join : GoodIn wsX2_performOne wsX2_join := goodIn_r _ [82, 1, 11, 12, 35, 50, 83, 84, 85, 86, 87, 9, 88, 89, 90, 91, 92, 69, 70, 71, 24, 72, 73, 74, 93, 94, 95, 96, 97, 98, 99, 100, 101, 102, 103, 104, 105, 140, 141, 142, 143, 144, 145, 146, 147, 148, 149, 150, 151, 152, 153, 154, 155, 156, 157, 158, 159, 160, 161, 162] (by decide +kernel) (by decide +kernel)
set_option maxRecDepth 20000 in
theorem gX2_performOne_X2_join : GoodIn wsX2_performOne (wsV RX2 40 RX2 yX2_join wsX2_join) := goodIn_app (goodIn_of _ (by decide +kernel)) ggX2_performOne_X2_join
set_option maxRecDepth 20000 in
theorem ggX2_performOne_X2_reportToHeads : GoodIn wsX2_performOne wsX2_reportToHeads := goodIn_r _ [109, 1, 11, 93, 94, 95, 9, 96, 12, 50, 110, 111, 112, 113, 35, 114, 102, 103, 104, 105, 115, 116, 117, 118, 83, 84, 34, 69, 70, 71, 24, 72, 73, 74, 75, 76, 77, 17, 78, 19, 52, 53, 54, 55, 56, 5, 57, 58, 140, 141, 142, 143, 144, 145, 146, 147, 148, 149, 150, 151, 152, 153, 154, 155, 156, 157, 158, 159, 160, 161, 162] (by decide +kernel) (by decide +kernel)
set_option maxRecDepth 20000 in
theorem gX2_performOne_X2_reportToHeads : GoodIn wsX2_performOne (wsV RX2 43 RX2 yX2_reportToHeads wsX2_reportToHeads) := goodIn_app (goodIn_of _ (by decide +kernel)) ggX2_performOne_X2_reportToHeads
set_option maxRecDepth 20000 in
theorem ggX2_performOne_X2_addOwnReadings : GoodIn wsX2_performOne wsX2_addOwnReadings := goodIn_r _ [122, 1, 11, 12, 34, 114, 89, 90, 91, 9, 92, 35, 50, 52, 53, 54, 55, 56, 5, 57, 58, 140, 141, 142, 143, 144, 145, 146, 147, 148, 149, 150, 151, 152, 153, 154, 155, 156, 157, 158, 159, 160, 161, 162] (by decide +kernel) (by decide +kernel)
set_option maxRecDepth 20000 in
theorem gX2_performOne_X2_addOwnReadings : GoodIn wsX2_performOne (wsV RX2 46 RX2 yX2_addOwnReadings wsX2_addOwnReadings) := goodIn_app (goodIn_of _ (by decide +kernel)) ggX2_performOne_X2_addOwnReadings
set_option maxRecDepth 20000 in
theorem ggX2_performOne_X2_deliver : GoodIn wsX2_performOne wsX2_deliver := goodIn_r _ [126, 1, 34, 127, 128, 129, 9, 130, 67, 68, 12, 11, 114, 35, 85, 86, 87, 88, 89, 90, 91, 92, 50, 69, 70, 71, 24, 72, 73, 74, 131, 132, 133, 17, 134, 135, 115, 116, 117, 118, 83, 84, 75, 76, 77, 78, 19, 52, 53, 54, 55, 56, 5, 57, 58, 63, 64, 65, 66, 4, 136, 137, 138, 139, 140, 141, 142, 143, 144, 145, 146, 147, 148, 149, 150, 151, 152, 153, 154, 155, 156, 157, 158, 159, 160, 161, 162] (by decide +kernel) (by decide +kernel)
set_option maxRecDepth 20000 in
theorem gX2_performOne_X2_deliver : GoodIn wsX2_performOne (wsV RX2 49 RX2 yX2_deliver wsX2_deliver) := goodIn_app (goodIn_of _ (by decide +kernel)) ggX2_performOne_X2_deliver
theorem dX2_performOne_0 : decode cX2_performOne 0 = .ok (.aload_n 0, 1) := by decide +kernel
theorem dX2_performOne_1 : decode cX2_performOne 1 = .ok (.invokevirtual 24, 3) := by decide +kernel
theorem dX2_performOne_4 : decode cX2_performOne 4 = .ok (.aload_n 0, 1) := by decide +kernel
theorem dX2_performOne_5 : decode cX2_performOne 5 = .ok (.invokevirtual 27, 3) := by decide +kernel
theorem dX2_performOne_8 : decode cX2_performOne 8 = .ok (.aload_n 0, 1) := by decide +kernel
theorem dX2_performOne_9 : decode cX2_performOne 9 = .ok (.invokevirtual 30, 3) := by decide +kernel
theorem dX2_performOne_12 : decode cX2_performOne 12 = .ok (.aload_n 0, 1) := by decide +kernel
theorem dX2_performOne_13 : decode cX2_performOne 13 = .ok (.getfield 9, 3) := by decide +kernel
theorem dX2_performOne_16 : decode cX2_performOne 16 = .ok (.getfield 33, 3) := by decide +kernel
theorem dX2_performOne_19 : decode cX2_performOne 19 = .ok (.ifCond .ne 10, 3) := by decide +kernel
theorem dX2_performOne_22 : decode cX2_performOne 22 = .ok (.aload_n 0, 1) := by decide +kernel
theorem dX2_performOne_23 : decode cX2_performOne 23 = .ok (.invokevirtual 37, 3) := by decide +kernel
theorem dX2_performOne_26 : decode cX2_performOne 26 = .ok (.goto 19, 3) := by decide +kernel
theorem dX2_performOne_29 : decode cX2_performOne 29 = .ok (.aload_n 0, 1) := by decide +kernel
theorem dX2_performOne_30 : decode cX2_performOne 30 = .ok (.invokevirtual 40, 3) := by decide +kernel
theorem dX2_performOne_33 : decode cX2_performOne 33 = .ok (.aload_n 0, 1) := by decide +kernel
theorem dX2_performOne_34 : decode cX2_performOne 34 = .ok (.invokevirtual 43, 3) := by decide +kernel
theorem dX2_performOne_37 : decode cX2_performOne 37 = .ok (.aload_n 0, 1) := by decide +kernel
theorem dX2_performOne_38 : decode cX2_performOne 38 = .ok (.invokevirtual 46, 3) := by decide +kernel
theorem dX2_performOne_41 : decode cX2_performOne 41 = .ok (.aload_n 0, 1) := by decide +kernel
theorem dX2_performOne_42 : decode cX2_performOne 42 = .ok (.invokevirtual 49, 3) := by decide +kernel
theorem dX2_performOne_45 : decode cX2_performOne 45 = .ok (.aload_n 0, 1) := by decide +kernel
theorem dX2_performOne_46 : decode cX2_performOne 46 = .ok (.getfield 9, 3) := by decide +kernel
theorem dX2_performOne_49 : decode cX2_performOne 49 = .ok (.dup, 1) := by decide +kernel
theorem dX2_performOne_50 : decode cX2_performOne 50 = .ok (.getfield 52, 3) := by decide +kernel
theorem dX2_performOne_53 : decode cX2_performOne 53 = .ok (.aload_n 0, 1) := by decide +kernel
theorem dX2_performOne_54 : decode cX2_performOne 54 = .ok (.getfield 9, 3) := by decide +kernel
theorem dX2_performOne_57 : decode cX2_performOne 57 = .ok (.getfield 55, 3) := by decide +kernel
theorem dX2_performOne_60 : decode cX2_performOne 60 = .ok (.iadd, 1) := by decide +kernel
theorem dX2_performOne_61 : decode cX2_performOne 61 = .ok (.putfield 52, 3) := by decide +kernel
theorem dX2_performOne_64 : decode cX2_performOne 64 = .ok (.aload_n 0, 1) := by decide +kernel
theorem dX2_performOne_65 : decode cX2_performOne 65 = .ok (.getfield 9, 3) := by decide +kernel
theorem dX2_performOne_68 : decode cX2_performOne 68 = .ok (.dup, 1) := by decide +kernel
theorem dX2_performOne_69 : decode cX2_performOne 69 = .ok (.getfield 58, 3) := by decide +kernel
theorem dX2_performOne_72 : decode cX2_performOne 72 = .ok (.iconst 1, 1) := by decide +kernel
theorem dX2_performOne_73 : decode cX2_performOne 73 = .ok (.iadd, 1) := by decide +kernel
theorem dX2_performOne_74 : decode cX2_performOne 74 = .ok (.putfield 58, 3) := by decide +kernel
theorem dX2_performOne_77 : decode cX2_performOne 77 = .ok (.return_, 1) := by decide +kernel
set_option maxRecDepth 20000 in
theorem ggX2_begin_X1_phase : GoodIn wsX2_begin wsX1_phase := goodIn_r _ [11, 12, 13, 24, 25, 26, 27, 28, 29, 30, 31, 32, 33, 34] (by decide +kernel) (by decide +kernel)
set_option maxRecDepth 20000 in
theorem gX2_begin_X1_phase : GoodIn wsX2_begin (wsV RX2 61 RX1 yX1_phase wsX1_phase) := goodIn_app (goodIn_of _ (by decide +kernel)) ggX2_begin_X1_phase
set_option maxRecDepth 20000 in
theorem ggX2_begin_X3_beginRound : GoodIn wsX2_begin wsX3_beginRound := goodIn_r _ [18, 19, 20, 21, 22, 35, 36, 37, 38, 39, 40, 41, 42, 43, 44, 45] (by decide +kernel) (by decide +kernel)
set_option maxRecDepth 20000 in
theorem gX2_begin_X3_beginRound : GoodIn wsX2_begin (wsV RX2 71 RX3 yX3_beginRound wsX3_beginRound) := goodIn_app (goodIn_of _ (by decide +kernel)) ggX2_begin_X3_beginRound
theorem dX2_begin_0 : decode cX2_begin 0 = .ok (.aload_n 0, 1) := by decide +kernel
theorem dX2_begin_1 : decode cX2_begin 1 = .ok (.getfield 9, 3) := by decide +kernel
theorem dX2_begin_4 : decode cX2_begin 4 = .ok (.invokevirtual 61, 3) := by decide +kernel
theorem dX2_begin_7 : decode cX2_begin 7 = .ok (.ifCond .ne 7, 3) := by decide +kernel
theorem dX2_begin_10 : decode cX2_begin 10 = .ok (.iconst 1, 1) := by decide +kernel
theorem dX2_begin_11 : decode cX2_begin 11 = .ok (.goto 4, 3) := by decide +kernel
theorem dX2_begin_14 : decode cX2_begin 14 = .ok (.iconst 0, 1) := by decide +kernel
theorem dX2_begin_15 : decode cX2_begin 15 = .ok (.istore_n 1, 1) := by decide +kernel
theorem dX2_begin_16 : decode cX2_begin 16 = .ok (.iconst 0, 1) := by decide +kernel
theorem dX2_begin_17 : decode cX2_begin 17 = .ok (.istore_n 2, 1) := by decide +kernel
theorem dX2_begin_18 : decode cX2_begin 18 = .ok (.iload_n 2, 1) := by decide +kernel
theorem dX2_begin_19 : decode cX2_begin 19 = .ok (.aload_n 0, 1) := by decide +kernel
theorem dX2_begin_20 : decode cX2_begin 20 = .ok (.getfield 9, 3) := by decide +kernel
theorem dX2_begin_23 : decode cX2_begin 23 = .ok (.getfield 64, 3) := by decide +kernel
theorem dX2_begin_26 : decode cX2_begin 26 = .ok (.if_icmp .ge 32, 3) := by decide +kernel
theorem dX2_begin_29 : decode cX2_begin 29 = .ok (.aload_n 0, 1) := by decide +kernel
theorem dX2_begin_30 : decode cX2_begin 30 = .ok (.getfield 9, 3) := by decide +kernel
theorem dX2_begin_33 : decode cX2_begin 33 = .ok (.getfield 67, 3) := by decide +kernel
theorem dX2_begin_36 : decode cX2_begin 36 = .ok (.iload_n 2, 1) := by decide +kernel
theorem dX2_begin_37 : decode cX2_begin 37 = .ok (.aaload, 1) := by decide +kernel
theorem dX2_begin_38 : decode cX2_begin 38 = .ok (.astore_n 3, 1) := by decide +kernel
theorem dX2_begin_39 : decode cX2_begin 39 = .ok (.aload_n 3, 1) := by decide +kernel
theorem dX2_begin_40 : decode cX2_begin 40 = .ok (.invokevirtual 71, 3) := by decide +kernel
theorem dX2_begin_43 : decode cX2_begin 43 = .ok (.iload_n 1, 1) := by decide +kernel
theorem dX2_begin_44 : decode cX2_begin 44 = .ok (.ifCond .eq 8, 3) := by decide +kernel
theorem dX2_begin_47 : decode cX2_begin 47 = .ok (.aload_n 3, 1) := by decide +kernel
theorem dX2_begin_48 : decode cX2_begin 48 = .ok (.iconst 1, 1) := by decide +kernel
theorem dX2_begin_49 : decode cX2_begin 49 = .ok (.putfield 76, 3) := by decide +kernel
theorem dX2_begin_52 : decode cX2_begin 52 = .ok (.iinc 2 1, 3) := by decide +kernel
theorem dX2_begin_55 : decode cX2_begin 55 = .ok (.goto (-37), 3) := by decide +kernel
theorem dX2_begin_58 : decode cX2_begin 58 = .ok (.aload_n 0, 1) := by decide +kernel
theorem dX2_begin_59 : decode cX2_begin 59 = .ok (.getfield 9, 3) := by decide +kernel
theorem dX2_begin_62 : decode cX2_begin 62 = .ok (.iconst 0, 1) := by decide +kernel
theorem dX2_begin_63 : decode cX2_begin 63 = .ok (.putfield 33, 3) := by decide +kernel
theorem dX2_begin_66 : decode cX2_begin 66 = .ok (.aload_n 0, 1) := by decide +kernel
theorem dX2_begin_67 : decode cX2_begin 67 = .ok (.getfield 9, 3) := by decide +kernel
theorem dX2_begin_70 : decode cX2_begin 70 = .ok (.iconst 0, 1) := by decide +kernel
theorem dX2_begin_71 : decode cX2_begin 71 = .ok (.putfield 55, 3) := by decide +kernel
theorem dX2_begin_74 : decode cX2_begin 74 = .ok (.return_, 1) := by decide +kernel
set_option maxRecDepth 20000 in
theorem ggX2_elect_X1_phase : GoodIn wsX2_elect wsX1_phase := goodIn_r _ [12, 13, 14, 26, 27, 28, 29, 30, 31, 32, 33, 34, 35, 36] (by decide +kernel) (by decide +kernel)
set_option maxRecDepth 20000 in
theorem gX2_elect_X1_phase : GoodIn wsX2_elect (wsV RX2 61 RX1 yX1_phase wsX1_phase) := goodIn_app (goodIn_of _ (by decide +kernel)) ggX2_elect_X1_phase
set_option maxRecDepth 20000 in
theorem ggX2_elect_X2_draw : GoodIn wsX2_elect wsX2_draw := goodIn_r _ [19, 1, 20, 21, 22, 23, 24, 25, 26, 27, 28, 29, 30, 31, 32, 33, 34, 35, 36] (by decide +kernel) (by decide +kernel)
set_option maxRecDepth 20000 in
theorem gX2_elect_X2_draw : GoodIn wsX2_elect (wsV RX2 87 RX2 yX2_draw wsX2_draw) := goodIn_app (goodIn_of _ (by decide +kernel)) ggX2_elect_X2_draw
theorem dX2_elect_0 : decode cX2_elect 0 = .ok (.aload_n 0, 1) := by decide +kernel
theorem dX2_elect_1 : decode cX2_elect 1 = .ok (.getfield 9, 3) := by decide +kernel
theorem dX2_elect_4 : decode cX2_elect 4 = .ok (.getfield 80, 3) := by decide +kernel
theorem dX2_elect_7 : decode cX2_elect 7 = .ok (.iconst 0, 1) := by decide +kernel
theorem dX2_elect_8 : decode cX2_elect 8 = .ok (.iaload, 1) := by decide +kernel
theorem dX2_elect_9 : decode cX2_elect 9 = .ok (.aload_n 0, 1) := by decide +kernel
theorem dX2_elect_10 : decode cX2_elect 10 = .ok (.getfield 9, 3) := by decide +kernel
theorem dX2_elect_13 : decode cX2_elect 13 = .ok (.invokevirtual 61, 3) := by decide +kernel
theorem dX2_elect_16 : decode cX2_elect 16 = .ok (.isub, 1) := by decide +kernel
theorem dX2_elect_17 : decode cX2_elect 17 = .ok (.istore_n 1, 1) := by decide +kernel
theorem dX2_elect_18 : decode cX2_elect 18 = .ok (.iconst 0, 1) := by decide +kernel
theorem dX2_elect_19 : decode cX2_elect 19 = .ok (.istore_n 2, 1) := by decide +kernel
theorem dX2_elect_20 : decode cX2_elect 20 = .ok (.iload_n 2, 1) := by decide +kernel
theorem dX2_elect_21 : decode cX2_elect 21 = .ok (.aload_n 0, 1) := by decide +kernel
theorem dX2_elect_22 : decode cX2_elect 22 = .ok (.getfield 9, 3) := by decide +kernel
theorem dX2_elect_25 : decode cX2_elect 25 = .ok (.getfield 64, 3) := by decide +kernel
theorem dX2_elect_28 : decode cX2_elect 28 = .ok (.if_icmp .ge 54, 3) := by decide +kernel
theorem dX2_elect_31 : decode cX2_elect 31 = .ok (.aload_n 0, 1) := by decide +kernel
theorem dX2_elect_32 : decode cX2_elect 32 = .ok (.getfield 9, 3) := by decide +kernel
theorem dX2_elect_35 : decode cX2_elect 35 = .ok (.getfield 67, 3) := by decide +kernel
theorem dX2_elect_38 : decode cX2_elect 38 = .ok (.iload_n 2, 1) := by decide +kernel
theorem dX2_elect_39 : decode cX2_elect 39 = .ok (.aaload, 1) := by decide +kernel
theorem dX2_elect_40 : decode cX2_elect 40 = .ok (.astore_n 3, 1) := by decide +kernel
theorem dX2_elect_41 : decode cX2_elect 41 = .ok (.aload_n 3, 1) := by decide +kernel
theorem dX2_elect_42 : decode cX2_elect 42 = .ok (.getfield 84, 3) := by decide +kernel
theorem dX2_elect_45 : decode cX2_elect 45 = .ok (.ifCond .eq 31, 3) := by decide +kernel
theorem dX2_elect_48 : decode cX2_elect 48 = .ok (.aload_n 3, 1) := by decide +kernel
theorem dX2_elect_49 : decode cX2_elect 49 = .ok (.getfield 76, 3) := by decide +kernel
theorem dX2_elect_52 : decode cX2_elect 52 = .ok (.ifCond .eq 24, 3) := by decide +kernel
theorem dX2_elect_55 : decode cX2_elect 55 = .ok (.aload_n 3, 1) := by decide +kernel
theorem dX2_elect_56 : decode cX2_elect 56 = .ok (.aload_n 0, 1) := by decide +kernel
theorem dX2_elect_57 : decode cX2_elect 57 = .ok (.invokevirtual 87, 3) := by decide +kernel
theorem dX2_elect_60 : decode cX2_elect 60 = .ok (.iload_n 1, 1) := by decide +kernel
theorem dX2_elect_61 : decode cX2_elect 61 = .ok (.imul, 1) := by decide +kernel
theorem dX2_elect_62 : decode cX2_elect 62 = .ok (.sipush 1000, 3) := by decide +kernel
theorem dX2_elect_65 : decode cX2_elect 65 = .ok (.if_icmp .ge 7, 3) := by decide +kernel
theorem dX2_elect_68 : decode cX2_elect 68 = .ok (.iconst 1, 1) := by decide +kernel
theorem dX2_elect_69 : decode cX2_elect 69 = .ok (.goto 4, 3) := by decide +kernel
theorem dX2_elect_72 : decode cX2_elect 72 = .ok (.iconst 0, 1) := by decide +kernel
theorem dX2_elect_73 : decode cX2_elect 73 = .ok (.putfield 90, 3) := by decide +kernel
theorem dX2_elect_76 : decode cX2_elect 76 = .ok (.iinc 2 1, 3) := by decide +kernel
theorem dX2_elect_79 : decode cX2_elect 79 = .ok (.goto (-59), 3) := by decide +kernel
theorem dX2_elect_82 : decode cX2_elect 82 = .ok (.return_, 1) := by decide +kernel
theorem dX2_draw_0 : decode cX2_draw 0 = .ok (.aload_n 0, 1) := by decide +kernel
theorem dX2_draw_1 : decode cX2_draw 1 = .ok (.getfield 9, 3) := by decide +kernel
theorem dX2_draw_4 : decode cX2_draw 4 = .ok (.getfield 93, 3) := by decide +kernel
theorem dX2_draw_7 : decode cX2_draw 7 = .ok (.i2l, 1) := by decide +kernel
theorem dX2_draw_8 : decode cX2_draw 8 = .ok (.ldc2_w 96, 3) := by decide +kernel
theorem dX2_draw_11 : decode cX2_draw 11 = .ok (.lmul, 1) := by decide +kernel
theorem dX2_draw_12 : decode cX2_draw 12 = .ok (.ldc2_w 98, 3) := by decide +kernel
theorem dX2_draw_15 : decode cX2_draw 15 = .ok (.ladd, 1) := by decide +kernel
theorem dX2_draw_16 : decode cX2_draw 16 = .ok (.ldc2_w 100, 3) := by decide +kernel
theorem dX2_draw_19 : decode cX2_draw 19 = .ok (.lrem, 1) := by decide +kernel
theorem dX2_draw_20 : decode cX2_draw 20 = .ok (.lstore_n 1, 1) := by decide +kernel
theorem dX2_draw_21 : decode cX2_draw 21 = .ok (.aload_n 0, 1) := by decide +kernel
theorem dX2_draw_22 : decode cX2_draw 22 = .ok (.getfield 9, 3) := by decide +kernel
theorem dX2_draw_25 : decode cX2_draw 25 = .ok (.lload_n 1, 1) := by decide +kernel
theorem dX2_draw_26 : decode cX2_draw 26 = .ok (.l2i, 1) := by decide +kernel
theorem dX2_draw_27 : decode cX2_draw 27 = .ok (.putfield 93, 3) := by decide +kernel
theorem dX2_draw_30 : decode cX2_draw 30 = .ok (.aload_n 0, 1) := by decide +kernel
theorem dX2_draw_31 : decode cX2_draw 31 = .ok (.getfield 9, 3) := by decide +kernel
theorem dX2_draw_34 : decode cX2_draw 34 = .ok (.getfield 93, 3) := by decide +kernel
theorem dX2_draw_37 : decode cX2_draw 37 = .ok (.ldc 102, 2) := by decide +kernel
theorem dX2_draw_39 : decode cX2_draw 39 = .ok (.idiv, 1) := by decide +kernel
theorem dX2_draw_40 : decode cX2_draw 40 = .ok (.sipush 1000, 3) := by decide +kernel
theorem dX2_draw_43 : decode cX2_draw 43 = .ok (.irem, 1) := by decide +kernel
theorem dX2_draw_44 : decode cX2_draw 44 = .ok (.ireturn, 1) := by decide +kernel
set_option maxRecDepth 20000 in
theorem ggX2_announce_X2_pays : GoodIn wsX2_announce wsX2_pays := goodIn_r _ [14, 15, 16, 1, 17, 18, 19, 32, 33, 34, 35, 36, 37, 38, 39, 40, 41, 42, 20, 21, 22, 23, 24, 25, 26, 27, 28, 29, 30, 31] (by decide +kernel) (by decide +kernel)
set_option maxRecDepth 20000 in
theorem gX2_announce_X2_pays : GoodIn wsX2_announce (wsV RX2 103 RX2 yX2_pays wsX2_pays) := goodIn_app (goodIn_of _ (by decide +kernel)) ggX2_announce_X2_pays
theorem dX2_announce_0 : decode cX2_announce 0 = .ok (.iconst 0, 1) := by decide +kernel
theorem dX2_announce_1 : decode cX2_announce 1 = .ok (.istore_n 1, 1) := by decide +kernel
theorem dX2_announce_2 : decode cX2_announce 2 = .ok (.iload_n 1, 1) := by decide +kernel
theorem dX2_announce_3 : decode cX2_announce 3 = .ok (.aload_n 0, 1) := by decide +kernel
theorem dX2_announce_4 : decode cX2_announce 4 = .ok (.getfield 9, 3) := by decide +kernel
theorem dX2_announce_7 : decode cX2_announce 7 = .ok (.getfield 64, 3) := by decide +kernel
theorem dX2_announce_10 : decode cX2_announce 10 = .ok (.if_icmp .ge 76, 3) := by decide +kernel
theorem dX2_announce_13 : decode cX2_announce 13 = .ok (.aload_n 0, 1) := by decide +kernel
theorem dX2_announce_14 : decode cX2_announce 14 = .ok (.getfield 9, 3) := by decide +kernel
theorem dX2_announce_17 : decode cX2_announce 17 = .ok (.getfield 67, 3) := by decide +kernel
theorem dX2_announce_20 : decode cX2_announce 20 = .ok (.iload_n 1, 1) := by decide +kernel
theorem dX2_announce_21 : decode cX2_announce 21 = .ok (.aaload, 1) := by decide +kernel
theorem dX2_announce_22 : decode cX2_announce 22 = .ok (.astore_n 2, 1) := by decide +kernel
theorem dX2_announce_23 : decode cX2_announce 23 = .ok (.aload_n 2, 1) := by decide +kernel
theorem dX2_announce_24 : decode cX2_announce 24 = .ok (.getfield 90, 3) := by decide +kernel
theorem dX2_announce_27 : decode cX2_announce 27 = .ok (.ifCond .eq 53, 3) := by decide +kernel
theorem dX2_announce_30 : decode cX2_announce 30 = .ok (.aload_n 0, 1) := by decide +kernel
theorem dX2_announce_31 : decode cX2_announce 31 = .ok (.aload_n 2, 1) := by decide +kernel
theorem dX2_announce_32 : decode cX2_announce 32 = .ok (.aload_n 0, 1) := by decide +kernel
theorem dX2_announce_33 : decode cX2_announce 33 = .ok (.getfield 9, 3) := by decide +kernel
theorem dX2_announce_36 : decode cX2_announce 36 = .ok (.getfield 80, 3) := by decide +kernel
theorem dX2_announce_39 : decode cX2_announce 39 = .ok (.iconst 4, 1) := by decide +kernel
theorem dX2_announce_40 : decode cX2_announce 40 = .ok (.iaload, 1) := by decide +kernel
theorem dX2_announce_41 : decode cX2_announce 41 = .ok (.invokevirtual 103, 3) := by decide +kernel
theorem dX2_announce_44 : decode cX2_announce 44 = .ok (.ifCond .eq 36, 3) := by decide +kernel
theorem dX2_announce_47 : decode cX2_announce 47 = .ok (.aload_n 2, 1) := by decide +kernel
theorem dX2_announce_48 : decode cX2_announce 48 = .ok (.iload_n 1, 1) := by decide +kernel
theorem dX2_announce_49 : decode cX2_announce 49 = .ok (.putfield 107, 3) := by decide +kernel
theorem dX2_announce_52 : decode cX2_announce 52 = .ok (.aload_n 2, 1) := by decide +kernel
theorem dX2_announce_53 : decode cX2_announce 53 = .ok (.iconst 0, 1) := by decide +kernel
theorem dX2_announce_54 : decode cX2_announce 54 = .ok (.putfield 76, 3) := by decide +kernel
theorem dX2_announce_57 : decode cX2_announce 57 = .ok (.aload_n 2, 1) := by decide +kernel
theorem dX2_announce_58 : decode cX2_announce 58 = .ok (.dup, 1) := by decide +kernel
theorem dX2_announce_59 : decode cX2_announce 59 = .ok (.getfield 110, 3) := by decide +kernel
theorem dX2_announce_62 : decode cX2_announce 62 = .ok (.iconst 1, 1) := by decide +kernel
theorem dX2_announce_63 : decode cX2_announce 63 = .ok (.iadd, 1) := by decide +kernel
theorem dX2_announce_64 : decode cX2_announce 64 = .ok (.putfield 110, 3) := by decide +kernel
theorem dX2_announce_67 : decode cX2_announce 67 = .ok (.aload_n 0, 1) := by decide +kernel
theorem dX2_announce_68 : decode cX2_announce 68 = .ok (.getfield 9, 3) := by decide +kernel
theorem dX2_announce_71 : decode cX2_announce 71 = .ok (.dup, 1) := by decide +kernel
theorem dX2_announce_72 : decode cX2_announce 72 = .ok (.getfield 33, 3) := by decide +kernel
theorem dX2_announce_75 : decode cX2_announce 75 = .ok (.iconst 1, 1) := by decide +kernel
theorem dX2_announce_76 : decode cX2_announce 76 = .ok (.iadd, 1) := by decide +kernel
theorem dX2_announce_77 : decode cX2_announce 77 = .ok (.putfield 33, 3) := by decide +kernel
theorem dX2_announce_80 : decode cX2_announce 80 = .ok (.iinc 1 1, 3) := by decide +kernel
theorem dX2_announce_83 : decode cX2_announce 83 = .ok (.goto (-81), 3) := by decide +kernel
theorem dX2_announce_86 : decode cX2_announce 86 = .ok (.return_, 1) := by decide +kernel
set_option maxRecDepth 20000 in
theorem ggX2_join_X2_nearestHead : GoodIn wsX2_join wsX2_nearestHead := goodIn_r _ [12, 1, 2, 3, 13, 14, 15, 11, 16, 4, 5, 17, 18, 19, 20, 21, 22, 23, 37, 38, 39, 40, 41, 42, 43, 44, 45, 46, 47, 48, 49, 50, 51, 52, 53, 54, 55, 56, 57, 58, 59] (by decide +kernel) (by decide +kernel)
set_option maxRecDepth 20000 in
theorem gX2_join_X2_nearestHead : GoodIn wsX2_join (wsV RX2 119 RX2 yX2_nearestHead wsX2_nearestHead) := goodIn_app (goodIn_of _ (by decide +kernel)) ggX2_join_X2_nearestHead
set_option maxRecDepth 20000 in
theorem ggX2_join_X2_isHead : GoodIn wsX2_join wsX2_isHead := goodIn_r _ [27, 1, 3, 5, 37, 38, 39, 40, 41, 42, 43, 44, 45, 46, 47, 48, 49, 50, 51, 52, 53, 54, 55, 56, 57, 58, 59] (by decide +kernel) (by decide +kernel)
set_option maxRecDepth 20000 in
theorem gX2_join_X2_isHead : GoodIn wsX2_join (wsV RX2 123 RX2 yX2_isHead wsX2_isHead) := goodIn_app (goodIn_of _ (by decide +kernel)) ggX2_join_X2_isHead
set_option maxRecDepth 20000 in
theorem ggX2_join_X2_giveSlots : GoodIn wsX2_join wsX2_giveSlots := goodIn_r _ [31, 1, 2, 3, 32, 33, 34, 35, 11, 36, 5, 37, 38, 39, 40, 41, 42, 43, 44, 45, 46, 47, 48, 49, 50, 51, 52, 53, 54, 55, 56, 57, 58, 59] (by decide +kernel) (by decide +kernel)
set_option maxRecDepth 20000 in
theorem gX2_join_X2_giveSlots : GoodIn wsX2_join (wsV RX2 127 RX2 yX2_giveSlots wsX2_giveSlots) := goodIn_app (goodIn_of _ (by decide +kernel)) ggX2_join_X2_giveSlots
theorem dX2_join_0 : decode cX2_join 0 = .ok (.iconst 0, 1) := by decide +kernel
theorem dX2_join_1 : decode cX2_join 1 = .ok (.istore_n 1, 1) := by decide +kernel
theorem dX2_join_2 : decode cX2_join 2 = .ok (.iload_n 1, 1) := by decide +kernel
theorem dX2_join_3 : decode cX2_join 3 = .ok (.aload_n 0, 1) := by decide +kernel
theorem dX2_join_4 : decode cX2_join 4 = .ok (.getfield 9, 3) := by decide +kernel
theorem dX2_join_7 : decode cX2_join 7 = .ok (.getfield 64, 3) := by decide +kernel
theorem dX2_join_10 : decode cX2_join 10 = .ok (.if_icmp .ge 50, 3) := by decide +kernel
theorem dX2_join_13 : decode cX2_join 13 = .ok (.aload_n 0, 1) := by decide +kernel
theorem dX2_join_14 : decode cX2_join 14 = .ok (.getfield 9, 3) := by decide +kernel
theorem dX2_join_17 : decode cX2_join 17 = .ok (.getfield 67, 3) := by decide +kernel
theorem dX2_join_20 : decode cX2_join 20 = .ok (.iload_n 1, 1) := by decide +kernel
theorem dX2_join_21 : decode cX2_join 21 = .ok (.aaload, 1) := by decide +kernel
theorem dX2_join_22 : decode cX2_join 22 = .ok (.astore_n 2, 1) := by decide +kernel
theorem dX2_join_23 : decode cX2_join 23 = .ok (.aload_n 2, 1) := by decide +kernel
theorem dX2_join_24 : decode cX2_join 24 = .ok (.getfield 84, 3) := by decide +kernel
theorem dX2_join_27 : decode cX2_join 27 = .ok (.ifCond .eq 27, 3) := by decide +kernel
theorem dX2_join_30 : decode cX2_join 30 = .ok (.aload_n 2, 1) := by decide +kernel
theorem dX2_join_31 : decode cX2_join 31 = .ok (.getfield 107, 3) := by decide +kernel
theorem dX2_join_34 : decode cX2_join 34 = .ok (.iload_n 1, 1) := by decide +kernel
theorem dX2_join_35 : decode cX2_join 35 = .ok (.if_icmp .eq 19, 3) := by decide +kernel
theorem dX2_join_38 : decode cX2_join 38 = .ok (.aload_n 2, 1) := by decide +kernel
theorem dX2_join_39 : decode cX2_join 39 = .ok (.aload_n 0, 1) := by decide +kernel
theorem dX2_join_40 : decode cX2_join 40 = .ok (.aload_n 2, 1) := by decide +kernel
theorem dX2_join_41 : decode cX2_join 41 = .ok (.getfield 113, 3) := by decide +kernel
theorem dX2_join_44 : decode cX2_join 44 = .ok (.aload_n 2, 1) := by decide +kernel
theorem dX2_join_45 : decode cX2_join 45 = .ok (.getfield 116, 3) := by decide +kernel
theorem dX2_join_48 : decode cX2_join 48 = .ok (.invokevirtual 119, 3) := by decide +kernel
theorem dX2_join_51 : decode cX2_join 51 = .ok (.putfield 107, 3) := by decide +kernel
theorem dX2_join_54 : decode cX2_join 54 = .ok (.iinc 1 1, 3) := by decide +kernel
theorem dX2_join_57 : decode cX2_join 57 = .ok (.goto (-55), 3) := by decide +kernel
theorem dX2_join_60 : decode cX2_join 60 = .ok (.iconst 0, 1) := by decide +kernel
theorem dX2_join_61 : decode cX2_join 61 = .ok (.istore_n 1, 1) := by decide +kernel
theorem dX2_join_62 : decode cX2_join 62 = .ok (.iload_n 1, 1) := by decide +kernel
theorem dX2_join_63 : decode cX2_join 63 = .ok (.aload_n 0, 1) := by decide +kernel
theorem dX2_join_64 : decode cX2_join 64 = .ok (.getfield 9, 3) := by decide +kernel
theorem dX2_join_67 : decode cX2_join 67 = .ok (.getfield 64, 3) := by decide +kernel
theorem dX2_join_70 : decode cX2_join 70 = .ok (.if_icmp .ge 22, 3) := by decide +kernel
theorem dX2_join_73 : decode cX2_join 73 = .ok (.aload_n 0, 1) := by decide +kernel
theorem dX2_join_74 : decode cX2_join 74 = .ok (.iload_n 1, 1) := by decide +kernel
theorem dX2_join_75 : decode cX2_join 75 = .ok (.invokevirtual 123, 3) := by decide +kernel
theorem dX2_join_78 : decode cX2_join 78 = .ok (.ifCond .eq 8, 3) := by decide +kernel
theorem dX2_join_81 : decode cX2_join 81 = .ok (.aload_n 0, 1) := by decide +kernel
theorem dX2_join_82 : decode cX2_join 82 = .ok (.iload_n 1, 1) := by decide +kernel
theorem dX2_join_83 : decode cX2_join 83 = .ok (.invokevirtual 127, 3) := by decide +kernel
theorem dX2_join_86 : decode cX2_join 86 = .ok (.iinc 1 1, 3) := by decide +kernel
theorem dX2_join_89 : decode cX2_join 89 = .ok (.goto (-27), 3) := by decide +kernel
theorem dX2_join_92 : decode cX2_join 92 = .ok (.return_, 1) := by decide +kernel
set_option maxRecDepth 20000 in
theorem ggX2_nearestHead_X2_isLivingHead : GoodIn wsX2_nearestHead wsX2_isLivingHead := goodIn_r _ [8, 1, 3, 9, 10, 18, 19, 20, 21, 22, 23, 24, 25, 26, 27, 28, 29, 30, 31, 32, 33, 34, 35, 36, 37, 38, 39, 40] (by decide +kernel) (by decide +kernel)
set_option maxRecDepth 20000 in
theorem gX2_nearestHead_X2_isLivingHead : GoodIn wsX2_nearestHead (wsV RX2 131 RX2 yX2_isLivingHead wsX2_isLivingHead) := goodIn_app (goodIn_of _ (by decide +kernel)) ggX2_nearestHead_X2_isLivingHead
set_option maxRecDepth 20000 in
theorem ggX2_nearestHead_X3_distanceTo : GoodIn wsX2_nearestHead wsX3_distanceTo := goodIn_r _ [15, 16, 17, 30, 31, 32, 33, 34, 35, 36, 37, 38, 39, 40] (by decide +kernel) (by decide +kernel)
set_option maxRecDepth 20000 in
theorem gX2_nearestHead_X3_distanceTo : GoodIn wsX2_nearestHead (wsV RX2 134 RX3 yX3_distanceTo wsX3_distanceTo) := goodIn_app (goodIn_of _ (by decide +kernel)) ggX2_nearestHead_X3_distanceTo
theorem dX2_nearestHead_0 : decode cX2_nearestHead 0 = .ok (.bipush (-9), 2) := by decide +kernel
theorem dX2_nearestHead_2 : decode cX2_nearestHead 2 = .ok (.istore_n 3, 1) := by decide +kernel
theorem dX2_nearestHead_3 : decode cX2_nearestHead 3 = .ok (.iconst 0, 1) := by decide +kernel
theorem dX2_nearestHead_4 : decode cX2_nearestHead 4 = .ok (.istore 4, 2) := by decide +kernel
theorem dX2_nearestHead_6 : decode cX2_nearestHead 6 = .ok (.iconst 0, 1) := by decide +kernel
theorem dX2_nearestHead_7 : decode cX2_nearestHead 7 = .ok (.istore 5, 2) := by decide +kernel
theorem dX2_nearestHead_9 : decode cX2_nearestHead 9 = .ok (.iload 5, 2) := by decide +kernel
theorem dX2_nearestHead_11 : decode cX2_nearestHead 11 = .ok (.aload_n 0, 1) := by decide +kernel
theorem dX2_nearestHead_12 : decode cX2_nearestHead 12 = .ok (.getfield 9, 3) := by decide +kernel
theorem dX2_nearestHead_15 : decode cX2_nearestHead 15 = .ok (.getfield 64, 3) := by decide +kernel
theorem dX2_nearestHead_18 : decode cX2_nearestHead 18 = .ok (.if_icmp .ge 55, 3) := by decide +kernel
theorem dX2_nearestHead_21 : decode cX2_nearestHead 21 = .ok (.aload_n 0, 1) := by decide +kernel
theorem dX2_nearestHead_22 : decode cX2_nearestHead 22 = .ok (.iload 5, 2) := by decide +kernel
theorem dX2_nearestHead_24 : decode cX2_nearestHead 24 = .ok (.invokevirtual 131, 3) := by decide +kernel
theorem dX2_nearestHead_27 : decode cX2_nearestHead 27 = .ok (.ifCond .eq 40, 3) := by decide +kernel
theorem dX2_nearestHead_30 : decode cX2_nearestHead 30 = .ok (.aload_n 0, 1) := by decide +kernel
theorem dX2_nearestHead_31 : decode cX2_nearestHead 31 = .ok (.getfield 9, 3) := by decide +kernel
theorem dX2_nearestHead_34 : decode cX2_nearestHead 34 = .ok (.getfield 67, 3) := by decide +kernel
theorem dX2_nearestHead_37 : decode cX2_nearestHead 37 = .ok (.iload 5, 2) := by decide +kernel
theorem dX2_nearestHead_39 : decode cX2_nearestHead 39 = .ok (.aaload, 1) := by decide +kernel
theorem dX2_nearestHead_40 : decode cX2_nearestHead 40 = .ok (.iload_n 1, 1) := by decide +kernel
theorem dX2_nearestHead_41 : decode cX2_nearestHead 41 = .ok (.iload_n 2, 1) := by decide +kernel
theorem dX2_nearestHead_42 : decode cX2_nearestHead 42 = .ok (.invokevirtual 134, 3) := by decide +kernel
theorem dX2_nearestHead_45 : decode cX2_nearestHead 45 = .ok (.istore 6, 2) := by decide +kernel
theorem dX2_nearestHead_47 : decode cX2_nearestHead 47 = .ok (.iload_n 3, 1) := by decide +kernel
theorem dX2_nearestHead_48 : decode cX2_nearestHead 48 = .ok (.bipush (-9), 2) := by decide +kernel
theorem dX2_nearestHead_50 : decode cX2_nearestHead 50 = .ok (.if_icmp .eq 10, 3) := by decide +kernel
theorem dX2_nearestHead_53 : decode cX2_nearestHead 53 = .ok (.iload 6, 2) := by decide +kernel
theorem dX2_nearestHead_55 : decode cX2_nearestHead 55 = .ok (.iload 4, 2) := by decide +kernel
theorem dX2_nearestHead_57 : decode cX2_nearestHead 57 = .ok (.if_icmp .ge 10, 3) := by decide +kernel
theorem dX2_nearestHead_60 : decode cX2_nearestHead 60 = .ok (.iload 5, 2) := by decide +kernel
theorem dX2_nearestHead_62 : decode cX2_nearestHead 62 = .ok (.istore_n 3, 1) := by decide +kernel
theorem dX2_nearestHead_63 : decode cX2_nearestHead 63 = .ok (.iload 6, 2) := by decide +kernel
theorem dX2_nearestHead_65 : decode cX2_nearestHead 65 = .ok (.istore 4, 2) := by decide +kernel
theorem dX2_nearestHead_67 : decode cX2_nearestHead 67 = .ok (.iinc 5 1, 3) := by decide +kernel
theorem dX2_nearestHead_70 : decode cX2_nearestHead 70 = .ok (.goto (-61), 3) := by decide +kernel
theorem dX2_nearestHead_73 : decode cX2_nearestHead 73 = .ok (.iload_n 3, 1) := by decide +kernel
theorem dX2_nearestHead_74 : decode cX2_nearestHead 74 = .ok (.ireturn, 1) := by decide +kernel
set_option maxRecDepth 20000 in
theorem ggX2_giveSlots_X2_hasJoined : GoodIn wsX2_giveSlots wsX2_hasJoined := goodIn_r _ [9, 1, 3, 10, 11, 12, 13, 14, 15, 16, 17, 18, 19, 20, 21, 22, 23, 24, 25, 26, 27, 28, 29, 30, 31, 32, 33] (by decide +kernel) (by decide +kernel)
set_option maxRecDepth 20000 in
theorem gX2_giveSlots_X2_hasJoined : GoodIn wsX2_giveSlots (wsV RX2 137 RX2 yX2_hasJoined wsX2_hasJoined) := goodIn_app (goodIn_of _ (by decide +kernel)) ggX2_giveSlots_X2_hasJoined
theorem dX2_giveSlots_0 : decode cX2_giveSlots 0 = .ok (.iconst 0, 1) := by decide +kernel
theorem dX2_giveSlots_1 : decode cX2_giveSlots 1 = .ok (.istore_n 2, 1) := by decide +kernel
theorem dX2_giveSlots_2 : decode cX2_giveSlots 2 = .ok (.iconst 0, 1) := by decide +kernel
theorem dX2_giveSlots_3 : decode cX2_giveSlots 3 = .ok (.istore_n 3, 1) := by decide +kernel
theorem dX2_giveSlots_4 : decode cX2_giveSlots 4 = .ok (.iload_n 3, 1) := by decide +kernel
theorem dX2_giveSlots_5 : decode cX2_giveSlots 5 = .ok (.aload_n 0, 1) := by decide +kernel
theorem dX2_giveSlots_6 : decode cX2_giveSlots 6 = .ok (.getfield 9, 3) := by decide +kernel
theorem dX2_giveSlots_9 : decode cX2_giveSlots 9 = .ok (.getfield 64, 3) := by decide +kernel
theorem dX2_giveSlots_12 : decode cX2_giveSlots 12 = .ok (.if_icmp .ge 34, 3) := by decide +kernel
theorem dX2_giveSlots_15 : decode cX2_giveSlots 15 = .ok (.aload_n 0, 1) := by decide +kernel
theorem dX2_giveSlots_16 : decode cX2_giveSlots 16 = .ok (.iload_n 3, 1) := by decide +kernel
theorem dX2_giveSlots_17 : decode cX2_giveSlots 17 = .ok (.iload_n 1, 1) := by decide +kernel
theorem dX2_giveSlots_18 : decode cX2_giveSlots 18 = .ok (.invokevirtual 137, 3) := by decide +kernel
theorem dX2_giveSlots_21 : decode cX2_giveSlots 21 = .ok (.ifCond .eq 19, 3) := by decide +kernel
theorem dX2_giveSlots_24 : decode cX2_giveSlots 24 = .ok (.aload_n 0, 1) := by decide +kernel
theorem dX2_giveSlots_25 : decode cX2_giveSlots 25 = .ok (.getfield 9, 3) := by decide +kernel
theorem dX2_giveSlots_28 : decode cX2_giveSlots 28 = .ok (.getfield 67, 3) := by decide +kernel
theorem dX2_giveSlots_31 : decode cX2_giveSlots 31 = .ok (.iload_n 3, 1) := by decide +kernel
theorem dX2_giveSlots_32 : decode cX2_giveSlots 32 = .ok (.aaload, 1) := by decide +kernel
theorem dX2_giveSlots_33 : decode cX2_giveSlots 33 = .ok (.iload_n 2, 1) := by decide +kernel
theorem dX2_giveSlots_34 : decode cX2_giveSlots 34 = .ok (.putfield 141, 3) := by decide +kernel
theorem dX2_giveSlots_37 : decode cX2_giveSlots 37 = .ok (.iinc 2 1, 3) := by decide +kernel
theorem dX2_giveSlots_40 : decode cX2_giveSlots 40 = .ok (.iinc 3 1, 3) := by decide +kernel
theorem dX2_giveSlots_43 : decode cX2_giveSlots 43 = .ok (.goto (-39), 3) := by decide +kernel
theorem dX2_giveSlots_46 : decode cX2_giveSlots 46 = .ok (.return_, 1) := by decide +kernel
theorem dX2_isHead_0 : decode cX2_isHead 0 = .ok (.aload_n 0, 1) := by decide +kernel
theorem dX2_isHead_1 : decode cX2_isHead 1 = .ok (.getfield 9, 3) := by decide +kernel
theorem dX2_isHead_4 : decode cX2_isHead 4 = .ok (.getfield 67, 3) := by decide +kernel
theorem dX2_isHead_7 : decode cX2_isHead 7 = .ok (.iload_n 1, 1) := by decide +kernel
theorem dX2_isHead_8 : decode cX2_isHead 8 = .ok (.aaload, 1) := by decide +kernel
theorem dX2_isHead_9 : decode cX2_isHead 9 = .ok (.getfield 107, 3) := by decide +kernel
theorem dX2_isHead_12 : decode cX2_isHead 12 = .ok (.iload_n 1, 1) := by decide +kernel
theorem dX2_isHead_13 : decode cX2_isHead 13 = .ok (.if_icmp .ne 7, 3) := by decide +kernel
theorem dX2_isHead_16 : decode cX2_isHead 16 = .ok (.iconst 1, 1) := by decide +kernel
theorem dX2_isHead_17 : decode cX2_isHead 17 = .ok (.goto 4, 3) := by decide +kernel
theorem dX2_isHead_20 : decode cX2_isHead 20 = .ok (.iconst 0, 1) := by decide +kernel
theorem dX2_isHead_21 : decode cX2_isHead 21 = .ok (.ireturn, 1) := by decide +kernel
theorem dX2_isLivingHead_0 : decode cX2_isLivingHead 0 = .ok (.aload_n 0, 1) := by decide +kernel
theorem dX2_isLivingHead_1 : decode cX2_isLivingHead 1 = .ok (.getfield 9, 3) := by decide +kernel
theorem dX2_isLivingHead_4 : decode cX2_isLivingHead 4 = .ok (.getfield 67, 3) := by decide +kernel
theorem dX2_isLivingHead_7 : decode cX2_isLivingHead 7 = .ok (.iload_n 1, 1) := by decide +kernel
theorem dX2_isLivingHead_8 : decode cX2_isLivingHead 8 = .ok (.aaload, 1) := by decide +kernel
theorem dX2_isLivingHead_9 : decode cX2_isLivingHead 9 = .ok (.astore_n 2, 1) := by decide +kernel
theorem dX2_isLivingHead_10 : decode cX2_isLivingHead 10 = .ok (.aload_n 2, 1) := by decide +kernel
theorem dX2_isLivingHead_11 : decode cX2_isLivingHead 11 = .ok (.getfield 84, 3) := by decide +kernel
theorem dX2_isLivingHead_14 : decode cX2_isLivingHead 14 = .ok (.ifCond .eq 15, 3) := by decide +kernel
theorem dX2_isLivingHead_17 : decode cX2_isLivingHead 17 = .ok (.aload_n 2, 1) := by decide +kernel
theorem dX2_isLivingHead_18 : decode cX2_isLivingHead 18 = .ok (.getfield 107, 3) := by decide +kernel
theorem dX2_isLivingHead_21 : decode cX2_isLivingHead 21 = .ok (.iload_n 1, 1) := by decide +kernel
theorem dX2_isLivingHead_22 : decode cX2_isLivingHead 22 = .ok (.if_icmp .ne 7, 3) := by decide +kernel
theorem dX2_isLivingHead_25 : decode cX2_isLivingHead 25 = .ok (.iconst 1, 1) := by decide +kernel
theorem dX2_isLivingHead_26 : decode cX2_isLivingHead 26 = .ok (.goto 4, 3) := by decide +kernel
theorem dX2_isLivingHead_29 : decode cX2_isLivingHead 29 = .ok (.iconst 0, 1) := by decide +kernel
theorem dX2_isLivingHead_30 : decode cX2_isLivingHead 30 = .ok (.ireturn, 1) := by decide +kernel
theorem dX2_hasJoined_0 : decode cX2_hasJoined 0 = .ok (.iload_n 1, 1) := by decide +kernel
theorem dX2_hasJoined_1 : decode cX2_hasJoined 1 = .ok (.iload_n 2, 1) := by decide +kernel
theorem dX2_hasJoined_2 : decode cX2_hasJoined 2 = .ok (.if_icmp .eq 23, 3) := by decide +kernel
theorem dX2_hasJoined_5 : decode cX2_hasJoined 5 = .ok (.aload_n 0, 1) := by decide +kernel
theorem dX2_hasJoined_6 : decode cX2_hasJoined 6 = .ok (.getfield 9, 3) := by decide +kernel
theorem dX2_hasJoined_9 : decode cX2_hasJoined 9 = .ok (.getfield 67, 3) := by decide +kernel
theorem dX2_hasJoined_12 : decode cX2_hasJoined 12 = .ok (.iload_n 1, 1) := by decide +kernel
theorem dX2_hasJoined_13 : decode cX2_hasJoined 13 = .ok (.aaload, 1) := by decide +kernel
theorem dX2_hasJoined_14 : decode cX2_hasJoined 14 = .ok (.getfield 107, 3) := by decide +kernel
theorem dX2_hasJoined_17 : decode cX2_hasJoined 17 = .ok (.iload_n 2, 1) := by decide +kernel
theorem dX2_hasJoined_18 : decode cX2_hasJoined 18 = .ok (.if_icmp .ne 7, 3) := by decide +kernel
theorem dX2_hasJoined_21 : decode cX2_hasJoined 21 = .ok (.iconst 1, 1) := by decide +kernel
theorem dX2_hasJoined_22 : decode cX2_hasJoined 22 = .ok (.goto 4, 3) := by decide +kernel
theorem dX2_hasJoined_25 : decode cX2_hasJoined 25 = .ok (.iconst 0, 1) := by decide +kernel
theorem dX2_hasJoined_26 : decode cX2_hasJoined 26 = .ok (.ireturn, 1) := by decide +kernel
set_option maxRecDepth 20000 in
theorem ggX2_reportToHeads_X2_isHead : GoodIn wsX2_reportToHeads wsX2_isHead := goodIn_r _ [7, 1, 8, 9, 48, 49, 50, 51, 52, 53, 54, 55, 56, 57, 58, 59, 60, 61, 62, 63, 64, 65, 66, 67, 68, 69, 70] (by decide +kernel) (by decide +kernel)
set_option maxRecDepth 20000 in
theorem gX2_reportToHeads_X2_isHead : GoodIn wsX2_reportToHeads (wsV RX2 123 RX2 yX2_isHead wsX2_isHead) := goodIn_app (goodIn_of _ (by decide +kernel)) ggX2_reportToHeads_X2_isHead
set_option maxRecDepth 20000 in
theorem ggX2_reportToHeads_X2_reportTo : GoodIn wsX2_reportToHeads wsX2_reportTo := goodIn_r _ [13, 1, 8, 2, 14, 15, 16, 17, 18, 6, 19, 9, 20, 21, 22, 23, 24, 25, 26, 27, 28, 29, 30, 31, 32, 33, 34, 35, 36, 37, 38, 39, 40, 41, 42, 43, 44, 45, 46, 47, 48, 49, 50, 51, 52, 53, 54, 55, 56, 57, 58, 59, 60, 61, 62, 63, 64, 65, 66, 67, 68, 69, 70] (by decide +kernel) (by decide +kernel)
set_option maxRecDepth 20000 in
theorem gX2_reportToHeads_X2_reportTo : GoodIn wsX2_reportToHeads (wsV RX2 144 RX2 yX2_reportTo wsX2_reportTo) := goodIn_app (goodIn_of _ (by decide +kernel)) ggX2_reportToHeads_X2_reportTo
theorem dX2_reportToHeads_0 : decode cX2_reportToHeads 0 = .ok (.iconst 0, 1) := by decide +kernel
theorem dX2_reportToHeads_1 : decode cX2_reportToHeads 1 = .ok (.istore_n 1, 1) := by decide +kernel
theorem dX2_reportToHeads_2 : decode cX2_reportToHeads 2 = .ok (.iload_n 1, 1) := by decide +kernel
theorem dX2_reportToHeads_3 : decode cX2_reportToHeads 3 = .ok (.aload_n 0, 1) := by decide +kernel
theorem dX2_reportToHeads_4 : decode cX2_reportToHeads 4 = .ok (.getfield 9, 3) := by decide +kernel
theorem dX2_reportToHeads_7 : decode cX2_reportToHeads 7 = .ok (.getfield 64, 3) := by decide +kernel
theorem dX2_reportToHeads_10 : decode cX2_reportToHeads 10 = .ok (.if_icmp .ge 22, 3) := by decide +kernel
theorem dX2_reportToHeads_13 : decode cX2_reportToHeads 13 = .ok (.aload_n 0, 1) := by decide +kernel
theorem dX2_reportToHeads_14 : decode cX2_reportToHeads 14 = .ok (.iload_n 1, 1) := by decide +kernel
theorem dX2_reportToHeads_15 : decode cX2_reportToHeads 15 = .ok (.invokevirtual 123, 3) := by decide +kernel
theorem dX2_reportToHeads_18 : decode cX2_reportToHeads 18 = .ok (.ifCond .eq 8, 3) := by decide +kernel
theorem dX2_reportToHeads_21 : decode cX2_reportToHeads 21 = .ok (.aload_n 0, 1) := by decide +kernel
theorem dX2_reportToHeads_22 : decode cX2_reportToHeads 22 = .ok (.iload_n 1, 1) := by decide +kernel
theorem dX2_reportToHeads_23 : decode cX2_reportToHeads 23 = .ok (.invokevirtual 144, 3) := by decide +kernel
theorem dX2_reportToHeads_26 : decode cX2_reportToHeads 26 = .ok (.iinc 1 1, 3) := by decide +kernel
theorem dX2_reportToHeads_29 : decode cX2_reportToHeads 29 = .ok (.goto (-27), 3) := by decide +kernel
theorem dX2_reportToHeads_32 : decode cX2_reportToHeads 32 = .ok (.return_, 1) := by decide +kernel
set_option maxRecDepth 20000 in
theorem ggX2_reportTo_X2_hasJoined : GoodIn wsX2_reportTo wsX2_hasJoined := goodIn_r _ [10, 1, 2, 11, 40, 41, 42, 43, 44, 45, 46, 47, 48, 49, 50, 51, 52, 53, 54, 55, 56, 57, 58, 59, 60, 61, 62] (by decide +kernel) (by decide +kernel)
set_option maxRecDepth 20000 in
theorem gX2_reportTo_X2_hasJoined : GoodIn wsX2_reportTo (wsV RX2 137 RX2 yX2_hasJoined wsX2_hasJoined) := goodIn_app (goodIn_of _ (by decide +kernel)) ggX2_reportTo_X2_hasJoined
set_option maxRecDepth 20000 in
theorem ggX2_reportTo_X2_sends : GoodIn wsX2_reportTo wsX2_sends := goodIn_r _ [15, 1, 16, 17, 4, 18, 19, 20, 21, 22, 23, 24, 25, 26, 27, 28, 29, 30, 31, 32, 33, 34, 9, 35, 36, 37, 38, 39, 40, 52, 53, 54, 55, 56, 57, 58, 59, 60, 61, 62, 41, 42, 43, 44, 45, 46, 47, 48, 49, 50, 51] (by decide +kernel) (by decide +kernel)
set_option maxRecDepth 20000 in
theorem gX2_reportTo_X2_sends : GoodIn wsX2_reportTo (wsV RX2 147 RX2 yX2_sends wsX2_sends) := goodIn_app (goodIn_of _ (by decide +kernel)) ggX2_reportTo_X2_sends
theorem dX2_reportTo_0 : decode cX2_reportTo 0 = .ok (.aload_n 0, 1) := by decide +kernel
theorem dX2_reportTo_1 : decode cX2_reportTo 1 = .ok (.getfield 9, 3) := by decide +kernel
theorem dX2_reportTo_4 : decode cX2_reportTo 4 = .ok (.getfield 67, 3) := by decide +kernel
theorem dX2_reportTo_7 : decode cX2_reportTo 7 = .ok (.iload_n 1, 1) := by decide +kernel
theorem dX2_reportTo_8 : decode cX2_reportTo 8 = .ok (.aaload, 1) := by decide +kernel
theorem dX2_reportTo_9 : decode cX2_reportTo 9 = .ok (.astore_n 2, 1) := by decide +kernel
theorem dX2_reportTo_10 : decode cX2_reportTo 10 = .ok (.iconst 0, 1) := by decide +kernel
theorem dX2_reportTo_11 : decode cX2_reportTo 11 = .ok (.istore_n 3, 1) := by decide +kernel
theorem dX2_reportTo_12 : decode cX2_reportTo 12 = .ok (.iload_n 3, 1) := by decide +kernel
theorem dX2_reportTo_13 : decode cX2_reportTo 13 = .ok (.aload_n 0, 1) := by decide +kernel
theorem dX2_reportTo_14 : decode cX2_reportTo 14 = .ok (.getfield 9, 3) := by decide +kernel
theorem dX2_reportTo_17 : decode cX2_reportTo 17 = .ok (.getfield 64, 3) := by decide +kernel
theorem dX2_reportTo_20 : decode cX2_reportTo 20 = .ok (.if_icmp .ge 57, 3) := by decide +kernel
theorem dX2_reportTo_23 : decode cX2_reportTo 23 = .ok (.aload_n 0, 1) := by decide +kernel
theorem dX2_reportTo_24 : decode cX2_reportTo 24 = .ok (.getfield 9, 3) := by decide +kernel
theorem dX2_reportTo_27 : decode cX2_reportTo 27 = .ok (.getfield 67, 3) := by decide +kernel
theorem dX2_reportTo_30 : decode cX2_reportTo 30 = .ok (.iload_n 3, 1) := by decide +kernel
theorem dX2_reportTo_31 : decode cX2_reportTo 31 = .ok (.aaload, 1) := by decide +kernel
theorem dX2_reportTo_32 : decode cX2_reportTo 32 = .ok (.astore 4, 2) := by decide +kernel
theorem dX2_reportTo_34 : decode cX2_reportTo 34 = .ok (.aload_n 0, 1) := by decide +kernel
theorem dX2_reportTo_35 : decode cX2_reportTo 35 = .ok (.iload_n 3, 1) := by decide +kernel
theorem dX2_reportTo_36 : decode cX2_reportTo 36 = .ok (.iload_n 1, 1) := by decide +kernel
theorem dX2_reportTo_37 : decode cX2_reportTo 37 = .ok (.invokevirtual 137, 3) := by decide +kernel
theorem dX2_reportTo_40 : decode cX2_reportTo 40 = .ok (.ifCond .eq 31, 3) := by decide +kernel
theorem dX2_reportTo_43 : decode cX2_reportTo 43 = .ok (.aload 4, 2) := by decide +kernel
theorem dX2_reportTo_45 : decode cX2_reportTo 45 = .ok (.getfield 84, 3) := by decide +kernel
theorem dX2_reportTo_48 : decode cX2_reportTo 48 = .ok (.ifCond .eq 23, 3) := by decide +kernel
theorem dX2_reportTo_51 : decode cX2_reportTo 51 = .ok (.aload_n 0, 1) := by decide +kernel
theorem dX2_reportTo_52 : decode cX2_reportTo 52 = .ok (.aload 4, 2) := by decide +kernel
theorem dX2_reportTo_54 : decode cX2_reportTo 54 = .ok (.aload_n 2, 1) := by decide +kernel
theorem dX2_reportTo_55 : decode cX2_reportTo 55 = .ok (.invokevirtual 147, 3) := by decide +kernel
theorem dX2_reportTo_58 : decode cX2_reportTo 58 = .ok (.ifCond .eq 13, 3) := by decide +kernel
theorem dX2_reportTo_61 : decode cX2_reportTo 61 = .ok (.aload_n 2, 1) := by decide +kernel
theorem dX2_reportTo_62 : decode cX2_reportTo 62 = .ok (.dup, 1) := by decide +kernel
theorem dX2_reportTo_63 : decode cX2_reportTo 63 = .ok (.getfield 151, 3) := by decide +kernel
theorem dX2_reportTo_66 : decode cX2_reportTo 66 = .ok (.iconst 1, 1) := by decide +kernel
theorem dX2_reportTo_67 : decode cX2_reportTo 67 = .ok (.iadd, 1) := by decide +kernel
theorem dX2_reportTo_68 : decode cX2_reportTo 68 = .ok (.putfield 151, 3) := by decide +kernel
theorem dX2_reportTo_71 : decode cX2_reportTo 71 = .ok (.iinc 3 1, 3) := by decide +kernel
theorem dX2_reportTo_74 : decode cX2_reportTo 74 = .ok (.goto (-62), 3) := by decide +kernel
theorem dX2_reportTo_77 : decode cX2_reportTo 77 = .ok (.return_, 1) := by decide +kernel
set_option maxRecDepth 20000 in
theorem ggX2_addOwnReadings_X2_isLivingHead : GoodIn wsX2_addOwnReadings wsX2_isLivingHead := goodIn_r _ [10, 1, 3, 11, 12, 21, 22, 23, 24, 25, 26, 27, 28, 29, 30, 31, 32, 33, 34, 35, 36, 37, 38, 39, 40, 41, 42, 43] (by decide +kernel) (by decide +kernel)
set_option maxRecDepth 20000 in
theorem gX2_addOwnReadings_X2_isLivingHead : GoodIn wsX2_addOwnReadings (wsV RX2 131 RX2 yX2_isLivingHead wsX2_isLivingHead) := goodIn_app (goodIn_of _ (by decide +kernel)) ggX2_addOwnReadings_X2_isLivingHead
set_option maxRecDepth 20000 in
theorem ggX2_addOwnReadings_X2_pays : GoodIn wsX2_addOwnReadings wsX2_pays := goodIn_r _ [16, 17, 11, 1, 18, 19, 20, 33, 34, 35, 36, 37, 38, 39, 40, 41, 42, 43, 21, 22, 23, 24, 25, 26, 27, 28, 29, 30, 31, 32] (by decide +kernel) (by decide +kernel)
set_option maxRecDepth 20000 in
theorem gX2_addOwnReadings_X2_pays : GoodIn wsX2_addOwnReadings (wsV RX2 103 RX2 yX2_pays wsX2_pays) := goodIn_app (goodIn_of _ (by decide +kernel)) ggX2_addOwnReadings_X2_pays
theorem dX2_addOwnReadings_0 : decode cX2_addOwnReadings 0 = .ok (.iconst 0, 1) := by decide +kernel
theorem dX2_addOwnReadings_1 : decode cX2_addOwnReadings 1 = .ok (.istore_n 1, 1) := by decide +kernel
theorem dX2_addOwnReadings_2 : decode cX2_addOwnReadings 2 = .ok (.iload_n 1, 1) := by decide +kernel
theorem dX2_addOwnReadings_3 : decode cX2_addOwnReadings 3 = .ok (.aload_n 0, 1) := by decide +kernel
theorem dX2_addOwnReadings_4 : decode cX2_addOwnReadings 4 = .ok (.getfield 9, 3) := by decide +kernel
theorem dX2_addOwnReadings_7 : decode cX2_addOwnReadings 7 = .ok (.getfield 64, 3) := by decide +kernel
theorem dX2_addOwnReadings_10 : decode cX2_addOwnReadings 10 = .ok (.if_icmp .ge 54, 3) := by decide +kernel
theorem dX2_addOwnReadings_13 : decode cX2_addOwnReadings 13 = .ok (.aload_n 0, 1) := by decide +kernel
theorem dX2_addOwnReadings_14 : decode cX2_addOwnReadings 14 = .ok (.getfield 9, 3) := by decide +kernel
theorem dX2_addOwnReadings_17 : decode cX2_addOwnReadings 17 = .ok (.getfield 67, 3) := by decide +kernel
theorem dX2_addOwnReadings_20 : decode cX2_addOwnReadings 20 = .ok (.iload_n 1, 1) := by decide +kernel
theorem dX2_addOwnReadings_21 : decode cX2_addOwnReadings 21 = .ok (.aaload, 1) := by decide +kernel
theorem dX2_addOwnReadings_22 : decode cX2_addOwnReadings 22 = .ok (.astore_n 2, 1) := by decide +kernel
theorem dX2_addOwnReadings_23 : decode cX2_addOwnReadings 23 = .ok (.aload_n 0, 1) := by decide +kernel
theorem dX2_addOwnReadings_24 : decode cX2_addOwnReadings 24 = .ok (.iload_n 1, 1) := by decide +kernel
theorem dX2_addOwnReadings_25 : decode cX2_addOwnReadings 25 = .ok (.invokevirtual 131, 3) := by decide +kernel
theorem dX2_addOwnReadings_28 : decode cX2_addOwnReadings 28 = .ok (.ifCond .eq 30, 3) := by decide +kernel
theorem dX2_addOwnReadings_31 : decode cX2_addOwnReadings 31 = .ok (.aload_n 0, 1) := by decide +kernel
theorem dX2_addOwnReadings_32 : decode cX2_addOwnReadings 32 = .ok (.aload_n 2, 1) := by decide +kernel
theorem dX2_addOwnReadings_33 : decode cX2_addOwnReadings 33 = .ok (.aload_n 0, 1) := by decide +kernel
theorem dX2_addOwnReadings_34 : decode cX2_addOwnReadings 34 = .ok (.getfield 9, 3) := by decide +kernel
theorem dX2_addOwnReadings_37 : decode cX2_addOwnReadings 37 = .ok (.getfield 80, 3) := by decide +kernel
theorem dX2_addOwnReadings_40 : decode cX2_addOwnReadings 40 = .ok (.iconst 3, 1) := by decide +kernel
theorem dX2_addOwnReadings_41 : decode cX2_addOwnReadings 41 = .ok (.iaload, 1) := by decide +kernel
theorem dX2_addOwnReadings_42 : decode cX2_addOwnReadings 42 = .ok (.invokevirtual 103, 3) := by decide +kernel
theorem dX2_addOwnReadings_45 : decode cX2_addOwnReadings 45 = .ok (.ifCond .eq 13, 3) := by decide +kernel
theorem dX2_addOwnReadings_48 : decode cX2_addOwnReadings 48 = .ok (.aload_n 2, 1) := by decide +kernel
theorem dX2_addOwnReadings_49 : decode cX2_addOwnReadings 49 = .ok (.dup, 1) := by decide +kernel
theorem dX2_addOwnReadings_50 : decode cX2_addOwnReadings 50 = .ok (.getfield 151, 3) := by decide +kernel
theorem dX2_addOwnReadings_53 : decode cX2_addOwnReadings 53 = .ok (.iconst 1, 1) := by decide +kernel
theorem dX2_addOwnReadings_54 : decode cX2_addOwnReadings 54 = .ok (.iadd, 1) := by decide +kernel
theorem dX2_addOwnReadings_55 : decode cX2_addOwnReadings 55 = .ok (.putfield 151, 3) := by decide +kernel
theorem dX2_addOwnReadings_58 : decode cX2_addOwnReadings 58 = .ok (.iinc 1 1, 3) := by decide +kernel
theorem dX2_addOwnReadings_61 : decode cX2_addOwnReadings 61 = .ok (.goto (-59), 3) := by decide +kernel
theorem dX2_addOwnReadings_64 : decode cX2_addOwnReadings 64 = .ok (.return_, 1) := by decide +kernel
set_option maxRecDepth 20000 in
theorem ggX2_deliver_X2_deliverThroughRelay : GoodIn wsX2_deliver wsX2_deliverThroughRelay := goodIn_r _ [7, 1, 8, 9, 10, 11, 12, 13, 14, 15, 16, 6, 17, 18, 19, 20, 21, 22, 23, 24, 25, 26, 27, 28, 29, 30, 31, 32, 33, 34, 35, 36, 37, 38, 39, 40, 41, 2, 42, 43, 44, 45, 46, 47, 48, 49, 50, 51, 52, 53, 54, 55, 56, 57, 58, 59, 64, 65, 66, 67, 68, 69, 70, 71, 72, 73, 74, 75, 76, 77, 78, 79, 80, 81, 82, 83, 84, 85, 86] (by decide +kernel) (by decide +kernel)
set_option maxRecDepth 20000 in
theorem gX2_deliver_X2_deliverThroughRelay : GoodIn wsX2_deliver (wsV RX2 154 RX2 yX2_deliverThroughRelay wsX2_deliverThroughRelay) := goodIn_app (goodIn_of _ (by decide +kernel)) ggX2_deliver_X2_deliverThroughRelay
set_option maxRecDepth 20000 in
theorem ggX2_deliver_X2_deliverDirectly : GoodIn wsX2_deliver wsX2_deliverDirectly := goodIn_r _ [63, 1, 11, 10, 12, 18, 19, 20, 6, 21, 13, 22, 55, 56, 57, 58, 8, 9, 59, 23, 24, 25, 26, 27, 28, 29, 42, 43, 44, 33, 45, 46, 47, 48, 49, 50, 51, 52, 53, 54, 64, 65, 66, 67, 68, 69, 70, 71, 72, 73, 74, 75, 76, 77, 78, 79, 80, 81, 82, 83, 84, 85, 86] (by decide +kernel) (by decide +kernel)
set_option maxRecDepth 20000 in
theorem gX2_deliver_X2_deliverDirectly : GoodIn wsX2_deliver (wsV RX2 157 RX2 yX2_deliverDirectly wsX2_deliverDirectly) := goodIn_app (goodIn_of _ (by decide +kernel)) ggX2_deliver_X2_deliverDirectly
theorem dX2_deliver_0 : decode cX2_deliver 0 = .ok (.aload_n 0, 1) := by decide +kernel
theorem dX2_deliver_1 : decode cX2_deliver 1 = .ok (.getfield 9, 3) := by decide +kernel
theorem dX2_deliver_4 : decode cX2_deliver 4 = .ok (.getfield 80, 3) := by decide +kernel
theorem dX2_deliver_7 : decode cX2_deliver 7 = .ok (.iconst 5, 1) := by decide +kernel
theorem dX2_deliver_8 : decode cX2_deliver 8 = .ok (.iaload, 1) := by decide +kernel
theorem dX2_deliver_9 : decode cX2_deliver 9 = .ok (.iconst 1, 1) := by decide +kernel
theorem dX2_deliver_10 : decode cX2_deliver 10 = .ok (.if_icmp .ne 10, 3) := by decide +kernel
theorem dX2_deliver_13 : decode cX2_deliver 13 = .ok (.aload_n 0, 1) := by decide +kernel
theorem dX2_deliver_14 : decode cX2_deliver 14 = .ok (.invokevirtual 154, 3) := by decide +kernel
theorem dX2_deliver_17 : decode cX2_deliver 17 = .ok (.goto 7, 3) := by decide +kernel
theorem dX2_deliver_20 : decode cX2_deliver 20 = .ok (.aload_n 0, 1) := by decide +kernel
theorem dX2_deliver_21 : decode cX2_deliver 21 = .ok (.invokevirtual 157, 3) := by decide +kernel
theorem dX2_deliver_24 : decode cX2_deliver 24 = .ok (.return_, 1) := by decide +kernel
set_option maxRecDepth 20000 in
theorem ggX2_deliverDirectly_X2_isLivingHead : GoodIn wsX2_deliverDirectly wsX2_isLivingHead := goodIn_r _ [9, 1, 3, 10, 11, 40, 41, 42, 43, 44, 45, 46, 47, 48, 49, 50, 51, 52, 53, 54, 55, 56, 57, 58, 59, 60, 61, 62] (by decide +kernel) (by decide +kernel)
set_option maxRecDepth 20000 in
theorem gX2_deliverDirectly_X2_isLivingHead : GoodIn wsX2_deliverDirectly (wsV RX2 131 RX2 yX2_isLivingHead wsX2_isLivingHead) := goodIn_app (goodIn_of _ (by decide +kernel)) ggX2_deliverDirectly_X2_isLivingHead
set_option maxRecDepth 20000 in
theorem ggX2_deliverDirectly_X2_sendToBase : GoodIn wsX2_deliverDirectly wsX2_sendToBase := goodIn_r _ [15, 1, 16, 17, 18, 19, 20, 21, 22, 23, 24, 25, 26, 27, 28, 29, 30, 31, 32, 33, 34, 8, 35, 36, 10, 37, 38, 39, 40, 41, 42, 43, 44, 45, 46, 47, 48, 49, 50, 51, 52, 53, 54, 55, 56, 57, 58, 59, 60, 61, 62] (by decide +kernel) (by decide +kernel)
set_option maxRecDepth 20000 in
theorem gX2_deliverDirectly_X2_sendToBase : GoodIn wsX2_deliverDirectly (wsV RX2 160 RX2 yX2_sendToBase wsX2_sendToBase) := goodIn_app (goodIn_of _ (by decide +kernel)) ggX2_deliverDirectly_X2_sendToBase
theorem dX2_deliverDirectly_0 : decode cX2_deliverDirectly 0 = .ok (.iconst 0, 1) := by decide +kernel
theorem dX2_deliverDirectly_1 : decode cX2_deliverDirectly 1 = .ok (.istore_n 1, 1) := by decide +kernel
theorem dX2_deliverDirectly_2 : decode cX2_deliverDirectly 2 = .ok (.iload_n 1, 1) := by decide +kernel
theorem dX2_deliverDirectly_3 : decode cX2_deliverDirectly 3 = .ok (.aload_n 0, 1) := by decide +kernel
theorem dX2_deliverDirectly_4 : decode cX2_deliverDirectly 4 = .ok (.getfield 9, 3) := by decide +kernel
theorem dX2_deliverDirectly_7 : decode cX2_deliverDirectly 7 = .ok (.getfield 64, 3) := by decide +kernel
theorem dX2_deliverDirectly_10 : decode cX2_deliverDirectly 10 = .ok (.if_icmp .ge 36, 3) := by decide +kernel
theorem dX2_deliverDirectly_13 : decode cX2_deliverDirectly 13 = .ok (.aload_n 0, 1) := by decide +kernel
theorem dX2_deliverDirectly_14 : decode cX2_deliverDirectly 14 = .ok (.getfield 9, 3) := by decide +kernel
theorem dX2_deliverDirectly_17 : decode cX2_deliverDirectly 17 = .ok (.getfield 67, 3) := by decide +kernel
theorem dX2_deliverDirectly_20 : decode cX2_deliverDirectly 20 = .ok (.iload_n 1, 1) := by decide +kernel
theorem dX2_deliverDirectly_21 : decode cX2_deliverDirectly 21 = .ok (.aaload, 1) := by decide +kernel
theorem dX2_deliverDirectly_22 : decode cX2_deliverDirectly 22 = .ok (.astore_n 2, 1) := by decide +kernel
theorem dX2_deliverDirectly_23 : decode cX2_deliverDirectly 23 = .ok (.aload_n 0, 1) := by decide +kernel
theorem dX2_deliverDirectly_24 : decode cX2_deliverDirectly 24 = .ok (.iload_n 1, 1) := by decide +kernel
theorem dX2_deliverDirectly_25 : decode cX2_deliverDirectly 25 = .ok (.invokevirtual 131, 3) := by decide +kernel
theorem dX2_deliverDirectly_28 : decode cX2_deliverDirectly 28 = .ok (.ifCond .eq 12, 3) := by decide +kernel
theorem dX2_deliverDirectly_31 : decode cX2_deliverDirectly 31 = .ok (.aload_n 0, 1) := by decide +kernel
theorem dX2_deliverDirectly_32 : decode cX2_deliverDirectly 32 = .ok (.aload_n 2, 1) := by decide +kernel
theorem dX2_deliverDirectly_33 : decode cX2_deliverDirectly 33 = .ok (.aload_n 2, 1) := by decide +kernel
theorem dX2_deliverDirectly_34 : decode cX2_deliverDirectly 34 = .ok (.getfield 151, 3) := by decide +kernel
theorem dX2_deliverDirectly_37 : decode cX2_deliverDirectly 37 = .ok (.invokevirtual 160, 3) := by decide +kernel
theorem dX2_deliverDirectly_40 : decode cX2_deliverDirectly 40 = .ok (.iinc 1 1, 3) := by decide +kernel
theorem dX2_deliverDirectly_43 : decode cX2_deliverDirectly 43 = .ok (.goto (-41), 3) := by decide +kernel
theorem dX2_deliverDirectly_46 : decode cX2_deliverDirectly 46 = .ok (.return_, 1) := by decide +kernel
set_option maxRecDepth 20000 in
theorem ggX2_deliverThroughRelay_X2_nearestHead : GoodIn wsX2_deliverThroughRelay wsX2_nearestHead := goodIn_r _ [12, 1, 5, 4, 13, 14, 15, 11, 16, 7, 17, 18, 19, 20, 21, 22, 23, 24, 56, 57, 58, 59, 60, 61, 62, 63, 64, 65, 66, 67, 68, 69, 70, 71, 72, 73, 74, 75, 76, 77, 78] (by decide +kernel) (by decide +kernel)
set_option maxRecDepth 20000 in
theorem gX2_deliverThroughRelay_X2_nearestHead : GoodIn wsX2_deliverThroughRelay (wsV RX2 119 RX2 yX2_nearestHead wsX2_nearestHead) := goodIn_app (goodIn_of _ (by decide +kernel)) ggX2_deliverThroughRelay_X2_nearestHead
set_option maxRecDepth 20000 in
theorem ggX2_deliverThroughRelay_X1_has : GoodIn wsX2_deliverThroughRelay wsX1_has := goodIn_r _ [29, 30, 57, 58, 59, 60, 61, 62, 63, 64, 65, 66, 67] (by decide +kernel) (by decide +kernel)
set_option maxRecDepth 20000 in
theorem gX2_deliverThroughRelay_X1_has : GoodIn wsX2_deliverThroughRelay (wsV RX2 170 RX1 yX1_has wsX1_has) := goodIn_app (goodIn_of _ (by decide +kernel)) ggX2_deliverThroughRelay_X1_has
set_option maxRecDepth 20000 in
theorem ggX2_deliverThroughRelay_X2_isLivingHead : GoodIn wsX2_deliverThroughRelay wsX2_isLivingHead := goodIn_r _ [16, 1, 4, 7, 17, 56, 57, 58, 59, 60, 61, 62, 63, 64, 65, 66, 67, 68, 69, 70, 71, 72, 73, 74, 75, 76, 77, 78] (by decide +kernel) (by decide +kernel)
set_option maxRecDepth 20000 in
theorem gX2_deliverThroughRelay_X2_isLivingHead : GoodIn wsX2_deliverThroughRelay (wsV RX2 131 RX2 yX2_isLivingHead wsX2_isLivingHead) := goodIn_app (goodIn_of _ (by decide +kernel)) ggX2_deliverThroughRelay_X2_isLivingHead
set_option maxRecDepth 20000 in
theorem ggX2_deliverThroughRelay_X2_sends : GoodIn wsX2_deliverThroughRelay wsX2_sends := goodIn_r _ [34, 1, 35, 36, 7, 37, 18, 19, 20, 21, 22, 23, 24, 38, 39, 40, 28, 41, 42, 43, 44, 45, 11, 46, 47, 48, 49, 50, 56, 68, 69, 70, 71, 72, 73, 74, 75, 76, 77, 78, 57, 58, 59, 60, 61, 62, 63, 64, 65, 66, 67] (by decide +kernel) (by decide +kernel)
set_option maxRecDepth 20000 in
theorem gX2_deliverThroughRelay_X2_sends : GoodIn wsX2_deliverThroughRelay (wsV RX2 147 RX2 yX2_sends wsX2_sends) := goodIn_app (goodIn_of _ (by decide +kernel)) ggX2_deliverThroughRelay_X2_sends
set_option maxRecDepth 20000 in
theorem ggX2_deliverThroughRelay_X2_sendToBase : GoodIn wsX2_deliverThroughRelay wsX2_sendToBase := goodIn_r _ [54, 1, 2, 3, 55, 18, 19, 20, 21, 22, 23, 24, 38, 39, 40, 28, 41, 42, 43, 44, 45, 11, 46, 47, 7, 48, 49, 50, 56, 57, 58, 59, 60, 61, 62, 63, 64, 65, 66, 67, 68, 69, 70, 71, 72, 73, 74, 75, 76, 77, 78] (by decide +kernel) (by decide +kernel)
set_option maxRecDepth 20000 in
theorem gX2_deliverThroughRelay_X2_sendToBase : GoodIn wsX2_deliverThroughRelay (wsV RX2 160 RX2 yX2_sendToBase wsX2_sendToBase) := goodIn_app (goodIn_of _ (by decide +kernel)) ggX2_deliverThroughRelay_X2_sendToBase
theorem dX2_deliverThroughRelay_0 : decode cX2_deliverThroughRelay 0 = .ok (.aload_n 0, 1) := by decide +kernel
theorem dX2_deliverThroughRelay_1 : decode cX2_deliverThroughRelay 1 = .ok (.aload_n 0, 1) := by decide +kernel
theorem dX2_deliverThroughRelay_2 : decode cX2_deliverThroughRelay 2 = .ok (.getfield 9, 3) := by decide +kernel
theorem dX2_deliverThroughRelay_5 : decode cX2_deliverThroughRelay 5 = .ok (.getfield 164, 3) := by decide +kernel
theorem dX2_deliverThroughRelay_8 : decode cX2_deliverThroughRelay 8 = .ok (.aload_n 0, 1) := by decide +kernel
theorem dX2_deliverThroughRelay_9 : decode cX2_deliverThroughRelay 9 = .ok (.getfield 9, 3) := by decide +kernel
theorem dX2_deliverThroughRelay_12 : decode cX2_deliverThroughRelay 12 = .ok (.getfield 167, 3) := by decide +kernel
theorem dX2_deliverThroughRelay_15 : decode cX2_deliverThroughRelay 15 = .ok (.invokevirtual 119, 3) := by decide +kernel
theorem dX2_deliverThroughRelay_18 : decode cX2_deliverThroughRelay 18 = .ok (.istore_n 1, 1) := by decide +kernel
theorem dX2_deliverThroughRelay_19 : decode cX2_deliverThroughRelay 19 = .ok (.aload_n 0, 1) := by decide +kernel
theorem dX2_deliverThroughRelay_20 : decode cX2_deliverThroughRelay 20 = .ok (.getfield 9, 3) := by decide +kernel
theorem dX2_deliverThroughRelay_23 : decode cX2_deliverThroughRelay 23 = .ok (.iload_n 1, 1) := by decide +kernel
theorem dX2_deliverThroughRelay_24 : decode cX2_deliverThroughRelay 24 = .ok (.invokevirtual 170, 3) := by decide +kernel
theorem dX2_deliverThroughRelay_27 : decode cX2_deliverThroughRelay 27 = .ok (.ifCond .ne 4, 3) := by decide +kernel
theorem dX2_deliverThroughRelay_30 : decode cX2_deliverThroughRelay 30 = .ok (.return_, 1) := by decide +kernel
theorem dX2_deliverThroughRelay_31 : decode cX2_deliverThroughRelay 31 = .ok (.aload_n 0, 1) := by decide +kernel
theorem dX2_deliverThroughRelay_32 : decode cX2_deliverThroughRelay 32 = .ok (.getfield 9, 3) := by decide +kernel
theorem dX2_deliverThroughRelay_35 : decode cX2_deliverThroughRelay 35 = .ok (.getfield 67, 3) := by decide +kernel
theorem dX2_deliverThroughRelay_38 : decode cX2_deliverThroughRelay 38 = .ok (.iload_n 1, 1) := by decide +kernel
theorem dX2_deliverThroughRelay_39 : decode cX2_deliverThroughRelay 39 = .ok (.aaload, 1) := by decide +kernel
theorem dX2_deliverThroughRelay_40 : decode cX2_deliverThroughRelay 40 = .ok (.astore_n 2, 1) := by decide +kernel
theorem dX2_deliverThroughRelay_41 : decode cX2_deliverThroughRelay 41 = .ok (.iconst 0, 1) := by decide +kernel
theorem dX2_deliverThroughRelay_42 : decode cX2_deliverThroughRelay 42 = .ok (.istore_n 3, 1) := by decide +kernel
theorem dX2_deliverThroughRelay_43 : decode cX2_deliverThroughRelay 43 = .ok (.iload_n 3, 1) := by decide +kernel
theorem dX2_deliverThroughRelay_44 : decode cX2_deliverThroughRelay 44 = .ok (.aload_n 0, 1) := by decide +kernel
theorem dX2_deliverThroughRelay_45 : decode cX2_deliverThroughRelay 45 = .ok (.getfield 9, 3) := by decide +kernel
theorem dX2_deliverThroughRelay_48 : decode cX2_deliverThroughRelay 48 = .ok (.getfield 64, 3) := by decide +kernel
theorem dX2_deliverThroughRelay_51 : decode cX2_deliverThroughRelay 51 = .ok (.if_icmp .ge 57, 3) := by decide +kernel
theorem dX2_deliverThroughRelay_54 : decode cX2_deliverThroughRelay 54 = .ok (.aload_n 0, 1) := by decide +kernel
theorem dX2_deliverThroughRelay_55 : decode cX2_deliverThroughRelay 55 = .ok (.getfield 9, 3) := by decide +kernel
theorem dX2_deliverThroughRelay_58 : decode cX2_deliverThroughRelay 58 = .ok (.getfield 67, 3) := by decide +kernel
theorem dX2_deliverThroughRelay_61 : decode cX2_deliverThroughRelay 61 = .ok (.iload_n 3, 1) := by decide +kernel
theorem dX2_deliverThroughRelay_62 : decode cX2_deliverThroughRelay 62 = .ok (.aaload, 1) := by decide +kernel
theorem dX2_deliverThroughRelay_63 : decode cX2_deliverThroughRelay 63 = .ok (.astore 4, 2) := by decide +kernel
theorem dX2_deliverThroughRelay_65 : decode cX2_deliverThroughRelay 65 = .ok (.iload_n 3, 1) := by decide +kernel
theorem dX2_deliverThroughRelay_66 : decode cX2_deliverThroughRelay 66 = .ok (.iload_n 1, 1) := by decide +kernel
theorem dX2_deliverThroughRelay_67 : decode cX2_deliverThroughRelay 67 = .ok (.if_icmp .eq 35, 3) := by decide +kernel
theorem dX2_deliverThroughRelay_70 : decode cX2_deliverThroughRelay 70 = .ok (.aload_n 0, 1) := by decide +kernel
theorem dX2_deliverThroughRelay_71 : decode cX2_deliverThroughRelay 71 = .ok (.iload_n 3, 1) := by decide +kernel
theorem dX2_deliverThroughRelay_72 : decode cX2_deliverThroughRelay 72 = .ok (.invokevirtual 131, 3) := by decide +kernel
theorem dX2_deliverThroughRelay_75 : decode cX2_deliverThroughRelay 75 = .ok (.ifCond .eq 27, 3) := by decide +kernel
theorem dX2_deliverThroughRelay_78 : decode cX2_deliverThroughRelay 78 = .ok (.aload_n 0, 1) := by decide +kernel
theorem dX2_deliverThroughRelay_79 : decode cX2_deliverThroughRelay 79 = .ok (.aload 4, 2) := by decide +kernel
theorem dX2_deliverThroughRelay_81 : decode cX2_deliverThroughRelay 81 = .ok (.aload_n 2, 1) := by decide +kernel
theorem dX2_deliverThroughRelay_82 : decode cX2_deliverThroughRelay 82 = .ok (.invokevirtual 147, 3) := by decide +kernel
theorem dX2_deliverThroughRelay_85 : decode cX2_deliverThroughRelay 85 = .ok (.ifCond .eq 17, 3) := by decide +kernel
theorem dX2_deliverThroughRelay_88 : decode cX2_deliverThroughRelay 88 = .ok (.aload_n 2, 1) := by decide +kernel
theorem dX2_deliverThroughRelay_89 : decode cX2_deliverThroughRelay 89 = .ok (.dup, 1) := by decide +kernel
theorem dX2_deliverThroughRelay_90 : decode cX2_deliverThroughRelay 90 = .ok (.getfield 151, 3) := by decide +kernel
theorem dX2_deliverThroughRelay_93 : decode cX2_deliverThroughRelay 93 = .ok (.aload 4, 2) := by decide +kernel
theorem dX2_deliverThroughRelay_95 : decode cX2_deliverThroughRelay 95 = .ok (.getfield 151, 3) := by decide +kernel
theorem dX2_deliverThroughRelay_98 : decode cX2_deliverThroughRelay 98 = .ok (.iadd, 1) := by decide +kernel
theorem dX2_deliverThroughRelay_99 : decode cX2_deliverThroughRelay 99 = .ok (.putfield 151, 3) := by decide +kernel
theorem dX2_deliverThroughRelay_102 : decode cX2_deliverThroughRelay 102 = .ok (.iinc 3 1, 3) := by decide +kernel
theorem dX2_deliverThroughRelay_105 : decode cX2_deliverThroughRelay 105 = .ok (.goto (-62), 3) := by decide +kernel
theorem dX2_deliverThroughRelay_108 : decode cX2_deliverThroughRelay 108 = .ok (.aload_n 2, 1) := by decide +kernel
theorem dX2_deliverThroughRelay_109 : decode cX2_deliverThroughRelay 109 = .ok (.getfield 84, 3) := by decide +kernel
theorem dX2_deliverThroughRelay_112 : decode cX2_deliverThroughRelay 112 = .ok (.ifCond .eq 12, 3) := by decide +kernel
theorem dX2_deliverThroughRelay_115 : decode cX2_deliverThroughRelay 115 = .ok (.aload_n 0, 1) := by decide +kernel
theorem dX2_deliverThroughRelay_116 : decode cX2_deliverThroughRelay 116 = .ok (.aload_n 2, 1) := by decide +kernel
theorem dX2_deliverThroughRelay_117 : decode cX2_deliverThroughRelay 117 = .ok (.aload_n 2, 1) := by decide +kernel
theorem dX2_deliverThroughRelay_118 : decode cX2_deliverThroughRelay 118 = .ok (.getfield 151, 3) := by decide +kernel
theorem dX2_deliverThroughRelay_121 : decode cX2_deliverThroughRelay 121 = .ok (.invokevirtual 160, 3) := by decide +kernel
theorem dX2_deliverThroughRelay_124 : decode cX2_deliverThroughRelay 124 = .ok (.return_, 1) := by decide +kernel
set_option maxRecDepth 20000 in
theorem ggX2_reportToBase_X2_sendToBase : GoodIn wsX2_reportToBase wsX2_sendToBase := goodIn_r _ [9, 1, 10, 11, 12, 13, 14, 15, 16, 17, 18, 19, 20, 21, 22, 23, 24, 25, 26, 27, 28, 8, 29, 30, 4, 31, 32, 33, 34, 35, 36, 37, 38, 39, 40, 41, 42, 43, 44, 45, 46, 47, 48, 49, 50, 51, 52, 53, 54, 55, 56] (by decide +kernel) (by decide +kernel)
set_option maxRecDepth 20000 in
theorem gX2_reportToBase_X2_sendToBase : GoodIn wsX2_reportToBase (wsV RX2 160 RX2 yX2_sendToBase wsX2_sendToBase) := goodIn_app (goodIn_of _ (by decide +kernel)) ggX2_reportToBase_X2_sendToBase
theorem dX2_reportToBase_0 : decode cX2_reportToBase 0 = .ok (.iconst 0, 1) := by decide +kernel
theorem dX2_reportToBase_1 : decode cX2_reportToBase 1 = .ok (.istore_n 1, 1) := by decide +kernel
theorem dX2_reportToBase_2 : decode cX2_reportToBase 2 = .ok (.iload_n 1, 1) := by decide +kernel
theorem dX2_reportToBase_3 : decode cX2_reportToBase 3 = .ok (.aload_n 0, 1) := by decide +kernel
theorem dX2_reportToBase_4 : decode cX2_reportToBase 4 = .ok (.getfield 9, 3) := by decide +kernel
theorem dX2_reportToBase_7 : decode cX2_reportToBase 7 = .ok (.getfield 64, 3) := by decide +kernel
theorem dX2_reportToBase_10 : decode cX2_reportToBase 10 = .ok (.if_icmp .ge 32, 3) := by decide +kernel
theorem dX2_reportToBase_13 : decode cX2_reportToBase 13 = .ok (.aload_n 0, 1) := by decide +kernel
theorem dX2_reportToBase_14 : decode cX2_reportToBase 14 = .ok (.getfield 9, 3) := by decide +kernel
theorem dX2_reportToBase_17 : decode cX2_reportToBase 17 = .ok (.getfield 67, 3) := by decide +kernel
theorem dX2_reportToBase_20 : decode cX2_reportToBase 20 = .ok (.iload_n 1, 1) := by decide +kernel
theorem dX2_reportToBase_21 : decode cX2_reportToBase 21 = .ok (.aaload, 1) := by decide +kernel
theorem dX2_reportToBase_22 : decode cX2_reportToBase 22 = .ok (.astore_n 2, 1) := by decide +kernel
theorem dX2_reportToBase_23 : decode cX2_reportToBase 23 = .ok (.aload_n 2, 1) := by decide +kernel
theorem dX2_reportToBase_24 : decode cX2_reportToBase 24 = .ok (.getfield 84, 3) := by decide +kernel
theorem dX2_reportToBase_27 : decode cX2_reportToBase 27 = .ok (.ifCond .eq 9, 3) := by decide +kernel
theorem dX2_reportToBase_30 : decode cX2_reportToBase 30 = .ok (.aload_n 0, 1) := by decide +kernel
theorem dX2_reportToBase_31 : decode cX2_reportToBase 31 = .ok (.aload_n 2, 1) := by decide +kernel
theorem dX2_reportToBase_32 : decode cX2_reportToBase 32 = .ok (.iconst 1, 1) := by decide +kernel
theorem dX2_reportToBase_33 : decode cX2_reportToBase 33 = .ok (.invokevirtual 160, 3) := by decide +kernel
theorem dX2_reportToBase_36 : decode cX2_reportToBase 36 = .ok (.iinc 1 1, 3) := by decide +kernel
theorem dX2_reportToBase_39 : decode cX2_reportToBase 39 = .ok (.goto (-37), 3) := by decide +kernel
theorem dX2_reportToBase_42 : decode cX2_reportToBase 42 = .ok (.return_, 1) := by decide +kernel
set_option maxRecDepth 20000 in
theorem ggX2_sendToBase_X3_distanceTo : GoodIn wsX2_sendToBase wsX3_distanceTo := goodIn_r _ [9, 10, 11, 40, 41, 42, 43, 44, 45, 46, 47, 48, 49, 50] (by decide +kernel) (by decide +kernel)
set_option maxRecDepth 20000 in
theorem gX2_sendToBase_X3_distanceTo : GoodIn wsX2_sendToBase (wsV RX2 134 RX3 yX3_distanceTo wsX3_distanceTo) := goodIn_app (goodIn_of _ (by decide +kernel)) ggX2_sendToBase_X3_distanceTo
set_option maxRecDepth 20000 in
theorem ggX2_sendToBase_X1_costOver : GoodIn wsX2_sendToBase wsX1_costOver := goodIn_r _ [16, 17, 29, 30, 31, 32, 33, 34, 35, 36, 37, 38, 39] (by decide +kernel) (by decide +kernel)
set_option maxRecDepth 20000 in
theorem gX2_sendToBase_X1_costOver : GoodIn wsX2_sendToBase (wsV RX2 173 RX1 yX1_costOver wsX1_costOver) := goodIn_app (goodIn_of _ (by decide +kernel)) ggX2_sendToBase_X1_costOver
set_option maxRecDepth 20000 in
theorem ggX2_sendToBase_X2_pays : GoodIn wsX2_sendToBase wsX2_pays := goodIn_r _ [22, 23, 24, 1, 25, 26, 27, 40, 41, 42, 43, 44, 45, 46, 47, 48, 49, 50, 28, 29, 30, 31, 32, 33, 34, 35, 36, 37, 38, 39] (by decide +kernel) (by decide +kernel)
set_option maxRecDepth 20000 in
theorem gX2_sendToBase_X2_pays : GoodIn wsX2_sendToBase (wsV RX2 103 RX2 yX2_pays wsX2_pays) := goodIn_app (goodIn_of _ (by decide +kernel)) ggX2_sendToBase_X2_pays
theorem dX2_sendToBase_0 : decode cX2_sendToBase 0 = .ok (.aload_n 0, 1) := by decide +kernel
theorem dX2_sendToBase_1 : decode cX2_sendToBase 1 = .ok (.aload_n 1, 1) := by decide +kernel
theorem dX2_sendToBase_2 : decode cX2_sendToBase 2 = .ok (.aload_n 0, 1) := by decide +kernel
theorem dX2_sendToBase_3 : decode cX2_sendToBase 3 = .ok (.getfield 9, 3) := by decide +kernel
theorem dX2_sendToBase_6 : decode cX2_sendToBase 6 = .ok (.aload_n 1, 1) := by decide +kernel
theorem dX2_sendToBase_7 : decode cX2_sendToBase 7 = .ok (.aload_n 0, 1) := by decide +kernel
theorem dX2_sendToBase_8 : decode cX2_sendToBase 8 = .ok (.getfield 9, 3) := by decide +kernel
theorem dX2_sendToBase_11 : decode cX2_sendToBase 11 = .ok (.getfield 164, 3) := by decide +kernel
theorem dX2_sendToBase_14 : decode cX2_sendToBase 14 = .ok (.aload_n 0, 1) := by decide +kernel
theorem dX2_sendToBase_15 : decode cX2_sendToBase 15 = .ok (.getfield 9, 3) := by decide +kernel
theorem dX2_sendToBase_18 : decode cX2_sendToBase 18 = .ok (.getfield 167, 3) := by decide +kernel
theorem dX2_sendToBase_21 : decode cX2_sendToBase 21 = .ok (.invokevirtual 134, 3) := by decide +kernel
theorem dX2_sendToBase_24 : decode cX2_sendToBase 24 = .ok (.invokevirtual 173, 3) := by decide +kernel
theorem dX2_sendToBase_27 : decode cX2_sendToBase 27 = .ok (.invokevirtual 103, 3) := by decide +kernel
theorem dX2_sendToBase_30 : decode cX2_sendToBase 30 = .ok (.ifCond .eq 16, 3) := by decide +kernel
theorem dX2_sendToBase_33 : decode cX2_sendToBase 33 = .ok (.aload_n 0, 1) := by decide +kernel
theorem dX2_sendToBase_34 : decode cX2_sendToBase 34 = .ok (.getfield 9, 3) := by decide +kernel
theorem dX2_sendToBase_37 : decode cX2_sendToBase 37 = .ok (.dup, 1) := by decide +kernel
theorem dX2_sendToBase_38 : decode cX2_sendToBase 38 = .ok (.getfield 55, 3) := by decide +kernel
theorem dX2_sendToBase_41 : decode cX2_sendToBase 41 = .ok (.iload_n 2, 1) := by decide +kernel
theorem dX2_sendToBase_42 : decode cX2_sendToBase 42 = .ok (.iadd, 1) := by decide +kernel
theorem dX2_sendToBase_43 : decode cX2_sendToBase 43 = .ok (.putfield 55, 3) := by decide +kernel
theorem dX2_sendToBase_46 : decode cX2_sendToBase 46 = .ok (.return_, 1) := by decide +kernel
set_option maxRecDepth 20000 in
theorem ggX2_sends_X3_distanceTo : GoodIn wsX2_sends wsX3_distanceTo := goodIn_r _ [10, 11, 12, 29, 30, 31, 32, 33, 34, 35, 36, 37, 38, 39] (by decide +kernel) (by decide +kernel)
set_option maxRecDepth 20000 in
theorem gX2_sends_X3_distanceTo : GoodIn wsX2_sends (wsV RX2 134 RX3 yX3_distanceTo wsX3_distanceTo) := goodIn_app (goodIn_of _ (by decide +kernel)) ggX2_sends_X3_distanceTo
set_option maxRecDepth 20000 in
theorem ggX2_sends_X1_costOver : GoodIn wsX2_sends wsX1_costOver := goodIn_r _ [17, 18, 40, 41, 42, 43, 44, 45, 46, 47, 48, 49, 50] (by decide +kernel) (by decide +kernel)
set_option maxRecDepth 20000 in
theorem gX2_sends_X1_costOver : GoodIn wsX2_sends (wsV RX2 173 RX1 yX1_costOver wsX1_costOver) := goodIn_app (goodIn_of _ (by decide +kernel)) ggX2_sends_X1_costOver
set_option maxRecDepth 20000 in
theorem ggX2_sends_X2_pays : GoodIn wsX2_sends wsX2_pays := goodIn_r _ [23, 24, 4, 1, 25, 26, 27, 29, 30, 31, 32, 33, 34, 35, 36, 37, 38, 39, 28, 40, 41, 42, 43, 44, 45, 46, 47, 48, 49, 50] (by decide +kernel) (by decide +kernel)
set_option maxRecDepth 20000 in
theorem gX2_sends_X2_pays : GoodIn wsX2_sends (wsV RX2 103 RX2 yX2_pays wsX2_pays) := goodIn_app (goodIn_of _ (by decide +kernel)) ggX2_sends_X2_pays
theorem dX2_sends_0 : decode cX2_sends 0 = .ok (.aload_n 0, 1) := by decide +kernel
theorem dX2_sends_1 : decode cX2_sends 1 = .ok (.aload_n 1, 1) := by decide +kernel
theorem dX2_sends_2 : decode cX2_sends 2 = .ok (.aload_n 0, 1) := by decide +kernel
theorem dX2_sends_3 : decode cX2_sends 3 = .ok (.getfield 9, 3) := by decide +kernel
theorem dX2_sends_6 : decode cX2_sends 6 = .ok (.aload_n 1, 1) := by decide +kernel
theorem dX2_sends_7 : decode cX2_sends 7 = .ok (.aload_n 2, 1) := by decide +kernel
theorem dX2_sends_8 : decode cX2_sends 8 = .ok (.getfield 113, 3) := by decide +kernel
theorem dX2_sends_11 : decode cX2_sends 11 = .ok (.aload_n 2, 1) := by decide +kernel
theorem dX2_sends_12 : decode cX2_sends 12 = .ok (.getfield 116, 3) := by decide +kernel
theorem dX2_sends_15 : decode cX2_sends 15 = .ok (.invokevirtual 134, 3) := by decide +kernel
theorem dX2_sends_18 : decode cX2_sends 18 = .ok (.invokevirtual 173, 3) := by decide +kernel
theorem dX2_sends_21 : decode cX2_sends 21 = .ok (.invokevirtual 103, 3) := by decide +kernel
theorem dX2_sends_24 : decode cX2_sends 24 = .ok (.ifCond .eq 48, 3) := by decide +kernel
theorem dX2_sends_27 : decode cX2_sends 27 = .ok (.aload_n 2, 1) := by decide +kernel
theorem dX2_sends_28 : decode cX2_sends 28 = .ok (.getfield 84, 3) := by decide +kernel
theorem dX2_sends_31 : decode cX2_sends 31 = .ok (.ifCond .eq 41, 3) := by decide +kernel
theorem dX2_sends_34 : decode cX2_sends 34 = .ok (.aload_n 0, 1) := by decide +kernel
theorem dX2_sends_35 : decode cX2_sends 35 = .ok (.aload_n 2, 1) := by decide +kernel
theorem dX2_sends_36 : decode cX2_sends 36 = .ok (.aload_n 0, 1) := by decide +kernel
theorem dX2_sends_37 : decode cX2_sends 37 = .ok (.getfield 9, 3) := by decide +kernel
theorem dX2_sends_40 : decode cX2_sends 40 = .ok (.getfield 80, 3) := by decide +kernel
theorem dX2_sends_43 : decode cX2_sends 43 = .ok (.iconst 1, 1) := by decide +kernel
theorem dX2_sends_44 : decode cX2_sends 44 = .ok (.iaload, 1) := by decide +kernel
theorem dX2_sends_45 : decode cX2_sends 45 = .ok (.invokevirtual 103, 3) := by decide +kernel
theorem dX2_sends_48 : decode cX2_sends 48 = .ok (.ifCond .eq 24, 3) := by decide +kernel
theorem dX2_sends_51 : decode cX2_sends 51 = .ok (.aload_n 0, 1) := by decide +kernel
theorem dX2_sends_52 : decode cX2_sends 52 = .ok (.aload_n 2, 1) := by decide +kernel
theorem dX2_sends_53 : decode cX2_sends 53 = .ok (.aload_n 0, 1) := by decide +kernel
theorem dX2_sends_54 : decode cX2_sends 54 = .ok (.getfield 9, 3) := by decide +kernel
theorem dX2_sends_57 : decode cX2_sends 57 = .ok (.getfield 80, 3) := by decide +kernel
theorem dX2_sends_60 : decode cX2_sends 60 = .ok (.iconst 3, 1) := by decide +kernel
theorem dX2_sends_61 : decode cX2_sends 61 = .ok (.iaload, 1) := by decide +kernel
theorem dX2_sends_62 : decode cX2_sends 62 = .ok (.invokevirtual 103, 3) := by decide +kernel
theorem dX2_sends_65 : decode cX2_sends 65 = .ok (.ifCond .eq 7, 3) := by decide +kernel
theorem dX2_sends_68 : decode cX2_sends 68 = .ok (.iconst 1, 1) := by decide +kernel
theorem dX2_sends_69 : decode cX2_sends 69 = .ok (.goto 4, 3) := by decide +kernel
theorem dX2_sends_72 : decode cX2_sends 72 = .ok (.iconst 0, 1) := by decide +kernel
theorem dX2_sends_73 : decode cX2_sends 73 = .ok (.ireturn, 1) := by decide +kernel
theorem dX2_pays_0 : decode cX2_pays 0 = .ok (.aload_n 1, 1) := by decide +kernel
theorem dX2_pays_1 : decode cX2_pays 1 = .ok (.getfield 177, 3) := by decide +kernel
theorem dX2_pays_4 : decode cX2_pays 4 = .ok (.iload_n 2, 1) := by decide +kernel
theorem dX2_pays_5 : decode cX2_pays 5 = .ok (.if_icmp .ge 21, 3) := by decide +kernel
theorem dX2_pays_8 : decode cX2_pays 8 = .ok (.aload_n 1, 1) := by decide +kernel
theorem dX2_pays_9 : decode cX2_pays 9 = .ok (.iconst 0, 1) := by decide +kernel
theorem dX2_pays_10 : decode cX2_pays 10 = .ok (.putfield 84, 3) := by decide +kernel
theorem dX2_pays_13 : decode cX2_pays 13 = .ok (.aload_n 1, 1) := by decide +kernel
theorem dX2_pays_14 : decode cX2_pays 14 = .ok (.aload_n 0, 1) := by decide +kernel
theorem dX2_pays_15 : decode cX2_pays 15 = .ok (.getfield 9, 3) := by decide +kernel
theorem dX2_pays_18 : decode cX2_pays 18 = .ok (.getfield 58, 3) := by decide +kernel
theorem dX2_pays_21 : decode cX2_pays 21 = .ok (.putfield 180, 3) := by decide +kernel
theorem dX2_pays_24 : decode cX2_pays 24 = .ok (.iconst 0, 1) := by decide +kernel
theorem dX2_pays_25 : decode cX2_pays 25 = .ok (.ireturn, 1) := by decide +kernel
theorem dX2_pays_26 : decode cX2_pays 26 = .ok (.aload_n 1, 1) := by decide +kernel
theorem dX2_pays_27 : decode cX2_pays 27 = .ok (.dup, 1) := by decide +kernel
theorem dX2_pays_28 : decode cX2_pays 28 = .ok (.getfield 177, 3) := by decide +kernel
theorem dX2_pays_31 : decode cX2_pays 31 = .ok (.iload_n 2, 1) := by decide +kernel
theorem dX2_pays_32 : decode cX2_pays 32 = .ok (.isub, 1) := by decide +kernel
theorem dX2_pays_33 : decode cX2_pays 33 = .ok (.putfield 177, 3) := by decide +kernel
theorem dX2_pays_36 : decode cX2_pays 36 = .ok (.aload_n 0, 1) := by decide +kernel
theorem dX2_pays_37 : decode cX2_pays 37 = .ok (.getfield 9, 3) := by decide +kernel
theorem dX2_pays_40 : decode cX2_pays 40 = .ok (.dup, 1) := by decide +kernel
theorem dX2_pays_41 : decode cX2_pays 41 = .ok (.getfield 183, 3) := by decide +kernel
theorem dX2_pays_44 : decode cX2_pays 44 = .ok (.iload_n 2, 1) := by decide +kernel
theorem dX2_pays_45 : decode cX2_pays 45 = .ok (.iadd, 1) := by decide +kernel
theorem dX2_pays_46 : decode cX2_pays 46 = .ok (.putfield 183, 3) := by decide +kernel
theorem dX2_pays_49 : decode cX2_pays 49 = .ok (.iconst 1, 1) := by decide +kernel
theorem dX2_pays_50 : decode cX2_pays 50 = .ok (.ireturn, 1) := by decide +kernel
theorem dX3_init_0 : decode cX3_init 0 = .ok (.aload_n 0, 1) := by decide +kernel
theorem dX3_init_1 : decode cX3_init 1 = .ok (.invokespecial 3, 3) := by decide +kernel
theorem dX3_init_4 : decode cX3_init 4 = .ok (.return_, 1) := by decide +kernel
set_option maxRecDepth 20000 in
theorem ggX3_place_X3_beginRound : GoodIn wsX3_place wsX3_beginRound := goodIn_r _ [12, 13, 14, 15, 16, 17, 18, 19, 20, 21, 22, 23, 24, 25, 26, 27] (by decide +kernel) (by decide +kernel)
set_option maxRecDepth 20000 in
theorem gX3_place_X3_beginRound : GoodIn wsX3_place (wsV RX3 34 RX3 yX3_beginRound wsX3_beginRound) := goodIn_app (goodIn_of _ (by decide +kernel)) ggX3_place_X3_beginRound
theorem dX3_place_0 : decode cX3_place 0 = .ok (.aload_n 0, 1) := by decide +kernel
theorem dX3_place_1 : decode cX3_place 1 = .ok (.iload_n 1, 1) := by decide +kernel
theorem dX3_place_2 : decode cX3_place 2 = .ok (.putfield 9, 3) := by decide +kernel
theorem dX3_place_5 : decode cX3_place 5 = .ok (.aload_n 0, 1) := by decide +kernel
theorem dX3_place_6 : decode cX3_place 6 = .ok (.iload_n 2, 1) := by decide +kernel
theorem dX3_place_7 : decode cX3_place 7 = .ok (.putfield 15, 3) := by decide +kernel
theorem dX3_place_10 : decode cX3_place 10 = .ok (.aload_n 0, 1) := by decide +kernel
theorem dX3_place_11 : decode cX3_place 11 = .ok (.iload_n 3, 1) := by decide +kernel
theorem dX3_place_12 : decode cX3_place 12 = .ok (.putfield 18, 3) := by decide +kernel
theorem dX3_place_15 : decode cX3_place 15 = .ok (.aload_n 0, 1) := by decide +kernel
theorem dX3_place_16 : decode cX3_place 16 = .ok (.iconst 1, 1) := by decide +kernel
theorem dX3_place_17 : decode cX3_place 17 = .ok (.putfield 21, 3) := by decide +kernel
theorem dX3_place_20 : decode cX3_place 20 = .ok (.aload_n 0, 1) := by decide +kernel
theorem dX3_place_21 : decode cX3_place 21 = .ok (.iconst 1, 1) := by decide +kernel
theorem dX3_place_22 : decode cX3_place 22 = .ok (.putfield 25, 3) := by decide +kernel
theorem dX3_place_25 : decode cX3_place 25 = .ok (.aload_n 0, 1) := by decide +kernel
theorem dX3_place_26 : decode cX3_place 26 = .ok (.iconst 0, 1) := by decide +kernel
theorem dX3_place_27 : decode cX3_place 27 = .ok (.putfield 28, 3) := by decide +kernel
theorem dX3_place_30 : decode cX3_place 30 = .ok (.aload_n 0, 1) := by decide +kernel
theorem dX3_place_31 : decode cX3_place 31 = .ok (.bipush (-9), 2) := by decide +kernel
theorem dX3_place_33 : decode cX3_place 33 = .ok (.putfield 31, 3) := by decide +kernel
theorem dX3_place_36 : decode cX3_place 36 = .ok (.aload_n 0, 1) := by decide +kernel
theorem dX3_place_37 : decode cX3_place 37 = .ok (.invokevirtual 34, 3) := by decide +kernel
theorem dX3_place_40 : decode cX3_place 40 = .ok (.return_, 1) := by decide +kernel
theorem dX3_beginRound_0 : decode cX3_beginRound 0 = .ok (.aload_n 0, 1) := by decide +kernel
theorem dX3_beginRound_1 : decode cX3_beginRound 1 = .ok (.bipush (-9), 2) := by decide +kernel
theorem dX3_beginRound_3 : decode cX3_beginRound 3 = .ok (.putfield 37, 3) := by decide +kernel
theorem dX3_beginRound_6 : decode cX3_beginRound 6 = .ok (.aload_n 0, 1) := by decide +kernel
theorem dX3_beginRound_7 : decode cX3_beginRound 7 = .ok (.bipush (-9), 2) := by decide +kernel
theorem dX3_beginRound_9 : decode cX3_beginRound 9 = .ok (.putfield 40, 3) := by decide +kernel
theorem dX3_beginRound_12 : decode cX3_beginRound 12 = .ok (.aload_n 0, 1) := by decide +kernel
theorem dX3_beginRound_13 : decode cX3_beginRound 13 = .ok (.iconst 0, 1) := by decide +kernel
theorem dX3_beginRound_14 : decode cX3_beginRound 14 = .ok (.putfield 43, 3) := by decide +kernel
theorem dX3_beginRound_17 : decode cX3_beginRound 17 = .ok (.aload_n 0, 1) := by decide +kernel
theorem dX3_beginRound_18 : decode cX3_beginRound 18 = .ok (.iconst 0, 1) := by decide +kernel
theorem dX3_beginRound_19 : decode cX3_beginRound 19 = .ok (.putfield 46, 3) := by decide +kernel
theorem dX3_beginRound_22 : decode cX3_beginRound 22 = .ok (.return_, 1) := by decide +kernel
theorem dX3_copyFrom_0 : decode cX3_copyFrom 0 = .ok (.aload_n 0, 1) := by decide +kernel
theorem dX3_copyFrom_1 : decode cX3_copyFrom 1 = .ok (.aload_n 1, 1) := by decide +kernel
theorem dX3_copyFrom_2 : decode cX3_copyFrom 2 = .ok (.getfield 9, 3) := by decide +kernel
theorem dX3_copyFrom_5 : decode cX3_copyFrom 5 = .ok (.putfield 9, 3) := by decide +kernel
theorem dX3_copyFrom_8 : decode cX3_copyFrom 8 = .ok (.aload_n 0, 1) := by decide +kernel
theorem dX3_copyFrom_9 : decode cX3_copyFrom 9 = .ok (.aload_n 1, 1) := by decide +kernel
theorem dX3_copyFrom_10 : decode cX3_copyFrom 10 = .ok (.getfield 15, 3) := by decide +kernel
theorem dX3_copyFrom_13 : decode cX3_copyFrom 13 = .ok (.putfield 15, 3) := by decide +kernel
theorem dX3_copyFrom_16 : decode cX3_copyFrom 16 = .ok (.aload_n 0, 1) := by decide +kernel
theorem dX3_copyFrom_17 : decode cX3_copyFrom 17 = .ok (.aload_n 1, 1) := by decide +kernel
theorem dX3_copyFrom_18 : decode cX3_copyFrom 18 = .ok (.getfield 18, 3) := by decide +kernel
theorem dX3_copyFrom_21 : decode cX3_copyFrom 21 = .ok (.putfield 18, 3) := by decide +kernel
theorem dX3_copyFrom_24 : decode cX3_copyFrom 24 = .ok (.aload_n 0, 1) := by decide +kernel
theorem dX3_copyFrom_25 : decode cX3_copyFrom 25 = .ok (.aload_n 1, 1) := by decide +kernel
theorem dX3_copyFrom_26 : decode cX3_copyFrom 26 = .ok (.getfield 21, 3) := by decide +kernel
theorem dX3_copyFrom_29 : decode cX3_copyFrom 29 = .ok (.putfield 21, 3) := by decide +kernel
theorem dX3_copyFrom_32 : decode cX3_copyFrom 32 = .ok (.aload_n 0, 1) := by decide +kernel
theorem dX3_copyFrom_33 : decode cX3_copyFrom 33 = .ok (.aload_n 1, 1) := by decide +kernel
theorem dX3_copyFrom_34 : decode cX3_copyFrom 34 = .ok (.getfield 25, 3) := by decide +kernel
theorem dX3_copyFrom_37 : decode cX3_copyFrom 37 = .ok (.putfield 25, 3) := by decide +kernel
theorem dX3_copyFrom_40 : decode cX3_copyFrom 40 = .ok (.aload_n 0, 1) := by decide +kernel
theorem dX3_copyFrom_41 : decode cX3_copyFrom 41 = .ok (.aload_n 1, 1) := by decide +kernel
theorem dX3_copyFrom_42 : decode cX3_copyFrom 42 = .ok (.getfield 28, 3) := by decide +kernel
theorem dX3_copyFrom_45 : decode cX3_copyFrom 45 = .ok (.putfield 28, 3) := by decide +kernel
theorem dX3_copyFrom_48 : decode cX3_copyFrom 48 = .ok (.aload_n 0, 1) := by decide +kernel
theorem dX3_copyFrom_49 : decode cX3_copyFrom 49 = .ok (.aload_n 1, 1) := by decide +kernel
theorem dX3_copyFrom_50 : decode cX3_copyFrom 50 = .ok (.getfield 31, 3) := by decide +kernel
theorem dX3_copyFrom_53 : decode cX3_copyFrom 53 = .ok (.putfield 31, 3) := by decide +kernel
theorem dX3_copyFrom_56 : decode cX3_copyFrom 56 = .ok (.aload_n 0, 1) := by decide +kernel
theorem dX3_copyFrom_57 : decode cX3_copyFrom 57 = .ok (.aload_n 1, 1) := by decide +kernel
theorem dX3_copyFrom_58 : decode cX3_copyFrom 58 = .ok (.getfield 37, 3) := by decide +kernel
theorem dX3_copyFrom_61 : decode cX3_copyFrom 61 = .ok (.putfield 37, 3) := by decide +kernel
theorem dX3_copyFrom_64 : decode cX3_copyFrom 64 = .ok (.aload_n 0, 1) := by decide +kernel
theorem dX3_copyFrom_65 : decode cX3_copyFrom 65 = .ok (.aload_n 1, 1) := by decide +kernel
theorem dX3_copyFrom_66 : decode cX3_copyFrom 66 = .ok (.getfield 40, 3) := by decide +kernel
theorem dX3_copyFrom_69 : decode cX3_copyFrom 69 = .ok (.putfield 40, 3) := by decide +kernel
theorem dX3_copyFrom_72 : decode cX3_copyFrom 72 = .ok (.return_, 1) := by decide +kernel
theorem dX3_distanceTo_0 : decode cX3_distanceTo 0 = .ok (.aload_n 0, 1) := by decide +kernel
theorem dX3_distanceTo_1 : decode cX3_distanceTo 1 = .ok (.getfield 9, 3) := by decide +kernel
theorem dX3_distanceTo_4 : decode cX3_distanceTo 4 = .ok (.iload_n 1, 1) := by decide +kernel
theorem dX3_distanceTo_5 : decode cX3_distanceTo 5 = .ok (.isub, 1) := by decide +kernel
theorem dX3_distanceTo_6 : decode cX3_distanceTo 6 = .ok (.istore_n 3, 1) := by decide +kernel
theorem dX3_distanceTo_7 : decode cX3_distanceTo 7 = .ok (.aload_n 0, 1) := by decide +kernel
theorem dX3_distanceTo_8 : decode cX3_distanceTo 8 = .ok (.getfield 15, 3) := by decide +kernel
theorem dX3_distanceTo_11 : decode cX3_distanceTo 11 = .ok (.iload_n 2, 1) := by decide +kernel
theorem dX3_distanceTo_12 : decode cX3_distanceTo 12 = .ok (.isub, 1) := by decide +kernel
theorem dX3_distanceTo_13 : decode cX3_distanceTo 13 = .ok (.istore 4, 2) := by decide +kernel
theorem dX3_distanceTo_15 : decode cX3_distanceTo 15 = .ok (.iload_n 3, 1) := by decide +kernel
theorem dX3_distanceTo_16 : decode cX3_distanceTo 16 = .ok (.iload_n 3, 1) := by decide +kernel
theorem dX3_distanceTo_17 : decode cX3_distanceTo 17 = .ok (.imul, 1) := by decide +kernel
theorem dX3_distanceTo_18 : decode cX3_distanceTo 18 = .ok (.iload 4, 2) := by decide +kernel
theorem dX3_distanceTo_20 : decode cX3_distanceTo 20 = .ok (.iload 4, 2) := by decide +kernel
theorem dX3_distanceTo_22 : decode cX3_distanceTo 22 = .ok (.imul, 1) := by decide +kernel
theorem dX3_distanceTo_23 : decode cX3_distanceTo 23 = .ok (.iadd, 1) := by decide +kernel
theorem dX3_distanceTo_24 : decode cX3_distanceTo 24 = .ok (.ireturn, 1) := by decide +kernel
set_option maxRecDepth 20000 in
theorem ggX4_init_X1_init : GoodIn wsX4_init wsX1_init := goodIn_r _ [23, 24, 2, 3, 25, 26, 27, 28, 29, 30, 31, 32, 33, 34, 35, 36, 37, 38, 39, 40, 41, 54, 55, 56, 57, 58, 59, 60, 61, 62, 63, 64, 75, 76, 77, 78, 79, 80, 81, 82, 83, 84, 85] (by decide +kernel) (by decide +kernel)
set_option maxRecDepth 20000 in
theorem gX4_init_X1_init : GoodIn wsX4_init (wsX1_init) := ggX4_init_X1_init
set_option maxRecDepth 20000 in
theorem ggX4_init_X2_init : GoodIn wsX4_init wsX2_init := goodIn_r _ [44, 45, 2, 3, 46, 72] (by decide +kernel) (by decide +kernel)
set_option maxRecDepth 20000 in
theorem gX4_init_X2_init : GoodIn wsX4_init (wsX2_init) := ggX4_init_X2_init
set_option maxRecDepth 20000 in
theorem ggX4_init_X0_init : GoodIn wsX4_init wsX0_init := goodIn_r _ [49, 50, 2, 3, 51, 52, 5, 6, 53, 22, 23, 24, 25, 26, 27, 28, 29, 30, 31, 32, 33, 34, 35, 36, 37, 38, 39, 40, 41, 73, 74, 54, 55, 56, 57, 58, 59, 60, 61, 62, 63, 64, 75, 76, 77, 78, 79, 80, 81, 82, 83, 84, 85] (by decide +kernel) (by decide +kernel)
set_option maxRecDepth 20000 in
theorem gX4_init_X0_init : GoodIn wsX4_init (wsX0_init) := ggX4_init_X0_init
theorem dX4_init_0 : decode cX4_init 0 = .ok (.aload_n 0, 1) := by decide +kernel
theorem dX4_init_1 : decode cX4_init 1 = .ok (.invokespecial 1, 3) := by decide +kernel
theorem dX4_init_4 : decode cX4_init 4 = .ok (.aload_n 0, 1) := by decide +kernel
theorem dX4_init_5 : decode cX4_init 5 = .ok (.new 7, 3) := by decide +kernel
theorem dX4_init_8 : decode cX4_init 8 = .ok (.dup, 1) := by decide +kernel
theorem dX4_init_9 : decode cX4_init 9 = .ok (.invokespecial 9, 3) := by decide +kernel
theorem dX4_init_12 : decode cX4_init 12 = .ok (.putfield 10, 3) := by decide +kernel
theorem dX4_init_15 : decode cX4_init 15 = .ok (.aload_n 0, 1) := by decide +kernel
theorem dX4_init_16 : decode cX4_init 16 = .ok (.new 16, 3) := by decide +kernel
theorem dX4_init_19 : decode cX4_init 19 = .ok (.dup, 1) := by decide +kernel
theorem dX4_init_20 : decode cX4_init 20 = .ok (.aload_n 0, 1) := by decide +kernel
theorem dX4_init_21 : decode cX4_init 21 = .ok (.getfield 10, 3) := by decide +kernel
theorem dX4_init_24 : decode cX4_init 24 = .ok (.invokespecial 18, 3) := by decide +kernel
theorem dX4_init_27 : decode cX4_init 27 = .ok (.putfield 21, 3) := by decide +kernel
theorem dX4_init_30 : decode cX4_init 30 = .ok (.aload_n 0, 1) := by decide +kernel
theorem dX4_init_31 : decode cX4_init 31 = .ok (.new 7, 3) := by decide +kernel
theorem dX4_init_34 : decode cX4_init 34 = .ok (.dup, 1) := by decide +kernel
theorem dX4_init_35 : decode cX4_init 35 = .ok (.invokespecial 9, 3) := by decide +kernel
theorem dX4_init_38 : decode cX4_init 38 = .ok (.putfield 25, 3) := by decide +kernel
theorem dX4_init_41 : decode cX4_init 41 = .ok (.aload_n 0, 1) := by decide +kernel
theorem dX4_init_42 : decode cX4_init 42 = .ok (.new 16, 3) := by decide +kernel
theorem dX4_init_45 : decode cX4_init 45 = .ok (.dup, 1) := by decide +kernel
theorem dX4_init_46 : decode cX4_init 46 = .ok (.aload_n 0, 1) := by decide +kernel
theorem dX4_init_47 : decode cX4_init 47 = .ok (.getfield 25, 3) := by decide +kernel
theorem dX4_init_50 : decode cX4_init 50 = .ok (.invokespecial 18, 3) := by decide +kernel
theorem dX4_init_53 : decode cX4_init 53 = .ok (.putfield 28, 3) := by decide +kernel
theorem dX4_init_56 : decode cX4_init 56 = .ok (.aload_n 0, 1) := by decide +kernel
theorem dX4_init_57 : decode cX4_init 57 = .ok (.new 31, 3) := by decide +kernel
theorem dX4_init_60 : decode cX4_init 60 = .ok (.dup, 1) := by decide +kernel
theorem dX4_init_61 : decode cX4_init 61 = .ok (.invokespecial 33, 3) := by decide +kernel
theorem dX4_init_64 : decode cX4_init 64 = .ok (.putfield 34, 3) := by decide +kernel
theorem dX4_init_67 : decode cX4_init 67 = .ok (.aload_n 0, 1) := by decide +kernel
theorem dX4_init_68 : decode cX4_init 68 = .ok (.iconst 2, 1) := by decide +kernel
theorem dX4_init_69 : decode cX4_init 69 = .ok (.anewarray 7, 3) := by decide +kernel
theorem dX4_init_72 : decode cX4_init 72 = .ok (.putfield 38, 3) := by decide +kernel
theorem dX4_init_75 : decode cX4_init 75 = .ok (.iconst 0, 1) := by decide +kernel
theorem dX4_init_76 : decode cX4_init 76 = .ok (.istore_n 1, 1) := by decide +kernel
theorem dX4_init_77 : decode cX4_init 77 = .ok (.iload_n 1, 1) := by decide +kernel
theorem dX4_init_78 : decode cX4_init 78 = .ok (.iconst 2, 1) := by decide +kernel
theorem dX4_init_79 : decode cX4_init 79 = .ok (.if_icmp .ge 22, 3) := by decide +kernel
theorem dX4_init_82 : decode cX4_init 82 = .ok (.aload_n 0, 1) := by decide +kernel
theorem dX4_init_83 : decode cX4_init 83 = .ok (.getfield 38, 3) := by decide +kernel
theorem dX4_init_86 : decode cX4_init 86 = .ok (.iload_n 1, 1) := by decide +kernel
theorem dX4_init_87 : decode cX4_init 87 = .ok (.new 7, 3) := by decide +kernel
theorem dX4_init_90 : decode cX4_init 90 = .ok (.dup, 1) := by decide +kernel
theorem dX4_init_91 : decode cX4_init 91 = .ok (.invokespecial 9, 3) := by decide +kernel
theorem dX4_init_94 : decode cX4_init 94 = .ok (.aastore, 1) := by decide +kernel
theorem dX4_init_95 : decode cX4_init 95 = .ok (.iinc 1 1, 3) := by decide +kernel
theorem dX4_init_98 : decode cX4_init 98 = .ok (.goto (-21), 3) := by decide +kernel
theorem dX4_init_101 : decode cX4_init 101 = .ok (.aload_n 0, 1) := by decide +kernel
theorem dX4_init_102 : decode cX4_init 102 = .ok (.iconst 2, 1) := by decide +kernel
theorem dX4_init_103 : decode cX4_init 103 = .ok (.newarray .boolean, 2) := by decide +kernel
theorem dX4_init_105 : decode cX4_init 105 = .ok (.putfield 42, 3) := by decide +kernel
theorem dX4_init_108 : decode cX4_init 108 = .ok (.return_, 1) := by decide +kernel
set_option maxRecDepth 20000 in
theorem ggX4_addSensor_X4_inRange : GoodIn wsX4_addSensor wsX4_inRange := goodIn_r _ [9] (by decide +kernel) (by decide +kernel)
set_option maxRecDepth 20000 in
theorem gX4_addSensor_X4_inRange : GoodIn wsX4_addSensor (va_wsS RX4 46 yX4_inRange wsX4_inRange) := goodIn_app (goodIn_of _ (by decide +kernel)) ggX4_addSensor_X4_inRange
set_option maxRecDepth 20000 in
theorem ggX4_addSensor_X0_push : GoodIn wsX4_addSensor wsX0_push := goodIn_r _ [14, 15, 16, 17, 18, 19, 13, 20, 21, 22, 23, 24, 25, 26, 27, 28, 29, 30, 31, 32, 33, 34, 35, 36, 37, 38, 39, 40, 41, 42, 43, 44, 45, 46, 47, 48, 49, 50, 51, 52, 53, 54, 83, 84, 72, 73, 74, 75, 76, 77, 78, 79, 80, 81, 82, 85, 86, 87, 88, 89, 90, 91, 92, 93, 94, 95] (by decide +kernel) (by decide +kernel)
set_option maxRecDepth 20000 in
theorem gX4_addSensor_X0_push : GoodIn wsX4_addSensor (wsV RX4 55 RX0 yX0_push wsX0_push) := goodIn_app (goodIn_of _ (by decide +kernel)) ggX4_addSensor_X0_push
set_option maxRecDepth 20000 in
theorem ggX4_addSensor_X3_place : GoodIn wsX4_addSensor wsX3_place := goodIn_r _ [58, 46, 47, 48, 49, 50, 51, 52, 59, 60, 61, 44, 62, 53, 54, 63, 64, 85, 86, 87, 88, 89, 90, 91, 92, 93, 94, 95] (by decide +kernel) (by decide +kernel)
set_option maxRecDepth 20000 in
theorem gX4_addSensor_X3_place : GoodIn wsX4_addSensor (wsV RX4 62 RX3 yX3_place wsX3_place) := goodIn_app (goodIn_of _ (by decide +kernel)) ggX4_addSensor_X3_place
theorem dX4_addSensor_0 : decode cX4_addSensor 0 = .ok (.iload_n 1, 1) := by decide +kernel
theorem dX4_addSensor_1 : decode cX4_addSensor 1 = .ok (.iconst 0, 1) := by decide +kernel
theorem dX4_addSensor_2 : decode cX4_addSensor 2 = .ok (.bipush 99, 2) := by decide +kernel
theorem dX4_addSensor_4 : decode cX4_addSensor 4 = .ok (.invokestatic 46, 3) := by decide +kernel
theorem dX4_addSensor_7 : decode cX4_addSensor 7 = .ok (.ifCond .eq 23, 3) := by decide +kernel
theorem dX4_addSensor_10 : decode cX4_addSensor 10 = .ok (.iload_n 2, 1) := by decide +kernel
theorem dX4_addSensor_11 : decode cX4_addSensor 11 = .ok (.iconst 0, 1) := by decide +kernel
theorem dX4_addSensor_12 : decode cX4_addSensor 12 = .ok (.bipush 99, 2) := by decide +kernel
theorem dX4_addSensor_14 : decode cX4_addSensor 14 = .ok (.invokestatic 46, 3) := by decide +kernel
theorem dX4_addSensor_17 : decode cX4_addSensor 17 = .ok (.ifCond .eq 13, 3) := by decide +kernel
theorem dX4_addSensor_20 : decode cX4_addSensor 20 = .ok (.iload_n 3, 1) := by decide +kernel
theorem dX4_addSensor_21 : decode cX4_addSensor 21 = .ok (.iconst 0, 1) := by decide +kernel
theorem dX4_addSensor_22 : decode cX4_addSensor 22 = .ok (.ldc 50, 2) := by decide +kernel
theorem dX4_addSensor_24 : decode cX4_addSensor 24 = .ok (.invokestatic 46, 3) := by decide +kernel
theorem dX4_addSensor_27 : decode cX4_addSensor 27 = .ok (.ifCond .ne 5, 3) := by decide +kernel
theorem dX4_addSensor_30 : decode cX4_addSensor 30 = .ok (.iconst (-1), 1) := by decide +kernel
theorem dX4_addSensor_31 : decode cX4_addSensor 31 = .ok (.ireturn, 1) := by decide +kernel
theorem dX4_addSensor_32 : decode cX4_addSensor 32 = .ok (.aload_n 0, 1) := by decide +kernel
theorem dX4_addSensor_33 : decode cX4_addSensor 33 = .ok (.getfield 10, 3) := by decide +kernel
theorem dX4_addSensor_36 : decode cX4_addSensor 36 = .ok (.getfield 51, 3) := by decide +kernel
theorem dX4_addSensor_39 : decode cX4_addSensor 39 = .ok (.bipush 12, 2) := by decide +kernel
theorem dX4_addSensor_41 : decode cX4_addSensor 41 = .ok (.if_icmp .lt 6, 3) := by decide +kernel
theorem dX4_addSensor_44 : decode cX4_addSensor 44 = .ok (.bipush (-3), 2) := by decide +kernel
theorem dX4_addSensor_46 : decode cX4_addSensor 46 = .ok (.ireturn, 1) := by decide +kernel
theorem dX4_addSensor_47 : decode cX4_addSensor 47 = .ok (.aload_n 0, 1) := by decide +kernel
theorem dX4_addSensor_48 : decode cX4_addSensor 48 = .ok (.getfield 34, 3) := by decide +kernel
theorem dX4_addSensor_51 : decode cX4_addSensor 51 = .ok (.aload_n 0, 1) := by decide +kernel
theorem dX4_addSensor_52 : decode cX4_addSensor 52 = .ok (.getfield 10, 3) := by decide +kernel
theorem dX4_addSensor_55 : decode cX4_addSensor 55 = .ok (.invokevirtual 55, 3) := by decide +kernel
theorem dX4_addSensor_58 : decode cX4_addSensor 58 = .ok (.aload_n 0, 1) := by decide +kernel
theorem dX4_addSensor_59 : decode cX4_addSensor 59 = .ok (.getfield 10, 3) := by decide +kernel
theorem dX4_addSensor_62 : decode cX4_addSensor 62 = .ok (.getfield 58, 3) := by decide +kernel
theorem dX4_addSensor_65 : decode cX4_addSensor 65 = .ok (.aload_n 0, 1) := by decide +kernel
theorem dX4_addSensor_66 : decode cX4_addSensor 66 = .ok (.getfield 10, 3) := by decide +kernel
theorem dX4_addSensor_69 : decode cX4_addSensor 69 = .ok (.getfield 51, 3) := by decide +kernel
theorem dX4_addSensor_72 : decode cX4_addSensor 72 = .ok (.aaload, 1) := by decide +kernel
theorem dX4_addSensor_73 : decode cX4_addSensor 73 = .ok (.iload_n 1, 1) := by decide +kernel
theorem dX4_addSensor_74 : decode cX4_addSensor 74 = .ok (.iload_n 2, 1) := by decide +kernel
theorem dX4_addSensor_75 : decode cX4_addSensor 75 = .ok (.iload_n 3, 1) := by decide +kernel
theorem dX4_addSensor_76 : decode cX4_addSensor 76 = .ok (.invokevirtual 62, 3) := by decide +kernel
theorem dX4_addSensor_79 : decode cX4_addSensor 79 = .ok (.aload_n 0, 1) := by decide +kernel
theorem dX4_addSensor_80 : decode cX4_addSensor 80 = .ok (.getfield 10, 3) := by decide +kernel
theorem dX4_addSensor_83 : decode cX4_addSensor 83 = .ok (.dup, 1) := by decide +kernel
theorem dX4_addSensor_84 : decode cX4_addSensor 84 = .ok (.getfield 51, 3) := by decide +kernel
theorem dX4_addSensor_87 : decode cX4_addSensor 87 = .ok (.iconst 1, 1) := by decide +kernel
theorem dX4_addSensor_88 : decode cX4_addSensor 88 = .ok (.iadd, 1) := by decide +kernel
theorem dX4_addSensor_89 : decode cX4_addSensor 89 = .ok (.putfield 51, 3) := by decide +kernel
theorem dX4_addSensor_92 : decode cX4_addSensor 92 = .ok (.aload_n 0, 1) := by decide +kernel
theorem dX4_addSensor_93 : decode cX4_addSensor 93 = .ok (.getfield 10, 3) := by decide +kernel
theorem dX4_addSensor_96 : decode cX4_addSensor 96 = .ok (.getfield 51, 3) := by decide +kernel
theorem dX4_addSensor_99 : decode cX4_addSensor 99 = .ok (.iconst 1, 1) := by decide +kernel
theorem dX4_addSensor_100 : decode cX4_addSensor 100 = .ok (.isub, 1) := by decide +kernel
theorem dX4_addSensor_101 : decode cX4_addSensor 101 = .ok (.ireturn, 1) := by decide +kernel
set_option maxRecDepth 20000 in
theorem ggX4_moveBase_X4_inRange : GoodIn wsX4_moveBase wsX4_inRange := goodIn_r _ [8] (by decide +kernel) (by decide +kernel)
set_option maxRecDepth 20000 in
theorem gX4_moveBase_X4_inRange : GoodIn wsX4_moveBase (va_wsS RX4 46 yX4_inRange wsX4_inRange) := goodIn_app (goodIn_of _ (by decide +kernel)) ggX4_moveBase_X4_inRange
set_option maxRecDepth 20000 in
theorem ggX4_moveBase_X0_push : GoodIn wsX4_moveBase wsX0_push := goodIn_r _ [13, 14, 15, 16, 17, 18, 12, 19, 20, 21, 22, 23, 24, 25, 26, 27, 28, 29, 30, 31, 32, 33, 34, 35, 36, 37, 38, 39, 40, 41, 42, 43, 44, 45, 46, 47, 48, 49, 50, 51, 52, 53, 72, 73, 61, 62, 63, 64, 65, 66, 67, 68, 69, 70, 71, 74, 75, 76, 77, 78, 79, 80, 81, 82, 83, 84] (by decide +kernel) (by decide +kernel)
set_option maxRecDepth 20000 in
theorem gX4_moveBase_X0_push : GoodIn wsX4_moveBase (wsV RX4 55 RX0 yX0_push wsX0_push) := goodIn_app (goodIn_of _ (by decide +kernel)) ggX4_moveBase_X0_push
theorem dX4_moveBase_0 : decode cX4_moveBase 0 = .ok (.iload_n 1, 1) := by decide +kernel
theorem dX4_moveBase_1 : decode cX4_moveBase 1 = .ok (.iconst 0, 1) := by decide +kernel
theorem dX4_moveBase_2 : decode cX4_moveBase 2 = .ok (.sipush 199, 3) := by decide +kernel
theorem dX4_moveBase_5 : decode cX4_moveBase 5 = .ok (.invokestatic 46, 3) := by decide +kernel
theorem dX4_moveBase_8 : decode cX4_moveBase 8 = .ok (.ifCond .eq 14, 3) := by decide +kernel
theorem dX4_moveBase_11 : decode cX4_moveBase 11 = .ok (.iload_n 2, 1) := by decide +kernel
theorem dX4_moveBase_12 : decode cX4_moveBase 12 = .ok (.iconst 0, 1) := by decide +kernel
theorem dX4_moveBase_13 : decode cX4_moveBase 13 = .ok (.sipush 199, 3) := by decide +kernel
theorem dX4_moveBase_16 : decode cX4_moveBase 16 = .ok (.invokestatic 46, 3) := by decide +kernel
theorem dX4_moveBase_19 : decode cX4_moveBase 19 = .ok (.ifCond .ne 5, 3) := by decide +kernel
theorem dX4_moveBase_22 : decode cX4_moveBase 22 = .ok (.iconst (-1), 1) := by decide +kernel
theorem dX4_moveBase_23 : decode cX4_moveBase 23 = .ok (.ireturn, 1) := by decide +kernel
theorem dX4_moveBase_24 : decode cX4_moveBase 24 = .ok (.aload_n 0, 1) := by decide +kernel
theorem dX4_moveBase_25 : decode cX4_moveBase 25 = .ok (.getfield 34, 3) := by decide +kernel
theorem dX4_moveBase_28 : decode cX4_moveBase 28 = .ok (.aload_n 0, 1) := by decide +kernel
theorem dX4_moveBase_29 : decode cX4_moveBase 29 = .ok (.getfield 10, 3) := by decide +kernel
theorem dX4_moveBase_32 : decode cX4_moveBase 32 = .ok (.invokevirtual 55, 3) := by decide +kernel
theorem dX4_moveBase_35 : decode cX4_moveBase 35 = .ok (.sipush 200, 3) := by decide +kernel
theorem dX4_moveBase_38 : decode cX4_moveBase 38 = .ok (.aload_n 0, 1) := by decide +kernel
theorem dX4_moveBase_39 : decode cX4_moveBase 39 = .ok (.getfield 10, 3) := by decide +kernel
theorem dX4_moveBase_42 : decode cX4_moveBase 42 = .ok (.getfield 68, 3) := by decide +kernel
theorem dX4_moveBase_45 : decode cX4_moveBase 45 = .ok (.imul, 1) := by decide +kernel
theorem dX4_moveBase_46 : decode cX4_moveBase 46 = .ok (.aload_n 0, 1) := by decide +kernel
theorem dX4_moveBase_47 : decode cX4_moveBase 47 = .ok (.getfield 10, 3) := by decide +kernel
theorem dX4_moveBase_50 : decode cX4_moveBase 50 = .ok (.getfield 71, 3) := by decide +kernel
theorem dX4_moveBase_53 : decode cX4_moveBase 53 = .ok (.iadd, 1) := by decide +kernel
theorem dX4_moveBase_54 : decode cX4_moveBase 54 = .ok (.istore_n 3, 1) := by decide +kernel
theorem dX4_moveBase_55 : decode cX4_moveBase 55 = .ok (.aload_n 0, 1) := by decide +kernel
theorem dX4_moveBase_56 : decode cX4_moveBase 56 = .ok (.getfield 10, 3) := by decide +kernel
theorem dX4_moveBase_59 : decode cX4_moveBase 59 = .ok (.iload_n 1, 1) := by decide +kernel
theorem dX4_moveBase_60 : decode cX4_moveBase 60 = .ok (.putfield 68, 3) := by decide +kernel
theorem dX4_moveBase_63 : decode cX4_moveBase 63 = .ok (.aload_n 0, 1) := by decide +kernel
theorem dX4_moveBase_64 : decode cX4_moveBase 64 = .ok (.getfield 10, 3) := by decide +kernel
theorem dX4_moveBase_67 : decode cX4_moveBase 67 = .ok (.iload_n 2, 1) := by decide +kernel
theorem dX4_moveBase_68 : decode cX4_moveBase 68 = .ok (.putfield 71, 3) := by decide +kernel
theorem dX4_moveBase_71 : decode cX4_moveBase 71 = .ok (.iload_n 3, 1) := by decide +kernel
theorem dX4_moveBase_72 : decode cX4_moveBase 72 = .ok (.ireturn, 1) := by decide +kernel
set_option maxRecDepth 20000 in
theorem ggX4_setSetting_X4_inRange : GoodIn wsX4_setSetting wsX4_inRange := goodIn_r _ [9] (by decide +kernel) (by decide +kernel)
set_option maxRecDepth 20000 in
theorem gX4_setSetting_X4_inRange : GoodIn wsX4_setSetting (va_wsS RX4 46 yX4_inRange wsX4_inRange) := goodIn_app (goodIn_of _ (by decide +kernel)) ggX4_setSetting_X4_inRange
set_option maxRecDepth 20000 in
theorem ggX4_setSetting_X0_push : GoodIn wsX4_setSetting wsX0_push := goodIn_r _ [14, 15, 16, 17, 18, 19, 13, 20, 21, 22, 23, 24, 25, 26, 27, 28, 29, 30, 31, 32, 33, 34, 35, 36, 37, 38, 39, 40, 41, 42, 43, 44, 45, 46, 47, 48, 49, 50, 51, 52, 53, 54, 73, 74, 62, 63, 64, 65, 66, 67, 68, 69, 70, 71, 72, 75, 76, 77, 78, 79, 80, 81, 82, 83, 84, 85] (by decide +kernel) (by decide +kernel)
set_option maxRecDepth 20000 in
theorem gX4_setSetting_X0_push : GoodIn wsX4_setSetting (wsV RX4 55 RX0 yX0_push wsX0_push) := goodIn_app (goodIn_of _ (by decide +kernel)) ggX4_setSetting_X0_push
theorem dX4_setSetting_0 : decode cX4_setSetting 0 = .ok (.iload_n 1, 1) := by decide +kernel
theorem dX4_setSetting_1 : decode cX4_setSetting 1 = .ok (.iconst 0, 1) := by decide +kernel
theorem dX4_setSetting_2 : decode cX4_setSetting 2 = .ok (.iconst 5, 1) := by decide +kernel
theorem dX4_setSetting_3 : decode cX4_setSetting 3 = .ok (.invokestatic 46, 3) := by decide +kernel
theorem dX4_setSetting_6 : decode cX4_setSetting 6 = .ok (.ifCond .eq 20, 3) := by decide +kernel
theorem dX4_setSetting_9 : decode cX4_setSetting 9 = .ok (.iload_n 2, 1) := by decide +kernel
theorem dX4_setSetting_10 : decode cX4_setSetting 10 = .ok (.getstatic 74, 3) := by decide +kernel
theorem dX4_setSetting_13 : decode cX4_setSetting 13 = .ok (.iload_n 1, 1) := by decide +kernel
theorem dX4_setSetting_14 : decode cX4_setSetting 14 = .ok (.iaload, 1) := by decide +kernel
theorem dX4_setSetting_15 : decode cX4_setSetting 15 = .ok (.getstatic 78, 3) := by decide +kernel
theorem dX4_setSetting_18 : decode cX4_setSetting 18 = .ok (.iload_n 1, 1) := by decide +kernel
theorem dX4_setSetting_19 : decode cX4_setSetting 19 = .ok (.iaload, 1) := by decide +kernel
theorem dX4_setSetting_20 : decode cX4_setSetting 20 = .ok (.invokestatic 46, 3) := by decide +kernel
theorem dX4_setSetting_23 : decode cX4_setSetting 23 = .ok (.ifCond .ne 5, 3) := by decide +kernel
theorem dX4_setSetting_26 : decode cX4_setSetting 26 = .ok (.iconst (-1), 1) := by decide +kernel
theorem dX4_setSetting_27 : decode cX4_setSetting 27 = .ok (.ireturn, 1) := by decide +kernel
theorem dX4_setSetting_28 : decode cX4_setSetting 28 = .ok (.aload_n 0, 1) := by decide +kernel
theorem dX4_setSetting_29 : decode cX4_setSetting 29 = .ok (.getfield 10, 3) := by decide +kernel
theorem dX4_setSetting_32 : decode cX4_setSetting 32 = .ok (.getfield 81, 3) := by decide +kernel
theorem dX4_setSetting_35 : decode cX4_setSetting 35 = .ok (.iload_n 1, 1) := by decide +kernel
theorem dX4_setSetting_36 : decode cX4_setSetting 36 = .ok (.iaload, 1) := by decide +kernel
theorem dX4_setSetting_37 : decode cX4_setSetting 37 = .ok (.istore_n 3, 1) := by decide +kernel
theorem dX4_setSetting_38 : decode cX4_setSetting 38 = .ok (.iload_n 2, 1) := by decide +kernel
theorem dX4_setSetting_39 : decode cX4_setSetting 39 = .ok (.iload_n 3, 1) := by decide +kernel
theorem dX4_setSetting_40 : decode cX4_setSetting 40 = .ok (.if_icmp .ne 6, 3) := by decide +kernel
theorem dX4_setSetting_43 : decode cX4_setSetting 43 = .ok (.bipush (-2), 2) := by decide +kernel
theorem dX4_setSetting_45 : decode cX4_setSetting 45 = .ok (.ireturn, 1) := by decide +kernel
theorem dX4_setSetting_46 : decode cX4_setSetting 46 = .ok (.aload_n 0, 1) := by decide +kernel
theorem dX4_setSetting_47 : decode cX4_setSetting 47 = .ok (.getfield 34, 3) := by decide +kernel
theorem dX4_setSetting_50 : decode cX4_setSetting 50 = .ok (.aload_n 0, 1) := by decide +kernel
theorem dX4_setSetting_51 : decode cX4_setSetting 51 = .ok (.getfield 10, 3) := by decide +kernel
theorem dX4_setSetting_54 : decode cX4_setSetting 54 = .ok (.invokevirtual 55, 3) := by decide +kernel
theorem dX4_setSetting_57 : decode cX4_setSetting 57 = .ok (.aload_n 0, 1) := by decide +kernel
theorem dX4_setSetting_58 : decode cX4_setSetting 58 = .ok (.getfield 10, 3) := by decide +kernel
theorem dX4_setSetting_61 : decode cX4_setSetting 61 = .ok (.getfield 81, 3) := by decide +kernel
theorem dX4_setSetting_64 : decode cX4_setSetting 64 = .ok (.iload_n 1, 1) := by decide +kernel
theorem dX4_setSetting_65 : decode cX4_setSetting 65 = .ok (.iload_n 2, 1) := by decide +kernel
theorem dX4_setSetting_66 : decode cX4_setSetting 66 = .ok (.iastore, 1) := by decide +kernel
theorem dX4_setSetting_67 : decode cX4_setSetting 67 = .ok (.iload_n 3, 1) := by decide +kernel
theorem dX4_setSetting_68 : decode cX4_setSetting 68 = .ok (.ireturn, 1) := by decide +kernel
set_option maxRecDepth 20000 in
theorem ggX4_setGenerator_X0_push : GoodIn wsX4_setGenerator wsX0_push := goodIn_r _ [9, 10, 11, 12, 13, 14, 8, 15, 16, 17, 18, 19, 20, 21, 22, 23, 24, 25, 26, 27, 28, 29, 30, 31, 32, 33, 34, 35, 36, 37, 38, 39, 40, 41, 42, 43, 44, 45, 46, 47, 48, 49, 68, 69, 57, 58, 59, 60, 61, 62, 63, 64, 65, 66, 67, 70, 71, 72, 73, 74, 75, 76, 77, 78, 79, 80] (by decide +kernel) (by decide +kernel)
set_option maxRecDepth 20000 in
theorem gX4_setGenerator_X0_push : GoodIn wsX4_setGenerator (wsV RX4 55 RX0 yX0_push wsX0_push) := goodIn_app (goodIn_of _ (by decide +kernel)) ggX4_setGenerator_X0_push
theorem dX4_setGenerator_0 : decode cX4_setGenerator 0 = .ok (.iload_n 1, 1) := by decide +kernel
theorem dX4_setGenerator_1 : decode cX4_setGenerator 1 = .ok (.ifCond .ge 5, 3) := by decide +kernel
theorem dX4_setGenerator_4 : decode cX4_setGenerator 4 = .ok (.iconst (-1), 1) := by decide +kernel
theorem dX4_setGenerator_5 : decode cX4_setGenerator 5 = .ok (.ireturn, 1) := by decide +kernel
theorem dX4_setGenerator_6 : decode cX4_setGenerator 6 = .ok (.aload_n 0, 1) := by decide +kernel
theorem dX4_setGenerator_7 : decode cX4_setGenerator 7 = .ok (.getfield 34, 3) := by decide +kernel
theorem dX4_setGenerator_10 : decode cX4_setGenerator 10 = .ok (.aload_n 0, 1) := by decide +kernel
theorem dX4_setGenerator_11 : decode cX4_setGenerator 11 = .ok (.getfield 10, 3) := by decide +kernel
theorem dX4_setGenerator_14 : decode cX4_setGenerator 14 = .ok (.invokevirtual 55, 3) := by decide +kernel
theorem dX4_setGenerator_17 : decode cX4_setGenerator 17 = .ok (.aload_n 0, 1) := by decide +kernel
theorem dX4_setGenerator_18 : decode cX4_setGenerator 18 = .ok (.getfield 10, 3) := by decide +kernel
theorem dX4_setGenerator_21 : decode cX4_setGenerator 21 = .ok (.iload_n 1, 1) := by decide +kernel
theorem dX4_setGenerator_22 : decode cX4_setGenerator 22 = .ok (.putfield 84, 3) := by decide +kernel
theorem dX4_setGenerator_25 : decode cX4_setGenerator 25 = .ok (.aload_n 0, 1) := by decide +kernel
theorem dX4_setGenerator_26 : decode cX4_setGenerator 26 = .ok (.getfield 10, 3) := by decide +kernel
theorem dX4_setGenerator_29 : decode cX4_setGenerator 29 = .ok (.getfield 87, 3) := by decide +kernel
theorem dX4_setGenerator_32 : decode cX4_setGenerator 32 = .ok (.ireturn, 1) := by decide +kernel
set_option maxRecDepth 20000 in
theorem ggX4_charge_X1_has : GoodIn wsX4_charge wsX1_has := goodIn_r _ [12, 13, 68, 69, 70, 71, 72, 73, 74, 75, 76, 77, 78] (by decide +kernel) (by decide +kernel)
set_option maxRecDepth 20000 in
theorem gX4_charge_X1_has : GoodIn wsX4_charge (wsV RX4 90 RX1 yX1_has wsX1_has) := goodIn_app (goodIn_of _ (by decide +kernel)) ggX4_charge_X1_has
set_option maxRecDepth 20000 in
theorem ggX4_charge_X4_inRange : GoodIn wsX4_charge wsX4_inRange := goodIn_r _ [17] (by decide +kernel) (by decide +kernel)
set_option maxRecDepth 20000 in
theorem gX4_charge_X4_inRange : GoodIn wsX4_charge (va_wsS RX4 46 yX4_inRange wsX4_inRange) := goodIn_app (goodIn_of _ (by decide +kernel)) ggX4_charge_X4_inRange
set_option maxRecDepth 20000 in
theorem ggX4_charge_X0_push : GoodIn wsX4_charge wsX0_push := goodIn_r _ [22, 23, 24, 25, 26, 27, 21, 28, 29, 30, 31, 11, 32, 13, 33, 34, 35, 36, 37, 38, 39, 40, 41, 42, 43, 44, 45, 46, 47, 48, 49, 50, 51, 52, 53, 54, 55, 56, 57, 58, 59, 60, 90, 91, 68, 69, 70, 71, 72, 73, 74, 75, 76, 77, 78, 79, 80, 81, 82, 83, 84, 85, 86, 87, 88, 89] (by decide +kernel) (by decide +kernel)
set_option maxRecDepth 20000 in
theorem gX4_charge_X0_push : GoodIn wsX4_charge (wsV RX4 55 RX0 yX0_push wsX0_push) := goodIn_app (goodIn_of _ (by decide +kernel)) ggX4_charge_X0_push
theorem dX4_charge_0 : decode cX4_charge 0 = .ok (.aload_n 0, 1) := by decide +kernel
theorem dX4_charge_1 : decode cX4_charge 1 = .ok (.getfield 10, 3) := by decide +kernel
theorem dX4_charge_4 : decode cX4_charge 4 = .ok (.iload_n 1, 1) := by decide +kernel
theorem dX4_charge_5 : decode cX4_charge 5 = .ok (.invokevirtual 90, 3) := by decide +kernel
theorem dX4_charge_8 : decode cX4_charge 8 = .ok (.ifCond .eq 13, 3) := by decide +kernel
theorem dX4_charge_11 : decode cX4_charge 11 = .ok (.iload_n 2, 1) := by decide +kernel
theorem dX4_charge_12 : decode cX4_charge 12 = .ok (.iconst 1, 1) := by decide +kernel
theorem dX4_charge_13 : decode cX4_charge 13 = .ok (.ldc 50, 2) := by decide +kernel
theorem dX4_charge_15 : decode cX4_charge 15 = .ok (.invokestatic 46, 3) := by decide +kernel
theorem dX4_charge_18 : decode cX4_charge 18 = .ok (.ifCond .ne 5, 3) := by decide +kernel
theorem dX4_charge_21 : decode cX4_charge 21 = .ok (.iconst (-1), 1) := by decide +kernel
theorem dX4_charge_22 : decode cX4_charge 22 = .ok (.ireturn, 1) := by decide +kernel
theorem dX4_charge_23 : decode cX4_charge 23 = .ok (.aload_n 0, 1) := by decide +kernel
theorem dX4_charge_24 : decode cX4_charge 24 = .ok (.getfield 10, 3) := by decide +kernel
theorem dX4_charge_27 : decode cX4_charge 27 = .ok (.getfield 58, 3) := by decide +kernel
theorem dX4_charge_30 : decode cX4_charge 30 = .ok (.iload_n 1, 1) := by decide +kernel
theorem dX4_charge_31 : decode cX4_charge 31 = .ok (.aaload, 1) := by decide +kernel
theorem dX4_charge_32 : decode cX4_charge 32 = .ok (.astore_n 3, 1) := by decide +kernel
theorem dX4_charge_33 : decode cX4_charge 33 = .ok (.aload_n 3, 1) := by decide +kernel
theorem dX4_charge_34 : decode cX4_charge 34 = .ok (.getfield 94, 3) := by decide +kernel
theorem dX4_charge_37 : decode cX4_charge 37 = .ok (.ifCond .eq 14, 3) := by decide +kernel
theorem dX4_charge_40 : decode cX4_charge 40 = .ok (.aload_n 3, 1) := by decide +kernel
theorem dX4_charge_41 : decode cX4_charge 41 = .ok (.getfield 98, 3) := by decide +kernel
theorem dX4_charge_44 : decode cX4_charge 44 = .ok (.iload_n 2, 1) := by decide +kernel
theorem dX4_charge_45 : decode cX4_charge 45 = .ok (.iadd, 1) := by decide +kernel
theorem dX4_charge_46 : decode cX4_charge 46 = .ok (.ldc 101, 2) := by decide +kernel
theorem dX4_charge_48 : decode cX4_charge 48 = .ok (.if_icmp .le 6, 3) := by decide +kernel
theorem dX4_charge_51 : decode cX4_charge 51 = .ok (.bipush (-2), 2) := by decide +kernel
theorem dX4_charge_53 : decode cX4_charge 53 = .ok (.ireturn, 1) := by decide +kernel
theorem dX4_charge_54 : decode cX4_charge 54 = .ok (.aload_n 0, 1) := by decide +kernel
theorem dX4_charge_55 : decode cX4_charge 55 = .ok (.getfield 34, 3) := by decide +kernel
theorem dX4_charge_58 : decode cX4_charge 58 = .ok (.aload_n 0, 1) := by decide +kernel
theorem dX4_charge_59 : decode cX4_charge 59 = .ok (.getfield 10, 3) := by decide +kernel
theorem dX4_charge_62 : decode cX4_charge 62 = .ok (.invokevirtual 55, 3) := by decide +kernel
theorem dX4_charge_65 : decode cX4_charge 65 = .ok (.aload_n 3, 1) := by decide +kernel
theorem dX4_charge_66 : decode cX4_charge 66 = .ok (.dup, 1) := by decide +kernel
theorem dX4_charge_67 : decode cX4_charge 67 = .ok (.getfield 98, 3) := by decide +kernel
theorem dX4_charge_70 : decode cX4_charge 70 = .ok (.iload_n 2, 1) := by decide +kernel
theorem dX4_charge_71 : decode cX4_charge 71 = .ok (.iadd, 1) := by decide +kernel
theorem dX4_charge_72 : decode cX4_charge 72 = .ok (.putfield 98, 3) := by decide +kernel
theorem dX4_charge_75 : decode cX4_charge 75 = .ok (.aload_n 3, 1) := by decide +kernel
theorem dX4_charge_76 : decode cX4_charge 76 = .ok (.getfield 98, 3) := by decide +kernel
theorem dX4_charge_79 : decode cX4_charge 79 = .ok (.ireturn, 1) := by decide +kernel
set_option maxRecDepth 20000 in
theorem ggX4_run_X4_inRange : GoodIn wsX4_run wsX4_inRange := goodIn_r _ [7] (by decide +kernel) (by decide +kernel)
set_option maxRecDepth 20000 in
theorem gX4_run_X4_inRange : GoodIn wsX4_run (va_wsS RX4 46 yX4_inRange wsX4_inRange) := goodIn_app (goodIn_of _ (by decide +kernel)) ggX4_run_X4_inRange
set_option maxRecDepth 20000 in
theorem ggX4_run_X1_countAlive : GoodIn wsX4_run wsX1_countAlive := goodIn_r _ [12, 13, 14, 15, 204, 205, 206, 207, 208, 209, 210, 211, 212, 213, 214, 215, 216, 217, 218, 219, 220, 221, 222, 223, 224, 225] (by decide +kernel) (by decide +kernel)
set_option maxRecDepth 20000 in
theorem gX4_run_X1_countAlive : GoodIn wsX4_run (wsV RX4 102 RX1 yX1_countAlive wsX1_countAlive) := goodIn_app (goodIn_of _ (by decide +kernel)) ggX4_run_X1_countAlive
set_option maxRecDepth 20000 in
theorem ggX4_run_X0_push : GoodIn wsX4_run wsX0_push := goodIn_r _ [20, 21, 22, 23, 24, 25, 19, 26, 27, 28, 29, 11, 30, 13, 14, 31, 32, 33, 34, 35, 36, 37, 38, 39, 40, 41, 42, 43, 44, 45, 46, 47, 48, 49, 50, 51, 52, 53, 54, 55, 56, 57, 226, 227, 204, 205, 206, 207, 208, 209, 210, 211, 212, 213, 214, 215, 216, 217, 218, 219, 220, 221, 222, 223, 224, 225] (by decide +kernel) (by decide +kernel)
set_option maxRecDepth 20000 in
theorem gX4_run_X0_push : GoodIn wsX4_run (wsV RX4 55 RX0 yX0_push wsX0_push) := goodIn_app (goodIn_of _ (by decide +kernel)) ggX4_run_X0_push
set_option maxRecDepth 20000 in
theorem ggX4_run_X2_perform : GoodIn wsX4_run wsX2_perform := goodIn_r _ [62, 63, 64, 9, 10, 11, 12, 13, 14, 15, 65, 66, 67, 61, 68, 69, 70, 71, 72, 73, 74, 75, 76, 77, 78, 79, 80, 81, 82, 83, 31, 39, 84, 85, 86, 47, 87, 56, 57, 88, 89, 90, 91, 92, 93, 94, 95, 96, 97, 98, 99, 100, 101, 102, 103, 104, 105, 106, 107, 108, 109, 110, 111, 112, 113, 114, 115, 116, 117, 118, 119, 120, 121, 122, 123, 124, 125, 126, 127, 128, 129, 130, 131, 132, 49, 50, 133, 134, 135, 136, 137, 138, 139, 140, 141, 142, 143, 144, 145, 146, 147, 148, 149, 150, 151, 152, 153, 154, 155, 156, 157, 158, 159, 160, 161, 162, 163, 164, 165, 166, 167, 168, 169, 170, 171, 172, 173, 174, 175, 176, 177, 178, 179, 180, 181, 182, 183, 184, 185, 186, 187, 188, 189, 190, 191, 192, 193, 194, 195, 196, 228, 204, 205, 206, 207, 208, 209, 210, 211, 212, 213, 214, 215, 216, 217, 218, 219, 220, 221, 222, 223, 224, 225] (by decide +kernel) (by decide +kernel)
set_option maxRecDepth 20000 in
theorem gX4_run_X2_perform : GoodIn wsX4_run (wsV RX4 106 RX2 yX2_perform wsX2_perform) := goodIn_app (goodIn_of _ (by decide +kernel)) ggX4_run_X2_perform
theorem dX4_run_0 : decode cX4_run 0 = .ok (.iload_n 1, 1) := by decide +kernel
theorem dX4_run_1 : decode cX4_run 1 = .ok (.iconst 1, 1) := by decide +kernel
theorem dX4_run_2 : decode cX4_run 2 = .ok (.bipush 50, 2) := by decide +kernel
theorem dX4_run_4 : decode cX4_run 4 = .ok (.invokestatic 46, 3) := by decide +kernel
theorem dX4_run_7 : decode cX4_run 7 = .ok (.ifCond .ne 5, 3) := by decide +kernel
theorem dX4_run_10 : decode cX4_run 10 = .ok (.iconst (-1), 1) := by decide +kernel
theorem dX4_run_11 : decode cX4_run 11 = .ok (.ireturn, 1) := by decide +kernel
theorem dX4_run_12 : decode cX4_run 12 = .ok (.aload_n 0, 1) := by decide +kernel
theorem dX4_run_13 : decode cX4_run 13 = .ok (.getfield 10, 3) := by decide +kernel
theorem dX4_run_16 : decode cX4_run 16 = .ok (.invokevirtual 102, 3) := by decide +kernel
theorem dX4_run_19 : decode cX4_run 19 = .ok (.ifCond .ne 6, 3) := by decide +kernel
theorem dX4_run_22 : decode cX4_run 22 = .ok (.bipush (-2), 2) := by decide +kernel
theorem dX4_run_24 : decode cX4_run 24 = .ok (.ireturn, 1) := by decide +kernel
theorem dX4_run_25 : decode cX4_run 25 = .ok (.aload_n 0, 1) := by decide +kernel
theorem dX4_run_26 : decode cX4_run 26 = .ok (.getfield 34, 3) := by decide +kernel
theorem dX4_run_29 : decode cX4_run 29 = .ok (.aload_n 0, 1) := by decide +kernel
theorem dX4_run_30 : decode cX4_run 30 = .ok (.getfield 10, 3) := by decide +kernel
theorem dX4_run_33 : decode cX4_run 33 = .ok (.invokevirtual 55, 3) := by decide +kernel
theorem dX4_run_36 : decode cX4_run 36 = .ok (.aload_n 0, 1) := by decide +kernel
theorem dX4_run_37 : decode cX4_run 37 = .ok (.getfield 21, 3) := by decide +kernel
theorem dX4_run_40 : decode cX4_run 40 = .ok (.iload_n 1, 1) := by decide +kernel
theorem dX4_run_41 : decode cX4_run 41 = .ok (.invokevirtual 106, 3) := by decide +kernel
theorem dX4_run_44 : decode cX4_run 44 = .ok (.ireturn, 1) := by decide +kernel
theorem dX4_roundNumber_0 : decode cX4_roundNumber 0 = .ok (.aload_n 0, 1) := by decide +kernel
theorem dX4_roundNumber_1 : decode cX4_roundNumber 1 = .ok (.getfield 10, 3) := by decide +kernel
theorem dX4_roundNumber_4 : decode cX4_roundNumber 4 = .ok (.getfield 87, 3) := by decide +kernel
theorem dX4_roundNumber_7 : decode cX4_roundNumber 7 = .ok (.ireturn, 1) := by decide +kernel
theorem dX4_sensorCount_0 : decode cX4_sensorCount 0 = .ok (.aload_n 0, 1) := by decide +kernel
theorem dX4_sensorCount_1 : decode cX4_sensorCount 1 = .ok (.getfield 10, 3) := by decide +kernel
theorem dX4_sensorCount_4 : decode cX4_sensorCount 4 = .ok (.getfield 51, 3) := by decide +kernel
theorem dX4_sensorCount_7 : decode cX4_sensorCount 7 = .ok (.ireturn, 1) := by decide +kernel
set_option maxRecDepth 20000 in
theorem ggX4_aliveCount_X1_countAlive : GoodIn wsX4_aliveCount wsX1_countAlive := goodIn_r _ [6, 7, 8, 9, 17, 18, 19, 20, 21, 22, 23, 24, 25, 26, 27, 28, 29, 30, 31, 32, 33, 34, 35, 36, 37, 38] (by decide +kernel) (by decide +kernel)
set_option maxRecDepth 20000 in
theorem gX4_aliveCount_X1_countAlive : GoodIn wsX4_aliveCount (wsV RX4 102 RX1 yX1_countAlive wsX1_countAlive) := goodIn_app (goodIn_of _ (by decide +kernel)) ggX4_aliveCount_X1_countAlive
theorem dX4_aliveCount_0 : decode cX4_aliveCount 0 = .ok (.aload_n 0, 1) := by decide +kernel
theorem dX4_aliveCount_1 : decode cX4_aliveCount 1 = .ok (.getfield 10, 3) := by decide +kernel
theorem dX4_aliveCount_4 : decode cX4_aliveCount 4 = .ok (.invokevirtual 102, 3) := by decide +kernel
theorem dX4_aliveCount_7 : decode cX4_aliveCount 7 = .ok (.ireturn, 1) := by decide +kernel
set_option maxRecDepth 20000 in
theorem ggX4_isAlive_X1_has : GoodIn wsX4_isAlive wsX1_has := goodIn_r _ [8, 9, 17, 18, 19, 20, 21, 22, 23, 24, 25, 26, 27] (by decide +kernel) (by decide +kernel)
set_option maxRecDepth 20000 in
theorem gX4_isAlive_X1_has : GoodIn wsX4_isAlive (wsV RX4 90 RX1 yX1_has wsX1_has) := goodIn_app (goodIn_of _ (by decide +kernel)) ggX4_isAlive_X1_has
theorem dX4_isAlive_0 : decode cX4_isAlive 0 = .ok (.aload_n 0, 1) := by decide +kernel
theorem dX4_isAlive_1 : decode cX4_isAlive 1 = .ok (.getfield 10, 3) := by decide +kernel
theorem dX4_isAlive_4 : decode cX4_isAlive 4 = .ok (.iload_n 1, 1) := by decide +kernel
theorem dX4_isAlive_5 : decode cX4_isAlive 5 = .ok (.invokevirtual 90, 3) := by decide +kernel
theorem dX4_isAlive_8 : decode cX4_isAlive 8 = .ok (.ifCond .ne 5, 3) := by decide +kernel
theorem dX4_isAlive_11 : decode cX4_isAlive 11 = .ok (.iconst (-1), 1) := by decide +kernel
theorem dX4_isAlive_12 : decode cX4_isAlive 12 = .ok (.ireturn, 1) := by decide +kernel
theorem dX4_isAlive_13 : decode cX4_isAlive 13 = .ok (.aload_n 0, 1) := by decide +kernel
theorem dX4_isAlive_14 : decode cX4_isAlive 14 = .ok (.getfield 10, 3) := by decide +kernel
theorem dX4_isAlive_17 : decode cX4_isAlive 17 = .ok (.getfield 58, 3) := by decide +kernel
theorem dX4_isAlive_20 : decode cX4_isAlive 20 = .ok (.iload_n 1, 1) := by decide +kernel
theorem dX4_isAlive_21 : decode cX4_isAlive 21 = .ok (.aaload, 1) := by decide +kernel
theorem dX4_isAlive_22 : decode cX4_isAlive 22 = .ok (.getfield 94, 3) := by decide +kernel
theorem dX4_isAlive_25 : decode cX4_isAlive 25 = .ok (.ifCond .eq 7, 3) := by decide +kernel
theorem dX4_isAlive_28 : decode cX4_isAlive 28 = .ok (.iconst 1, 1) := by decide +kernel
theorem dX4_isAlive_29 : decode cX4_isAlive 29 = .ok (.goto 4, 3) := by decide +kernel
theorem dX4_isAlive_32 : decode cX4_isAlive 32 = .ok (.iconst 0, 1) := by decide +kernel
theorem dX4_isAlive_33 : decode cX4_isAlive 33 = .ok (.ireturn, 1) := by decide +kernel
set_option maxRecDepth 20000 in
theorem ggX4_battery_X1_has : GoodIn wsX4_battery wsX1_has := goodIn_r _ [8, 9, 17, 18, 19, 20, 21, 22, 23, 24, 25, 26, 27] (by decide +kernel) (by decide +kernel)
set_option maxRecDepth 20000 in
theorem gX4_battery_X1_has : GoodIn wsX4_battery (wsV RX4 90 RX1 yX1_has wsX1_has) := goodIn_app (goodIn_of _ (by decide +kernel)) ggX4_battery_X1_has
theorem dX4_battery_0 : decode cX4_battery 0 = .ok (.aload_n 0, 1) := by decide +kernel
theorem dX4_battery_1 : decode cX4_battery 1 = .ok (.getfield 10, 3) := by decide +kernel
theorem dX4_battery_4 : decode cX4_battery 4 = .ok (.iload_n 1, 1) := by decide +kernel
theorem dX4_battery_5 : decode cX4_battery 5 = .ok (.invokevirtual 90, 3) := by decide +kernel
theorem dX4_battery_8 : decode cX4_battery 8 = .ok (.ifCond .ne 5, 3) := by decide +kernel
theorem dX4_battery_11 : decode cX4_battery 11 = .ok (.iconst (-1), 1) := by decide +kernel
theorem dX4_battery_12 : decode cX4_battery 12 = .ok (.ireturn, 1) := by decide +kernel
theorem dX4_battery_13 : decode cX4_battery 13 = .ok (.aload_n 0, 1) := by decide +kernel
theorem dX4_battery_14 : decode cX4_battery 14 = .ok (.getfield 10, 3) := by decide +kernel
theorem dX4_battery_17 : decode cX4_battery 17 = .ok (.getfield 58, 3) := by decide +kernel
theorem dX4_battery_20 : decode cX4_battery 20 = .ok (.iload_n 1, 1) := by decide +kernel
theorem dX4_battery_21 : decode cX4_battery 21 = .ok (.aaload, 1) := by decide +kernel
theorem dX4_battery_22 : decode cX4_battery 22 = .ok (.getfield 98, 3) := by decide +kernel
theorem dX4_battery_25 : decode cX4_battery 25 = .ok (.ireturn, 1) := by decide +kernel
set_option maxRecDepth 20000 in
theorem ggX4_isEligible_X1_has : GoodIn wsX4_isEligible wsX1_has := goodIn_r _ [9, 10, 24, 25, 26, 27, 28, 29, 30, 31, 32, 33, 34] (by decide +kernel) (by decide +kernel)
set_option maxRecDepth 20000 in
theorem gX4_isEligible_X1_has : GoodIn wsX4_isEligible (wsV RX4 90 RX1 yX1_has wsX1_has) := goodIn_app (goodIn_of _ (by decide +kernel)) ggX4_isEligible_X1_has
set_option maxRecDepth 20000 in
theorem ggX4_isEligible_X1_phase : GoodIn wsX4_isEligible wsX1_phase := goodIn_r _ [14, 15, 16, 24, 25, 26, 27, 28, 29, 30, 31, 32, 33, 34] (by decide +kernel) (by decide +kernel)
set_option maxRecDepth 20000 in
theorem gX4_isEligible_X1_phase : GoodIn wsX4_isEligible (wsV RX4 113 RX1 yX1_phase wsX1_phase) := goodIn_app (goodIn_of _ (by decide +kernel)) ggX4_isEligible_X1_phase
theorem dX4_isEligible_0 : decode cX4_isEligible 0 = .ok (.aload_n 0, 1) := by decide +kernel
theorem dX4_isEligible_1 : decode cX4_isEligible 1 = .ok (.getfield 10, 3) := by decide +kernel
theorem dX4_isEligible_4 : decode cX4_isEligible 4 = .ok (.iload_n 1, 1) := by decide +kernel
theorem dX4_isEligible_5 : decode cX4_isEligible 5 = .ok (.invokevirtual 90, 3) := by decide +kernel
theorem dX4_isEligible_8 : decode cX4_isEligible 8 = .ok (.ifCond .ne 5, 3) := by decide +kernel
theorem dX4_isEligible_11 : decode cX4_isEligible 11 = .ok (.iconst (-1), 1) := by decide +kernel
theorem dX4_isEligible_12 : decode cX4_isEligible 12 = .ok (.ireturn, 1) := by decide +kernel
theorem dX4_isEligible_13 : decode cX4_isEligible 13 = .ok (.aload_n 0, 1) := by decide +kernel
theorem dX4_isEligible_14 : decode cX4_isEligible 14 = .ok (.getfield 10, 3) := by decide +kernel
theorem dX4_isEligible_17 : decode cX4_isEligible 17 = .ok (.getfield 58, 3) := by decide +kernel
theorem dX4_isEligible_20 : decode cX4_isEligible 20 = .ok (.iload_n 1, 1) := by decide +kernel
theorem dX4_isEligible_21 : decode cX4_isEligible 21 = .ok (.aaload, 1) := by decide +kernel
theorem dX4_isEligible_22 : decode cX4_isEligible 22 = .ok (.astore_n 2, 1) := by decide +kernel
theorem dX4_isEligible_23 : decode cX4_isEligible 23 = .ok (.aload_n 2, 1) := by decide +kernel
theorem dX4_isEligible_24 : decode cX4_isEligible 24 = .ok (.getfield 94, 3) := by decide +kernel
theorem dX4_isEligible_27 : decode cX4_isEligible 27 = .ok (.ifCond .eq 24, 3) := by decide +kernel
theorem dX4_isEligible_30 : decode cX4_isEligible 30 = .ok (.aload_n 2, 1) := by decide +kernel
theorem dX4_isEligible_31 : decode cX4_isEligible 31 = .ok (.getfield 110, 3) := by decide +kernel
theorem dX4_isEligible_34 : decode cX4_isEligible 34 = .ok (.ifCond .ne 13, 3) := by decide +kernel
theorem dX4_isEligible_37 : decode cX4_isEligible 37 = .ok (.aload_n 0, 1) := by decide +kernel
theorem dX4_isEligible_38 : decode cX4_isEligible 38 = .ok (.getfield 10, 3) := by decide +kernel
theorem dX4_isEligible_41 : decode cX4_isEligible 41 = .ok (.invokevirtual 113, 3) := by decide +kernel
theorem dX4_isEligible_44 : decode cX4_isEligible 44 = .ok (.ifCond .ne 7, 3) := by decide +kernel
theorem dX4_isEligible_47 : decode cX4_isEligible 47 = .ok (.iconst 1, 1) := by decide +kernel
theorem dX4_isEligible_48 : decode cX4_isEligible 48 = .ok (.goto 4, 3) := by decide +kernel
theorem dX4_isEligible_51 : decode cX4_isEligible 51 = .ok (.iconst 0, 1) := by decide +kernel
theorem dX4_isEligible_52 : decode cX4_isEligible 52 = .ok (.ireturn, 1) := by decide +kernel
set_option maxRecDepth 20000 in
theorem ggX4_headRounds_X1_has : GoodIn wsX4_headRounds wsX1_has := goodIn_r _ [8, 9, 17, 18, 19, 20, 21, 22, 23, 24, 25, 26, 27] (by decide +kernel) (by decide +kernel)
set_option maxRecDepth 20000 in
theorem gX4_headRounds_X1_has : GoodIn wsX4_headRounds (wsV RX4 90 RX1 yX1_has wsX1_has) := goodIn_app (goodIn_of _ (by decide +kernel)) ggX4_headRounds_X1_has
theorem dX4_headRounds_0 : decode cX4_headRounds 0 = .ok (.aload_n 0, 1) := by decide +kernel
theorem dX4_headRounds_1 : decode cX4_headRounds 1 = .ok (.getfield 10, 3) := by decide +kernel
theorem dX4_headRounds_4 : decode cX4_headRounds 4 = .ok (.iload_n 1, 1) := by decide +kernel
theorem dX4_headRounds_5 : decode cX4_headRounds 5 = .ok (.invokevirtual 90, 3) := by decide +kernel
theorem dX4_headRounds_8 : decode cX4_headRounds 8 = .ok (.ifCond .ne 5, 3) := by decide +kernel
theorem dX4_headRounds_11 : decode cX4_headRounds 11 = .ok (.iconst (-1), 1) := by decide +kernel
theorem dX4_headRounds_12 : decode cX4_headRounds 12 = .ok (.ireturn, 1) := by decide +kernel
theorem dX4_headRounds_13 : decode cX4_headRounds 13 = .ok (.aload_n 0, 1) := by decide +kernel
theorem dX4_headRounds_14 : decode cX4_headRounds 14 = .ok (.getfield 10, 3) := by decide +kernel
theorem dX4_headRounds_17 : decode cX4_headRounds 17 = .ok (.getfield 58, 3) := by decide +kernel
theorem dX4_headRounds_20 : decode cX4_headRounds 20 = .ok (.iload_n 1, 1) := by decide +kernel
theorem dX4_headRounds_21 : decode cX4_headRounds 21 = .ok (.aaload, 1) := by decide +kernel
theorem dX4_headRounds_22 : decode cX4_headRounds 22 = .ok (.getfield 116, 3) := by decide +kernel
theorem dX4_headRounds_25 : decode cX4_headRounds 25 = .ok (.ireturn, 1) := by decide +kernel
set_option maxRecDepth 20000 in
theorem ggX4_deathRound_X1_has : GoodIn wsX4_deathRound wsX1_has := goodIn_r _ [8, 9, 17, 18, 19, 20, 21, 22, 23, 24, 25, 26, 27] (by decide +kernel) (by decide +kernel)
set_option maxRecDepth 20000 in
theorem gX4_deathRound_X1_has : GoodIn wsX4_deathRound (wsV RX4 90 RX1 yX1_has wsX1_has) := goodIn_app (goodIn_of _ (by decide +kernel)) ggX4_deathRound_X1_has
theorem dX4_deathRound_0 : decode cX4_deathRound 0 = .ok (.aload_n 0, 1) := by decide +kernel
theorem dX4_deathRound_1 : decode cX4_deathRound 1 = .ok (.getfield 10, 3) := by decide +kernel
theorem dX4_deathRound_4 : decode cX4_deathRound 4 = .ok (.iload_n 1, 1) := by decide +kernel
theorem dX4_deathRound_5 : decode cX4_deathRound 5 = .ok (.invokevirtual 90, 3) := by decide +kernel
theorem dX4_deathRound_8 : decode cX4_deathRound 8 = .ok (.ifCond .ne 5, 3) := by decide +kernel
theorem dX4_deathRound_11 : decode cX4_deathRound 11 = .ok (.iconst (-1), 1) := by decide +kernel
theorem dX4_deathRound_12 : decode cX4_deathRound 12 = .ok (.ireturn, 1) := by decide +kernel
theorem dX4_deathRound_13 : decode cX4_deathRound 13 = .ok (.aload_n 0, 1) := by decide +kernel
theorem dX4_deathRound_14 : decode cX4_deathRound 14 = .ok (.getfield 10, 3) := by decide +kernel
theorem dX4_deathRound_17 : decode cX4_deathRound 17 = .ok (.getfield 58, 3) := by decide +kernel
theorem dX4_deathRound_20 : decode cX4_deathRound 20 = .ok (.iload_n 1, 1) := by decide +kernel
theorem dX4_deathRound_21 : decode cX4_deathRound 21 = .ok (.aaload, 1) := by decide +kernel
theorem dX4_deathRound_22 : decode cX4_deathRound 22 = .ok (.getfield 119, 3) := by decide +kernel
theorem dX4_deathRound_25 : decode cX4_deathRound 25 = .ok (.ireturn, 1) := by decide +kernel
set_option maxRecDepth 20000 in
theorem ggX4_headOf_X1_has : GoodIn wsX4_headOf wsX1_has := goodIn_r _ [8, 9, 17, 18, 19, 20, 21, 22, 23, 24, 25, 26, 27] (by decide +kernel) (by decide +kernel)
set_option maxRecDepth 20000 in
theorem gX4_headOf_X1_has : GoodIn wsX4_headOf (wsV RX4 90 RX1 yX1_has wsX1_has) := goodIn_app (goodIn_of _ (by decide +kernel)) ggX4_headOf_X1_has
theorem dX4_headOf_0 : decode cX4_headOf 0 = .ok (.aload_n 0, 1) := by decide +kernel
theorem dX4_headOf_1 : decode cX4_headOf 1 = .ok (.getfield 10, 3) := by decide +kernel
theorem dX4_headOf_4 : decode cX4_headOf 4 = .ok (.iload_n 1, 1) := by decide +kernel
theorem dX4_headOf_5 : decode cX4_headOf 5 = .ok (.invokevirtual 90, 3) := by decide +kernel
theorem dX4_headOf_8 : decode cX4_headOf 8 = .ok (.ifCond .ne 5, 3) := by decide +kernel
theorem dX4_headOf_11 : decode cX4_headOf 11 = .ok (.iconst (-1), 1) := by decide +kernel
theorem dX4_headOf_12 : decode cX4_headOf 12 = .ok (.ireturn, 1) := by decide +kernel
theorem dX4_headOf_13 : decode cX4_headOf 13 = .ok (.aload_n 0, 1) := by decide +kernel
theorem dX4_headOf_14 : decode cX4_headOf 14 = .ok (.getfield 10, 3) := by decide +kernel
theorem dX4_headOf_17 : decode cX4_headOf 17 = .ok (.getfield 58, 3) := by decide +kernel
theorem dX4_headOf_20 : decode cX4_headOf 20 = .ok (.iload_n 1, 1) := by decide +kernel
theorem dX4_headOf_21 : decode cX4_headOf 21 = .ok (.aaload, 1) := by decide +kernel
theorem dX4_headOf_22 : decode cX4_headOf 22 = .ok (.getfield 122, 3) := by decide +kernel
theorem dX4_headOf_25 : decode cX4_headOf 25 = .ok (.ireturn, 1) := by decide +kernel
set_option maxRecDepth 20000 in
theorem ggX4_slotOf_X1_has : GoodIn wsX4_slotOf wsX1_has := goodIn_r _ [8, 9, 17, 18, 19, 20, 21, 22, 23, 24, 25, 26, 27] (by decide +kernel) (by decide +kernel)
set_option maxRecDepth 20000 in
theorem gX4_slotOf_X1_has : GoodIn wsX4_slotOf (wsV RX4 90 RX1 yX1_has wsX1_has) := goodIn_app (goodIn_of _ (by decide +kernel)) ggX4_slotOf_X1_has
theorem dX4_slotOf_0 : decode cX4_slotOf 0 = .ok (.aload_n 0, 1) := by decide +kernel
theorem dX4_slotOf_1 : decode cX4_slotOf 1 = .ok (.getfield 10, 3) := by decide +kernel
theorem dX4_slotOf_4 : decode cX4_slotOf 4 = .ok (.iload_n 1, 1) := by decide +kernel
theorem dX4_slotOf_5 : decode cX4_slotOf 5 = .ok (.invokevirtual 90, 3) := by decide +kernel
theorem dX4_slotOf_8 : decode cX4_slotOf 8 = .ok (.ifCond .ne 5, 3) := by decide +kernel
theorem dX4_slotOf_11 : decode cX4_slotOf 11 = .ok (.iconst (-1), 1) := by decide +kernel
theorem dX4_slotOf_12 : decode cX4_slotOf 12 = .ok (.ireturn, 1) := by decide +kernel
theorem dX4_slotOf_13 : decode cX4_slotOf 13 = .ok (.aload_n 0, 1) := by decide +kernel
theorem dX4_slotOf_14 : decode cX4_slotOf 14 = .ok (.getfield 10, 3) := by decide +kernel
theorem dX4_slotOf_17 : decode cX4_slotOf 17 = .ok (.getfield 58, 3) := by decide +kernel
theorem dX4_slotOf_20 : decode cX4_slotOf 20 = .ok (.iload_n 1, 1) := by decide +kernel
theorem dX4_slotOf_21 : decode cX4_slotOf 21 = .ok (.aaload, 1) := by decide +kernel
theorem dX4_slotOf_22 : decode cX4_slotOf 22 = .ok (.getfield 125, 3) := by decide +kernel
theorem dX4_slotOf_25 : decode cX4_slotOf 25 = .ok (.ireturn, 1) := by decide +kernel
theorem dX4_headCount_0 : decode cX4_headCount 0 = .ok (.aload_n 0, 1) := by decide +kernel
theorem dX4_headCount_1 : decode cX4_headCount 1 = .ok (.getfield 10, 3) := by decide +kernel
theorem dX4_headCount_4 : decode cX4_headCount 4 = .ok (.getfield 128, 3) := by decide +kernel
theorem dX4_headCount_7 : decode cX4_headCount 7 = .ok (.ireturn, 1) := by decide +kernel
theorem dX4_lastDelivered_0 : decode cX4_lastDelivered 0 = .ok (.aload_n 0, 1) := by decide +kernel
theorem dX4_lastDelivered_1 : decode cX4_lastDelivered 1 = .ok (.getfield 10, 3) := by decide +kernel
theorem dX4_lastDelivered_4 : decode cX4_lastDelivered 4 = .ok (.getfield 131, 3) := by decide +kernel
theorem dX4_lastDelivered_7 : decode cX4_lastDelivered 7 = .ok (.ireturn, 1) := by decide +kernel
theorem dX4_deliveredTotal_0 : decode cX4_deliveredTotal 0 = .ok (.aload_n 0, 1) := by decide +kernel
theorem dX4_deliveredTotal_1 : decode cX4_deliveredTotal 1 = .ok (.getfield 10, 3) := by decide +kernel
theorem dX4_deliveredTotal_4 : decode cX4_deliveredTotal 4 = .ok (.getfield 134, 3) := by decide +kernel
theorem dX4_deliveredTotal_7 : decode cX4_deliveredTotal 7 = .ok (.ireturn, 1) := by decide +kernel
theorem dX4_energyPaid_0 : decode cX4_energyPaid 0 = .ok (.aload_n 0, 1) := by decide +kernel
theorem dX4_energyPaid_1 : decode cX4_energyPaid 1 = .ok (.getfield 10, 3) := by decide +kernel
theorem dX4_energyPaid_4 : decode cX4_energyPaid 4 = .ok (.getfield 137, 3) := by decide +kernel
theorem dX4_energyPaid_7 : decode cX4_energyPaid 7 = .ok (.ireturn, 1) := by decide +kernel
set_option maxRecDepth 20000 in
theorem ggX4_sendCost_X1_has : GoodIn wsX4_sendCost wsX1_has := goodIn_r _ [11, 12, 32, 33, 34, 35, 36, 37, 38, 39, 40, 41, 42] (by decide +kernel) (by decide +kernel)
set_option maxRecDepth 20000 in
theorem gX4_sendCost_X1_has : GoodIn wsX4_sendCost (wsV RX4 90 RX1 yX1_has wsX1_has) := goodIn_app (goodIn_of _ (by decide +kernel)) ggX4_sendCost_X1_has
set_option maxRecDepth 20000 in
theorem ggX4_sendCost_X3_distanceTo : GoodIn wsX4_sendCost wsX3_distanceTo := goodIn_r _ [17, 18, 19, 43, 44, 45, 46, 47, 48, 49, 50, 51, 52, 53] (by decide +kernel) (by decide +kernel)
set_option maxRecDepth 20000 in
theorem gX4_sendCost_X3_distanceTo : GoodIn wsX4_sendCost (wsV RX4 140 RX3 yX3_distanceTo wsX3_distanceTo) := goodIn_app (goodIn_of _ (by decide +kernel)) ggX4_sendCost_X3_distanceTo
set_option maxRecDepth 20000 in
theorem ggX4_sendCost_X1_costOver : GoodIn wsX4_sendCost wsX1_costOver := goodIn_r _ [23, 24, 32, 33, 34, 35, 36, 37, 38, 39, 40, 41, 42] (by decide +kernel) (by decide +kernel)
set_option maxRecDepth 20000 in
theorem gX4_sendCost_X1_costOver : GoodIn wsX4_sendCost (wsV RX4 144 RX1 yX1_costOver wsX1_costOver) := goodIn_app (goodIn_of _ (by decide +kernel)) ggX4_sendCost_X1_costOver
theorem dX4_sendCost_0 : decode cX4_sendCost 0 = .ok (.aload_n 0, 1) := by decide +kernel
theorem dX4_sendCost_1 : decode cX4_sendCost 1 = .ok (.getfield 10, 3) := by decide +kernel
theorem dX4_sendCost_4 : decode cX4_sendCost 4 = .ok (.iload_n 1, 1) := by decide +kernel
theorem dX4_sendCost_5 : decode cX4_sendCost 5 = .ok (.invokevirtual 90, 3) := by decide +kernel
theorem dX4_sendCost_8 : decode cX4_sendCost 8 = .ok (.ifCond .eq 8, 3) := by decide +kernel
theorem dX4_sendCost_11 : decode cX4_sendCost 11 = .ok (.iload_n 2, 1) := by decide +kernel
theorem dX4_sendCost_12 : decode cX4_sendCost 12 = .ok (.iload_n 1, 1) := by decide +kernel
theorem dX4_sendCost_13 : decode cX4_sendCost 13 = .ok (.if_icmp .ne 5, 3) := by decide +kernel
theorem dX4_sendCost_16 : decode cX4_sendCost 16 = .ok (.iconst (-1), 1) := by decide +kernel
theorem dX4_sendCost_17 : decode cX4_sendCost 17 = .ok (.ireturn, 1) := by decide +kernel
theorem dX4_sendCost_18 : decode cX4_sendCost 18 = .ok (.aload_n 0, 1) := by decide +kernel
theorem dX4_sendCost_19 : decode cX4_sendCost 19 = .ok (.getfield 10, 3) := by decide +kernel
theorem dX4_sendCost_22 : decode cX4_sendCost 22 = .ok (.getfield 58, 3) := by decide +kernel
theorem dX4_sendCost_25 : decode cX4_sendCost 25 = .ok (.iload_n 1, 1) := by decide +kernel
theorem dX4_sendCost_26 : decode cX4_sendCost 26 = .ok (.aaload, 1) := by decide +kernel
theorem dX4_sendCost_27 : decode cX4_sendCost 27 = .ok (.astore_n 3, 1) := by decide +kernel
theorem dX4_sendCost_28 : decode cX4_sendCost 28 = .ok (.iload_n 2, 1) := by decide +kernel
theorem dX4_sendCost_29 : decode cX4_sendCost 29 = .ok (.bipush (-9), 2) := by decide +kernel
theorem dX4_sendCost_31 : decode cX4_sendCost 31 = .ok (.if_icmp .ne 29, 3) := by decide +kernel
theorem dX4_sendCost_34 : decode cX4_sendCost 34 = .ok (.aload_n 0, 1) := by decide +kernel
theorem dX4_sendCost_35 : decode cX4_sendCost 35 = .ok (.getfield 10, 3) := by decide +kernel
theorem dX4_sendCost_38 : decode cX4_sendCost 38 = .ok (.aload_n 3, 1) := by decide +kernel
theorem dX4_sendCost_39 : decode cX4_sendCost 39 = .ok (.aload_n 0, 1) := by decide +kernel
theorem dX4_sendCost_40 : decode cX4_sendCost 40 = .ok (.getfield 10, 3) := by decide +kernel
theorem dX4_sendCost_43 : decode cX4_sendCost 43 = .ok (.getfield 68, 3) := by decide +kernel
theorem dX4_sendCost_46 : decode cX4_sendCost 46 = .ok (.aload_n 0, 1) := by decide +kernel
theorem dX4_sendCost_47 : decode cX4_sendCost 47 = .ok (.getfield 10, 3) := by decide +kernel
theorem dX4_sendCost_50 : decode cX4_sendCost 50 = .ok (.getfield 71, 3) := by decide +kernel
theorem dX4_sendCost_53 : decode cX4_sendCost 53 = .ok (.invokevirtual 140, 3) := by decide +kernel
theorem dX4_sendCost_56 : decode cX4_sendCost 56 = .ok (.invokevirtual 144, 3) := by decide +kernel
theorem dX4_sendCost_59 : decode cX4_sendCost 59 = .ok (.ireturn, 1) := by decide +kernel
theorem dX4_sendCost_60 : decode cX4_sendCost 60 = .ok (.aload_n 0, 1) := by decide +kernel
theorem dX4_sendCost_61 : decode cX4_sendCost 61 = .ok (.getfield 10, 3) := by decide +kernel
theorem dX4_sendCost_64 : decode cX4_sendCost 64 = .ok (.iload_n 2, 1) := by decide +kernel
theorem dX4_sendCost_65 : decode cX4_sendCost 65 = .ok (.invokevirtual 90, 3) := by decide +kernel
theorem dX4_sendCost_68 : decode cX4_sendCost 68 = .ok (.ifCond .ne 5, 3) := by decide +kernel
theorem dX4_sendCost_71 : decode cX4_sendCost 71 = .ok (.iconst (-1), 1) := by decide +kernel
theorem dX4_sendCost_72 : decode cX4_sendCost 72 = .ok (.ireturn, 1) := by decide +kernel
theorem dX4_sendCost_73 : decode cX4_sendCost 73 = .ok (.aload_n 0, 1) := by decide +kernel
theorem dX4_sendCost_74 : decode cX4_sendCost 74 = .ok (.getfield 10, 3) := by decide +kernel
theorem dX4_sendCost_77 : decode cX4_sendCost 77 = .ok (.getfield 58, 3) := by decide +kernel
theorem dX4_sendCost_80 : decode cX4_sendCost 80 = .ok (.iload_n 2, 1) := by decide +kernel
theorem dX4_sendCost_81 : decode cX4_sendCost 81 = .ok (.aaload, 1) := by decide +kernel
theorem dX4_sendCost_82 : decode cX4_sendCost 82 = .ok (.astore 4, 2) := by decide +kernel
theorem dX4_sendCost_84 : decode cX4_sendCost 84 = .ok (.aload_n 0, 1) := by decide +kernel
theorem dX4_sendCost_85 : decode cX4_sendCost 85 = .ok (.getfield 10, 3) := by decide +kernel
theorem dX4_sendCost_88 : decode cX4_sendCost 88 = .ok (.aload_n 3, 1) := by decide +kernel
theorem dX4_sendCost_89 : decode cX4_sendCost 89 = .ok (.aload 4, 2) := by decide +kernel
theorem dX4_sendCost_91 : decode cX4_sendCost 91 = .ok (.getfield 147, 3) := by decide +kernel
theorem dX4_sendCost_94 : decode cX4_sendCost 94 = .ok (.aload 4, 2) := by decide +kernel
theorem dX4_sendCost_96 : decode cX4_sendCost 96 = .ok (.getfield 150, 3) := by decide +kernel
theorem dX4_sendCost_99 : decode cX4_sendCost 99 = .ok (.invokevirtual 140, 3) := by decide +kernel
theorem dX4_sendCost_102 : decode cX4_sendCost 102 = .ok (.invokevirtual 144, 3) := by decide +kernel
theorem dX4_sendCost_105 : decode cX4_sendCost 105 = .ok (.ireturn, 1) := by decide +kernel
set_option maxRecDepth 20000 in
theorem ggX4_forecastDeath_X1_has : GoodIn wsX4_forecastDeath wsX1_has := goodIn_r _ [11, 12, 196, 197, 198, 199, 200, 201, 202, 203, 204, 205, 206] (by decide +kernel) (by decide +kernel)
set_option maxRecDepth 20000 in
theorem gX4_forecastDeath_X1_has : GoodIn wsX4_forecastDeath (wsV RX4 90 RX1 yX1_has wsX1_has) := goodIn_app (goodIn_of _ (by decide +kernel)) ggX4_forecastDeath_X1_has
set_option maxRecDepth 20000 in
theorem ggX4_forecastDeath_X4_inRange : GoodIn wsX4_forecastDeath wsX4_inRange := goodIn_r _ [16] (by decide +kernel) (by decide +kernel)
set_option maxRecDepth 20000 in
theorem gX4_forecastDeath_X4_inRange : GoodIn wsX4_forecastDeath (va_wsS RX4 46 yX4_inRange wsX4_inRange) := goodIn_app (goodIn_of _ (by decide +kernel)) ggX4_forecastDeath_X4_inRange
set_option maxRecDepth 20000 in
theorem ggX4_forecastDeath_X1_copyFrom : GoodIn wsX4_forecastDeath wsX1_copyFrom := goodIn_r _ [20, 12, 21, 22, 23, 24, 25, 26, 27, 28, 29, 30, 31, 32, 33, 34, 35, 36, 37, 38, 39, 40, 41, 42, 43, 44, 45, 46, 47, 48, 196, 197, 198, 199, 200, 201, 202, 203, 204, 205, 206, 207, 208, 209, 210, 211, 212, 213, 214, 215, 216, 217] (by decide +kernel) (by decide +kernel)
set_option maxRecDepth 20000 in
theorem gX4_forecastDeath_X1_copyFrom : GoodIn wsX4_forecastDeath (wsV RX4 153 RX1 yX1_copyFrom wsX1_copyFrom) := goodIn_app (goodIn_of _ (by decide +kernel)) ggX4_forecastDeath_X1_copyFrom
set_option maxRecDepth 20000 in
theorem ggX4_forecastDeath_X2_perform : GoodIn wsX4_forecastDeath wsX2_perform := goodIn_r _ [53, 54, 55, 56, 57, 10, 58, 12, 21, 59, 60, 61, 62, 52, 63, 64, 65, 66, 67, 68, 69, 70, 71, 72, 73, 74, 75, 76, 77, 78, 22, 30, 79, 80, 81, 38, 82, 47, 48, 83, 84, 85, 86, 87, 88, 89, 90, 91, 92, 93, 94, 95, 96, 97, 98, 99, 100, 101, 102, 103, 104, 105, 106, 107, 108, 109, 110, 111, 112, 113, 114, 115, 116, 117, 118, 119, 120, 121, 122, 123, 124, 125, 126, 127, 40, 41, 128, 129, 130, 131, 132, 133, 134, 135, 136, 137, 138, 139, 140, 141, 142, 143, 144, 145, 146, 147, 148, 149, 150, 151, 152, 153, 154, 155, 156, 157, 158, 159, 160, 161, 162, 163, 164, 165, 166, 167, 168, 169, 170, 171, 172, 173, 174, 175, 176, 177, 178, 179, 180, 181, 182, 183, 184, 8, 9, 11, 185, 186, 187, 188, 218, 196, 197, 198, 199, 200, 201, 202, 203, 204, 205, 206, 207, 208, 209, 210, 211, 212, 213, 214, 215, 216, 217] (by decide +kernel) (by decide +kernel)
set_option maxRecDepth 20000 in
theorem gX4_forecastDeath_X2_perform : GoodIn wsX4_forecastDeath (wsV RX4 106 RX2 yX2_perform wsX2_perform) := goodIn_app (goodIn_of _ (by decide +kernel)) ggX4_forecastDeath_X2_perform
theorem dX4_forecastDeath_0 : decode cX4_forecastDeath 0 = .ok (.aload_n 0, 1) := by decide +kernel
theorem dX4_forecastDeath_1 : decode cX4_forecastDeath 1 = .ok (.getfield 10, 3) := by decide +kernel
theorem dX4_forecastDeath_4 : decode cX4_forecastDeath 4 = .ok (.iload_n 1, 1) := by decide +kernel
theorem dX4_forecastDeath_5 : decode cX4_forecastDeath 5 = .ok (.invokevirtual 90, 3) := by decide +kernel
theorem dX4_forecastDeath_8 : decode cX4_forecastDeath 8 = .ok (.ifCond .eq 14, 3) := by decide +kernel
theorem dX4_forecastDeath_11 : decode cX4_forecastDeath 11 = .ok (.iload_n 2, 1) := by decide +kernel
theorem dX4_forecastDeath_12 : decode cX4_forecastDeath 12 = .ok (.iconst 1, 1) := by decide +kernel
theorem dX4_forecastDeath_13 : decode cX4_forecastDeath 13 = .ok (.sipush 300, 3) := by decide +kernel
theorem dX4_forecastDeath_16 : decode cX4_forecastDeath 16 = .ok (.invokestatic 46, 3) := by decide +kernel
theorem dX4_forecastDeath_19 : decode cX4_forecastDeath 19 = .ok (.ifCond .ne 5, 3) := by decide +kernel
theorem dX4_forecastDeath_22 : decode cX4_forecastDeath 22 = .ok (.iconst (-1), 1) := by decide +kernel
theorem dX4_forecastDeath_23 : decode cX4_forecastDeath 23 = .ok (.ireturn, 1) := by decide +kernel
theorem dX4_forecastDeath_24 : decode cX4_forecastDeath 24 = .ok (.aload_n 0, 1) := by decide +kernel
theorem dX4_forecastDeath_25 : decode cX4_forecastDeath 25 = .ok (.getfield 10, 3) := by decide +kernel
theorem dX4_forecastDeath_28 : decode cX4_forecastDeath 28 = .ok (.getfield 58, 3) := by decide +kernel
theorem dX4_forecastDeath_31 : decode cX4_forecastDeath 31 = .ok (.iload_n 1, 1) := by decide +kernel
theorem dX4_forecastDeath_32 : decode cX4_forecastDeath 32 = .ok (.aaload, 1) := by decide +kernel
theorem dX4_forecastDeath_33 : decode cX4_forecastDeath 33 = .ok (.getfield 94, 3) := by decide +kernel
theorem dX4_forecastDeath_36 : decode cX4_forecastDeath 36 = .ok (.ifCond .ne 6, 3) := by decide +kernel
theorem dX4_forecastDeath_39 : decode cX4_forecastDeath 39 = .ok (.bipush (-2), 2) := by decide +kernel
theorem dX4_forecastDeath_41 : decode cX4_forecastDeath 41 = .ok (.ireturn, 1) := by decide +kernel
theorem dX4_forecastDeath_42 : decode cX4_forecastDeath 42 = .ok (.aload_n 0, 1) := by decide +kernel
theorem dX4_forecastDeath_43 : decode cX4_forecastDeath 43 = .ok (.getfield 25, 3) := by decide +kernel
theorem dX4_forecastDeath_46 : decode cX4_forecastDeath 46 = .ok (.aload_n 0, 1) := by decide +kernel
theorem dX4_forecastDeath_47 : decode cX4_forecastDeath 47 = .ok (.getfield 10, 3) := by decide +kernel
theorem dX4_forecastDeath_50 : decode cX4_forecastDeath 50 = .ok (.invokevirtual 153, 3) := by decide +kernel
theorem dX4_forecastDeath_53 : decode cX4_forecastDeath 53 = .ok (.aload_n 0, 1) := by decide +kernel
theorem dX4_forecastDeath_54 : decode cX4_forecastDeath 54 = .ok (.getfield 28, 3) := by decide +kernel
theorem dX4_forecastDeath_57 : decode cX4_forecastDeath 57 = .ok (.iload_n 2, 1) := by decide +kernel
theorem dX4_forecastDeath_58 : decode cX4_forecastDeath 58 = .ok (.invokevirtual 106, 3) := by decide +kernel
theorem dX4_forecastDeath_61 : decode cX4_forecastDeath 61 = .ok (.pop, 1) := by decide +kernel
theorem dX4_forecastDeath_62 : decode cX4_forecastDeath 62 = .ok (.aload_n 0, 1) := by decide +kernel
theorem dX4_forecastDeath_63 : decode cX4_forecastDeath 63 = .ok (.getfield 25, 3) := by decide +kernel
theorem dX4_forecastDeath_66 : decode cX4_forecastDeath 66 = .ok (.getfield 58, 3) := by decide +kernel
theorem dX4_forecastDeath_69 : decode cX4_forecastDeath 69 = .ok (.iload_n 1, 1) := by decide +kernel
theorem dX4_forecastDeath_70 : decode cX4_forecastDeath 70 = .ok (.aaload, 1) := by decide +kernel
theorem dX4_forecastDeath_71 : decode cX4_forecastDeath 71 = .ok (.getfield 119, 3) := by decide +kernel
theorem dX4_forecastDeath_74 : decode cX4_forecastDeath 74 = .ok (.ireturn, 1) := by decide +kernel
set_option maxRecDepth 20000 in
theorem ggX4_forecastDelivered_X4_inRange : GoodIn wsX4_forecastDelivered wsX4_inRange := goodIn_r _ [8] (by decide +kernel) (by decide +kernel)
set_option maxRecDepth 20000 in
theorem gX4_forecastDelivered_X4_inRange : GoodIn wsX4_forecastDelivered (va_wsS RX4 46 yX4_inRange wsX4_inRange) := goodIn_app (goodIn_of _ (by decide +kernel)) ggX4_forecastDelivered_X4_inRange
set_option maxRecDepth 20000 in
theorem ggX4_forecastDelivered_X1_copyFrom : GoodIn wsX4_forecastDelivered wsX1_copyFrom := goodIn_r _ [13, 14, 15, 16, 17, 18, 19, 20, 21, 22, 23, 24, 25, 26, 27, 28, 29, 30, 31, 32, 33, 34, 35, 36, 37, 38, 39, 40, 41, 42, 193, 194, 195, 196, 197, 198, 199, 200, 201, 202, 203, 204, 205, 206, 207, 208, 209, 210, 211, 212, 213, 214] (by decide +kernel) (by decide +kernel)
set_option maxRecDepth 20000 in
theorem gX4_forecastDelivered_X1_copyFrom : GoodIn wsX4_forecastDelivered (wsV RX4 153 RX1 yX1_copyFrom wsX1_copyFrom) := goodIn_app (goodIn_of _ (by decide +kernel)) ggX4_forecastDelivered_X1_copyFrom
set_option maxRecDepth 20000 in
theorem ggX4_forecastDelivered_X2_perform : GoodIn wsX4_forecastDelivered wsX2_perform := goodIn_r _ [47, 48, 49, 50, 51, 12, 52, 14, 15, 53, 54, 55, 56, 46, 57, 58, 59, 60, 61, 62, 63, 64, 65, 66, 67, 68, 69, 70, 71, 72, 16, 24, 73, 74, 75, 32, 76, 41, 42, 77, 78, 79, 80, 81, 82, 83, 84, 85, 86, 87, 88, 89, 90, 91, 92, 93, 94, 95, 96, 97, 98, 99, 100, 101, 102, 103, 104, 105, 106, 107, 108, 109, 110, 111, 112, 113, 114, 115, 116, 117, 118, 119, 120, 121, 34, 35, 122, 123, 124, 125, 126, 127, 128, 129, 130, 131, 132, 133, 134, 135, 136, 137, 138, 139, 140, 141, 142, 143, 144, 145, 146, 147, 148, 149, 150, 151, 152, 153, 154, 155, 156, 157, 158, 159, 160, 161, 162, 163, 164, 165, 166, 167, 168, 169, 170, 171, 172, 173, 174, 175, 176, 177, 178, 179, 180, 181, 182, 183, 184, 185, 215, 193, 194, 195, 196, 197, 198, 199, 200, 201, 202, 203, 204, 205, 206, 207, 208, 209, 210, 211, 212, 213, 214] (by decide +kernel) (by decide +kernel)
set_option maxRecDepth 20000 in
theorem gX4_forecastDelivered_X2_perform : GoodIn wsX4_forecastDelivered (wsV RX4 106 RX2 yX2_perform wsX2_perform) := goodIn_app (goodIn_of _ (by decide +kernel)) ggX4_forecastDelivered_X2_perform
theorem dX4_forecastDelivered_0 : decode cX4_forecastDelivered 0 = .ok (.iload_n 1, 1) := by decide +kernel
theorem dX4_forecastDelivered_1 : decode cX4_forecastDelivered 1 = .ok (.iconst 1, 1) := by decide +kernel
theorem dX4_forecastDelivered_2 : decode cX4_forecastDelivered 2 = .ok (.sipush 300, 3) := by decide +kernel
theorem dX4_forecastDelivered_5 : decode cX4_forecastDelivered 5 = .ok (.invokestatic 46, 3) := by decide +kernel
theorem dX4_forecastDelivered_8 : decode cX4_forecastDelivered 8 = .ok (.ifCond .ne 5, 3) := by decide +kernel
theorem dX4_forecastDelivered_11 : decode cX4_forecastDelivered 11 = .ok (.iconst (-1), 1) := by decide +kernel
theorem dX4_forecastDelivered_12 : decode cX4_forecastDelivered 12 = .ok (.ireturn, 1) := by decide +kernel
theorem dX4_forecastDelivered_13 : decode cX4_forecastDelivered 13 = .ok (.aload_n 0, 1) := by decide +kernel
theorem dX4_forecastDelivered_14 : decode cX4_forecastDelivered 14 = .ok (.getfield 25, 3) := by decide +kernel
theorem dX4_forecastDelivered_17 : decode cX4_forecastDelivered 17 = .ok (.aload_n 0, 1) := by decide +kernel
theorem dX4_forecastDelivered_18 : decode cX4_forecastDelivered 18 = .ok (.getfield 10, 3) := by decide +kernel
theorem dX4_forecastDelivered_21 : decode cX4_forecastDelivered 21 = .ok (.invokevirtual 153, 3) := by decide +kernel
theorem dX4_forecastDelivered_24 : decode cX4_forecastDelivered 24 = .ok (.aload_n 0, 1) := by decide +kernel
theorem dX4_forecastDelivered_25 : decode cX4_forecastDelivered 25 = .ok (.getfield 28, 3) := by decide +kernel
theorem dX4_forecastDelivered_28 : decode cX4_forecastDelivered 28 = .ok (.iload_n 1, 1) := by decide +kernel
theorem dX4_forecastDelivered_29 : decode cX4_forecastDelivered 29 = .ok (.invokevirtual 106, 3) := by decide +kernel
theorem dX4_forecastDelivered_32 : decode cX4_forecastDelivered 32 = .ok (.pop, 1) := by decide +kernel
theorem dX4_forecastDelivered_33 : decode cX4_forecastDelivered 33 = .ok (.aload_n 0, 1) := by decide +kernel
theorem dX4_forecastDelivered_34 : decode cX4_forecastDelivered 34 = .ok (.getfield 25, 3) := by decide +kernel
theorem dX4_forecastDelivered_37 : decode cX4_forecastDelivered 37 = .ok (.getfield 134, 3) := by decide +kernel
theorem dX4_forecastDelivered_40 : decode cX4_forecastDelivered 40 = .ok (.aload_n 0, 1) := by decide +kernel
theorem dX4_forecastDelivered_41 : decode cX4_forecastDelivered 41 = .ok (.getfield 10, 3) := by decide +kernel
theorem dX4_forecastDelivered_44 : decode cX4_forecastDelivered 44 = .ok (.getfield 134, 3) := by decide +kernel
theorem dX4_forecastDelivered_47 : decode cX4_forecastDelivered 47 = .ok (.isub, 1) := by decide +kernel
theorem dX4_forecastDelivered_48 : decode cX4_forecastDelivered 48 = .ok (.ireturn, 1) := by decide +kernel
set_option maxRecDepth 20000 in
theorem ggX4_undo_X0_popInto : GoodIn wsX4_undo wsX0_popInto := goodIn_r _ [8, 9, 10, 11, 12, 13, 14, 15, 16, 17, 18, 19, 20, 21, 22, 23, 24, 25, 26, 27, 28, 29, 30, 31, 32, 33, 34, 35, 36, 37, 38, 39, 40, 41, 42, 43, 44, 52, 53, 54, 55, 56, 57, 58, 59, 60, 61, 62, 63, 64, 65, 66, 67, 68, 69, 70, 71, 72, 73, 74, 75] (by decide +kernel) (by decide +kernel)
set_option maxRecDepth 20000 in
theorem gX4_undo_X0_popInto : GoodIn wsX4_undo (wsV RX4 159 RX0 yX0_popInto wsX0_popInto) := goodIn_app (goodIn_of _ (by decide +kernel)) ggX4_undo_X0_popInto
theorem dX4_undo_0 : decode cX4_undo 0 = .ok (.aload_n 0, 1) := by decide +kernel
theorem dX4_undo_1 : decode cX4_undo 1 = .ok (.getfield 34, 3) := by decide +kernel
theorem dX4_undo_4 : decode cX4_undo 4 = .ok (.getfield 156, 3) := by decide +kernel
theorem dX4_undo_7 : decode cX4_undo 7 = .ok (.ifCond .ne 6, 3) := by decide +kernel
theorem dX4_undo_10 : decode cX4_undo 10 = .ok (.bipush (-2), 2) := by decide +kernel
theorem dX4_undo_12 : decode cX4_undo 12 = .ok (.ireturn, 1) := by decide +kernel
theorem dX4_undo_13 : decode cX4_undo 13 = .ok (.aload_n 0, 1) := by decide +kernel
theorem dX4_undo_14 : decode cX4_undo 14 = .ok (.getfield 34, 3) := by decide +kernel
theorem dX4_undo_17 : decode cX4_undo 17 = .ok (.aload_n 0, 1) := by decide +kernel
theorem dX4_undo_18 : decode cX4_undo 18 = .ok (.getfield 10, 3) := by decide +kernel
theorem dX4_undo_21 : decode cX4_undo 21 = .ok (.invokevirtual 159, 3) := by decide +kernel
theorem dX4_undo_24 : decode cX4_undo 24 = .ok (.aload_n 0, 1) := by decide +kernel
theorem dX4_undo_25 : decode cX4_undo 25 = .ok (.getfield 34, 3) := by decide +kernel
theorem dX4_undo_28 : decode cX4_undo 28 = .ok (.getfield 156, 3) := by decide +kernel
theorem dX4_undo_31 : decode cX4_undo 31 = .ok (.ireturn, 1) := by decide +kernel
theorem dX4_undoDepth_0 : decode cX4_undoDepth 0 = .ok (.aload_n 0, 1) := by decide +kernel
theorem dX4_undoDepth_1 : decode cX4_undoDepth 1 = .ok (.getfield 34, 3) := by decide +kernel
theorem dX4_undoDepth_4 : decode cX4_undoDepth 4 = .ok (.getfield 156, 3) := by decide +kernel
theorem dX4_undoDepth_7 : decode cX4_undoDepth 7 = .ok (.ireturn, 1) := by decide +kernel
set_option maxRecDepth 20000 in
theorem ggX4_save_X4_inRange : GoodIn wsX4_save wsX4_inRange := goodIn_r _ [8] (by decide +kernel) (by decide +kernel)
set_option maxRecDepth 20000 in
theorem gX4_save_X4_inRange : GoodIn wsX4_save (va_wsS RX4 46 yX4_inRange wsX4_inRange) := goodIn_app (goodIn_of _ (by decide +kernel)) ggX4_save_X4_inRange
set_option maxRecDepth 20000 in
theorem ggX4_save_X1_copyFrom : GoodIn wsX4_save wsX1_copyFrom := goodIn_r _ [13, 14, 15, 16, 17, 18, 19, 20, 21, 22, 23, 24, 25, 26, 27, 28, 29, 30, 31, 32, 33, 34, 35, 36, 37, 38, 39, 40, 41, 42, 50, 51, 52, 53, 54, 55, 56, 57, 58, 59, 60, 61, 62, 63, 64, 65, 66, 67, 68, 69, 70, 71] (by decide +kernel) (by decide +kernel)
set_option maxRecDepth 20000 in
theorem gX4_save_X1_copyFrom : GoodIn wsX4_save (wsV RX4 153 RX1 yX1_copyFrom wsX1_copyFrom) := goodIn_app (goodIn_of _ (by decide +kernel)) ggX4_save_X1_copyFrom
theorem dX4_save_0 : decode cX4_save 0 = .ok (.iload_n 1, 1) := by decide +kernel
theorem dX4_save_1 : decode cX4_save 1 = .ok (.iconst 0, 1) := by decide +kernel
theorem dX4_save_2 : decode cX4_save 2 = .ok (.iconst 1, 1) := by decide +kernel
theorem dX4_save_3 : decode cX4_save 3 = .ok (.invokestatic 46, 3) := by decide +kernel
theorem dX4_save_6 : decode cX4_save 6 = .ok (.ifCond .ne 5, 3) := by decide +kernel
theorem dX4_save_9 : decode cX4_save 9 = .ok (.iconst (-1), 1) := by decide +kernel
theorem dX4_save_10 : decode cX4_save 10 = .ok (.ireturn, 1) := by decide +kernel
theorem dX4_save_11 : decode cX4_save 11 = .ok (.aload_n 0, 1) := by decide +kernel
theorem dX4_save_12 : decode cX4_save 12 = .ok (.getfield 38, 3) := by decide +kernel
theorem dX4_save_15 : decode cX4_save 15 = .ok (.iload_n 1, 1) := by decide +kernel
theorem dX4_save_16 : decode cX4_save 16 = .ok (.aaload, 1) := by decide +kernel
theorem dX4_save_17 : decode cX4_save 17 = .ok (.aload_n 0, 1) := by decide +kernel
theorem dX4_save_18 : decode cX4_save 18 = .ok (.getfield 10, 3) := by decide +kernel
theorem dX4_save_21 : decode cX4_save 21 = .ok (.invokevirtual 153, 3) := by decide +kernel
theorem dX4_save_24 : decode cX4_save 24 = .ok (.aload_n 0, 1) := by decide +kernel
theorem dX4_save_25 : decode cX4_save 25 = .ok (.getfield 42, 3) := by decide +kernel
theorem dX4_save_28 : decode cX4_save 28 = .ok (.iload_n 1, 1) := by decide +kernel
theorem dX4_save_29 : decode cX4_save 29 = .ok (.iconst 1, 1) := by decide +kernel
theorem dX4_save_30 : decode cX4_save 30 = .ok (.bastore, 1) := by decide +kernel
theorem dX4_save_31 : decode cX4_save 31 = .ok (.aload_n 0, 1) := by decide +kernel
theorem dX4_save_32 : decode cX4_save 32 = .ok (.getfield 10, 3) := by decide +kernel
theorem dX4_save_35 : decode cX4_save 35 = .ok (.getfield 51, 3) := by decide +kernel
theorem dX4_save_38 : decode cX4_save 38 = .ok (.ireturn, 1) := by decide +kernel
set_option maxRecDepth 20000 in
theorem ggX4_restore_X4_inRange : GoodIn wsX4_restore wsX4_inRange := goodIn_r _ [10] (by decide +kernel) (by decide +kernel)
set_option maxRecDepth 20000 in
theorem gX4_restore_X4_inRange : GoodIn wsX4_restore (va_wsS RX4 46 yX4_inRange wsX4_inRange) := goodIn_app (goodIn_of _ (by decide +kernel)) ggX4_restore_X4_inRange
set_option maxRecDepth 20000 in
theorem ggX4_restore_X1_copyFrom : GoodIn wsX4_restore wsX1_copyFrom := goodIn_r _ [15, 16, 17, 18, 19, 20, 21, 22, 23, 24, 25, 26, 27, 28, 29, 30, 31, 32, 33, 34, 35, 36, 37, 38, 39, 40, 41, 42, 43, 44, 54, 55, 56, 57, 58, 59, 60, 61, 62, 63, 64, 65, 66, 67, 68, 69, 70, 71, 72, 73, 74, 75] (by decide +kernel) (by decide +kernel)
set_option maxRecDepth 20000 in
theorem gX4_restore_X1_copyFrom : GoodIn wsX4_restore (wsV RX4 153 RX1 yX1_copyFrom wsX1_copyFrom) := goodIn_app (goodIn_of _ (by decide +kernel)) ggX4_restore_X1_copyFrom
theorem dX4_restore_0 : decode cX4_restore 0 = .ok (.iload_n 1, 1) := by decide +kernel
theorem dX4_restore_1 : decode cX4_restore 1 = .ok (.iconst 0, 1) := by decide +kernel
theorem dX4_restore_2 : decode cX4_restore 2 = .ok (.iconst 1, 1) := by decide +kernel
theorem dX4_restore_3 : decode cX4_restore 3 = .ok (.invokestatic 46, 3) := by decide +kernel
theorem dX4_restore_6 : decode cX4_restore 6 = .ok (.ifCond .ne 5, 3) := by decide +kernel
theorem dX4_restore_9 : decode cX4_restore 9 = .ok (.iconst (-1), 1) := by decide +kernel
theorem dX4_restore_10 : decode cX4_restore 10 = .ok (.ireturn, 1) := by decide +kernel
theorem dX4_restore_11 : decode cX4_restore 11 = .ok (.aload_n 0, 1) := by decide +kernel
theorem dX4_restore_12 : decode cX4_restore 12 = .ok (.getfield 42, 3) := by decide +kernel
theorem dX4_restore_15 : decode cX4_restore 15 = .ok (.iload_n 1, 1) := by decide +kernel
theorem dX4_restore_16 : decode cX4_restore 16 = .ok (.baload, 1) := by decide +kernel
theorem dX4_restore_17 : decode cX4_restore 17 = .ok (.ifCond .ne 6, 3) := by decide +kernel
theorem dX4_restore_20 : decode cX4_restore 20 = .ok (.bipush (-2), 2) := by decide +kernel
theorem dX4_restore_22 : decode cX4_restore 22 = .ok (.ireturn, 1) := by decide +kernel
theorem dX4_restore_23 : decode cX4_restore 23 = .ok (.aload_n 0, 1) := by decide +kernel
theorem dX4_restore_24 : decode cX4_restore 24 = .ok (.getfield 10, 3) := by decide +kernel
theorem dX4_restore_27 : decode cX4_restore 27 = .ok (.aload_n 0, 1) := by decide +kernel
theorem dX4_restore_28 : decode cX4_restore 28 = .ok (.getfield 38, 3) := by decide +kernel
theorem dX4_restore_31 : decode cX4_restore 31 = .ok (.iload_n 1, 1) := by decide +kernel
theorem dX4_restore_32 : decode cX4_restore 32 = .ok (.aaload, 1) := by decide +kernel
theorem dX4_restore_33 : decode cX4_restore 33 = .ok (.invokevirtual 153, 3) := by decide +kernel
theorem dX4_restore_36 : decode cX4_restore 36 = .ok (.aload_n 0, 1) := by decide +kernel
theorem dX4_restore_37 : decode cX4_restore 37 = .ok (.getfield 34, 3) := by decide +kernel
theorem dX4_restore_40 : decode cX4_restore 40 = .ok (.iconst 0, 1) := by decide +kernel
theorem dX4_restore_41 : decode cX4_restore 41 = .ok (.putfield 156, 3) := by decide +kernel
theorem dX4_restore_44 : decode cX4_restore 44 = .ok (.aload_n 0, 1) := by decide +kernel
theorem dX4_restore_45 : decode cX4_restore 45 = .ok (.getfield 10, 3) := by decide +kernel
theorem dX4_restore_48 : decode cX4_restore 48 = .ok (.getfield 51, 3) := by decide +kernel
theorem dX4_restore_51 : decode cX4_restore 51 = .ok (.ireturn, 1) := by decide +kernel
theorem dX4_inRange_0 : decode cX4_inRange 0 = .ok (.iload_n 0, 1) := by decide +kernel
theorem dX4_inRange_1 : decode cX4_inRange 1 = .ok (.iload_n 1, 1) := by decide +kernel
theorem dX4_inRange_2 : decode cX4_inRange 2 = .ok (.if_icmp .lt 12, 3) := by decide +kernel
theorem dX4_inRange_5 : decode cX4_inRange 5 = .ok (.iload_n 0, 1) := by decide +kernel
theorem dX4_inRange_6 : decode cX4_inRange 6 = .ok (.iload_n 2, 1) := by decide +kernel
theorem dX4_inRange_7 : decode cX4_inRange 7 = .ok (.if_icmp .gt 7, 3) := by decide +kernel
theorem dX4_inRange_10 : decode cX4_inRange 10 = .ok (.iconst 1, 1) := by decide +kernel
theorem dX4_inRange_11 : decode cX4_inRange 11 = .ok (.goto 4, 3) := by decide +kernel
theorem dX4_inRange_14 : decode cX4_inRange 14 = .ok (.iconst 0, 1) := by decide +kernel
theorem dX4_inRange_15 : decode cX4_inRange 15 = .ok (.ireturn, 1) := by decide +kernel
theorem dX5_init_0 : decode cX5_init 0 = .ok (.aload_n 0, 1) := by decide +kernel
theorem dX5_init_1 : decode cX5_init 1 = .ok (.invokespecial 1, 3) := by decide +kernel
theorem dX5_init_4 : decode cX5_init 4 = .ok (.aload_n 0, 1) := by decide +kernel
theorem dX5_init_5 : decode cX5_init 5 = .ok (.bipush 123, 2) := by decide +kernel
theorem dX5_init_7 : decode cX5_init 7 = .ok (.newarray .int, 2) := by decide +kernel
theorem dX5_init_9 : decode cX5_init 9 = .ok (.putfield 7, 3) := by decide +kernel
theorem dX5_init_12 : decode cX5_init 12 = .ok (.aload_n 0, 1) := by decide +kernel
theorem dX5_init_13 : decode cX5_init 13 = .ok (.bipush 123, 2) := by decide +kernel
theorem dX5_init_15 : decode cX5_init 15 = .ok (.newarray .int, 2) := by decide +kernel
theorem dX5_init_17 : decode cX5_init 17 = .ok (.putfield 13, 3) := by decide +kernel
theorem dX5_init_20 : decode cX5_init 20 = .ok (.aload_n 0, 1) := by decide +kernel
theorem dX5_init_21 : decode cX5_init 21 = .ok (.sipush 738, 3) := by decide +kernel
theorem dX5_init_24 : decode cX5_init 24 = .ok (.newarray .int, 2) := by decide +kernel
theorem dX5_init_26 : decode cX5_init 26 = .ok (.putfield 16, 3) := by decide +kernel
theorem dX5_init_29 : decode cX5_init 29 = .ok (.aload_n 0, 1) := by decide +kernel
theorem dX5_init_30 : decode cX5_init 30 = .ok (.sipush 246, 3) := by decide +kernel
theorem dX5_init_33 : decode cX5_init 33 = .ok (.newarray .int, 2) := by decide +kernel
theorem dX5_init_35 : decode cX5_init 35 = .ok (.putfield 19, 3) := by decide +kernel
theorem dX5_init_38 : decode cX5_init 38 = .ok (.aload_n 0, 1) := by decide +kernel
theorem dX5_init_39 : decode cX5_init 39 = .ok (.iconst 2, 1) := by decide +kernel
theorem dX5_init_40 : decode cX5_init 40 = .ok (.newarray .boolean, 2) := by decide +kernel
theorem dX5_init_42 : decode cX5_init 42 = .ok (.putfield 22, 3) := by decide +kernel
theorem dX5_init_45 : decode cX5_init 45 = .ok (.aload_n 0, 1) := by decide +kernel
theorem dX5_init_46 : decode cX5_init 46 = .ok (.bipush 12, 2) := by decide +kernel
theorem dX5_init_48 : decode cX5_init 48 = .ok (.newarray .boolean, 2) := by decide +kernel
theorem dX5_init_50 : decode cX5_init 50 = .ok (.putfield 26, 3) := by decide +kernel
theorem dX5_init_53 : decode cX5_init 53 = .ok (.aload_n 0, 1) := by decide +kernel
theorem dX5_init_54 : decode cX5_init 54 = .ok (.bipush 12, 2) := by decide +kernel
theorem dX5_init_56 : decode cX5_init 56 = .ok (.newarray .int, 2) := by decide +kernel
theorem dX5_init_58 : decode cX5_init 58 = .ok (.putfield 29, 3) := by decide +kernel
theorem dX5_init_61 : decode cX5_init 61 = .ok (.aload_n 0, 1) := by decide +kernel
theorem dX5_init_62 : decode cX5_init 62 = .ok (.getfield 7, 3) := by decide +kernel
theorem dX5_init_65 : decode cX5_init 65 = .ok (.iconst 1, 1) := by decide +kernel
theorem dX5_init_66 : decode cX5_init 66 = .ok (.bipush 50, 2) := by decide +kernel
theorem dX5_init_68 : decode cX5_init 68 = .ok (.iastore, 1) := by decide +kernel
theorem dX5_init_69 : decode cX5_init 69 = .ok (.aload_n 0, 1) := by decide +kernel
theorem dX5_init_70 : decode cX5_init 70 = .ok (.getfield 7, 3) := by decide +kernel
theorem dX5_init_73 : decode cX5_init 73 = .ok (.iconst 2, 1) := by decide +kernel
theorem dX5_init_74 : decode cX5_init 74 = .ok (.sipush 150, 3) := by decide +kernel
theorem dX5_init_77 : decode cX5_init 77 = .ok (.iastore, 1) := by decide +kernel
theorem dX5_init_78 : decode cX5_init 78 = .ok (.aload_n 0, 1) := by decide +kernel
theorem dX5_init_79 : decode cX5_init 79 = .ok (.getfield 7, 3) := by decide +kernel
theorem dX5_init_82 : decode cX5_init 82 = .ok (.iconst 3, 1) := by decide +kernel
theorem dX5_init_83 : decode cX5_init 83 = .ok (.iconst 4, 1) := by decide +kernel
theorem dX5_init_84 : decode cX5_init 84 = .ok (.iastore, 1) := by decide +kernel
theorem dX5_init_85 : decode cX5_init 85 = .ok (.aload_n 0, 1) := by decide +kernel
theorem dX5_init_86 : decode cX5_init 86 = .ok (.getfield 7, 3) := by decide +kernel
theorem dX5_init_89 : decode cX5_init 89 = .ok (.iconst 4, 1) := by decide +kernel
theorem dX5_init_90 : decode cX5_init 90 = .ok (.iconst 5, 1) := by decide +kernel
theorem dX5_init_91 : decode cX5_init 91 = .ok (.iastore, 1) := by decide +kernel
theorem dX5_init_92 : decode cX5_init 92 = .ok (.aload_n 0, 1) := by decide +kernel
theorem dX5_init_93 : decode cX5_init 93 = .ok (.getfield 7, 3) := by decide +kernel
theorem dX5_init_96 : decode cX5_init 96 = .ok (.iconst 5, 1) := by decide +kernel
theorem dX5_init_97 : decode cX5_init 97 = .ok (.bipush 100, 2) := by decide +kernel
theorem dX5_init_99 : decode cX5_init 99 = .ok (.iastore, 1) := by decide +kernel
theorem dX5_init_100 : decode cX5_init 100 = .ok (.aload_n 0, 1) := by decide +kernel
theorem dX5_init_101 : decode cX5_init 101 = .ok (.getfield 7, 3) := by decide +kernel
theorem dX5_init_104 : decode cX5_init 104 = .ok (.bipush 6, 2) := by decide +kernel
theorem dX5_init_106 : decode cX5_init 106 = .ok (.iconst 1, 1) := by decide +kernel
theorem dX5_init_107 : decode cX5_init 107 = .ok (.iastore, 1) := by decide +kernel
theorem dX5_init_108 : decode cX5_init 108 = .ok (.aload_n 0, 1) := by decide +kernel
theorem dX5_init_109 : decode cX5_init 109 = .ok (.getfield 7, 3) := by decide +kernel
theorem dX5_init_112 : decode cX5_init 112 = .ok (.bipush 7, 2) := by decide +kernel
theorem dX5_init_114 : decode cX5_init 114 = .ok (.iconst 2, 1) := by decide +kernel
theorem dX5_init_115 : decode cX5_init 115 = .ok (.iastore, 1) := by decide +kernel
theorem dX5_init_116 : decode cX5_init 116 = .ok (.aload_n 0, 1) := by decide +kernel
theorem dX5_init_117 : decode cX5_init 117 = .ok (.getfield 7, 3) := by decide +kernel
theorem dX5_init_120 : decode cX5_init 120 = .ok (.bipush 9, 2) := by decide +kernel
theorem dX5_init_122 : decode cX5_init 122 = .ok (.iconst 1, 1) := by decide +kernel
theorem dX5_init_123 : decode cX5_init 123 = .ok (.iastore, 1) := by decide +kernel
theorem dX5_init_124 : decode cX5_init 124 = .ok (.return_, 1) := by decide +kernel
theorem dX5_in_0 : decode cX5_in 0 = .ok (.iload_n 0, 1) := by decide +kernel
theorem dX5_in_1 : decode cX5_in 1 = .ok (.iload_n 1, 1) := by decide +kernel
theorem dX5_in_2 : decode cX5_in 2 = .ok (.if_icmp .lt 12, 3) := by decide +kernel
theorem dX5_in_5 : decode cX5_in 5 = .ok (.iload_n 0, 1) := by decide +kernel
theorem dX5_in_6 : decode cX5_in 6 = .ok (.iload_n 2, 1) := by decide +kernel
theorem dX5_in_7 : decode cX5_in 7 = .ok (.if_icmp .gt 7, 3) := by decide +kernel
theorem dX5_in_10 : decode cX5_in 10 = .ok (.iconst 1, 1) := by decide +kernel
theorem dX5_in_11 : decode cX5_in 11 = .ok (.goto 4, 3) := by decide +kernel
theorem dX5_in_14 : decode cX5_in 14 = .ok (.iconst 0, 1) := by decide +kernel
theorem dX5_in_15 : decode cX5_in 15 = .ok (.ireturn, 1) := by decide +kernel
theorem dX5_keep_0 : decode cX5_keep 0 = .ok (.aload_n 0, 1) := by decide +kernel
theorem dX5_keep_1 : decode cX5_keep 1 = .ok (.getfield 36, 3) := by decide +kernel
theorem dX5_keep_4 : decode cX5_keep 4 = .ok (.bipush 6, 2) := by decide +kernel
theorem dX5_keep_6 : decode cX5_keep 6 = .ok (.if_icmp .ne 43, 3) := by decide +kernel
theorem dX5_keep_9 : decode cX5_keep 9 = .ok (.iconst 0, 1) := by decide +kernel
theorem dX5_keep_10 : decode cX5_keep 10 = .ok (.istore_n 1, 1) := by decide +kernel
theorem dX5_keep_11 : decode cX5_keep 11 = .ok (.iload_n 1, 1) := by decide +kernel
theorem dX5_keep_12 : decode cX5_keep 12 = .ok (.sipush 615, 3) := by decide +kernel
theorem dX5_keep_15 : decode cX5_keep 15 = .ok (.if_icmp .ge 24, 3) := by decide +kernel
theorem dX5_keep_18 : decode cX5_keep 18 = .ok (.aload_n 0, 1) := by decide +kernel
theorem dX5_keep_19 : decode cX5_keep 19 = .ok (.getfield 16, 3) := by decide +kernel
theorem dX5_keep_22 : decode cX5_keep 22 = .ok (.iload_n 1, 1) := by decide +kernel
theorem dX5_keep_23 : decode cX5_keep 23 = .ok (.aload_n 0, 1) := by decide +kernel
theorem dX5_keep_24 : decode cX5_keep 24 = .ok (.getfield 16, 3) := by decide +kernel
theorem dX5_keep_27 : decode cX5_keep 27 = .ok (.bipush 123, 2) := by decide +kernel
theorem dX5_keep_29 : decode cX5_keep 29 = .ok (.iload_n 1, 1) := by decide +kernel
theorem dX5_keep_30 : decode cX5_keep 30 = .ok (.iadd, 1) := by decide +kernel
theorem dX5_keep_31 : decode cX5_keep 31 = .ok (.iaload, 1) := by decide +kernel
theorem dX5_keep_32 : decode cX5_keep 32 = .ok (.iastore, 1) := by decide +kernel
theorem dX5_keep_33 : decode cX5_keep 33 = .ok (.iinc 1 1, 3) := by decide +kernel
theorem dX5_keep_36 : decode cX5_keep 36 = .ok (.goto (-25), 3) := by decide +kernel
theorem dX5_keep_39 : decode cX5_keep 39 = .ok (.aload_n 0, 1) := by decide +kernel
theorem dX5_keep_40 : decode cX5_keep 40 = .ok (.dup, 1) := by decide +kernel
theorem dX5_keep_41 : decode cX5_keep 41 = .ok (.getfield 36, 3) := by decide +kernel
theorem dX5_keep_44 : decode cX5_keep 44 = .ok (.iconst 1, 1) := by decide +kernel
theorem dX5_keep_45 : decode cX5_keep 45 = .ok (.isub, 1) := by decide +kernel
theorem dX5_keep_46 : decode cX5_keep 46 = .ok (.putfield 36, 3) := by decide +kernel
theorem dX5_keep_49 : decode cX5_keep 49 = .ok (.iconst 0, 1) := by decide +kernel
theorem dX5_keep_50 : decode cX5_keep 50 = .ok (.istore_n 1, 1) := by decide +kernel
theorem dX5_keep_51 : decode cX5_keep 51 = .ok (.iload_n 1, 1) := by decide +kernel
theorem dX5_keep_52 : decode cX5_keep 52 = .ok (.bipush 123, 2) := by decide +kernel
theorem dX5_keep_54 : decode cX5_keep 54 = .ok (.if_icmp .ge 29, 3) := by decide +kernel
theorem dX5_keep_57 : decode cX5_keep 57 = .ok (.aload_n 0, 1) := by decide +kernel
theorem dX5_keep_58 : decode cX5_keep 58 = .ok (.getfield 16, 3) := by decide +kernel
theorem dX5_keep_61 : decode cX5_keep 61 = .ok (.bipush 123, 2) := by decide +kernel
theorem dX5_keep_63 : decode cX5_keep 63 = .ok (.aload_n 0, 1) := by decide +kernel
theorem dX5_keep_64 : decode cX5_keep 64 = .ok (.getfield 36, 3) := by decide +kernel
theorem dX5_keep_67 : decode cX5_keep 67 = .ok (.imul, 1) := by decide +kernel
theorem dX5_keep_68 : decode cX5_keep 68 = .ok (.iload_n 1, 1) := by decide +kernel
theorem dX5_keep_69 : decode cX5_keep 69 = .ok (.iadd, 1) := by decide +kernel
theorem dX5_keep_70 : decode cX5_keep 70 = .ok (.aload_n 0, 1) := by decide +kernel
theorem dX5_keep_71 : decode cX5_keep 71 = .ok (.getfield 7, 3) := by decide +kernel
theorem dX5_keep_74 : decode cX5_keep 74 = .ok (.iload_n 1, 1) := by decide +kernel
theorem dX5_keep_75 : decode cX5_keep 75 = .ok (.iaload, 1) := by decide +kernel
theorem dX5_keep_76 : decode cX5_keep 76 = .ok (.iastore, 1) := by decide +kernel
theorem dX5_keep_77 : decode cX5_keep 77 = .ok (.iinc 1 1, 3) := by decide +kernel
theorem dX5_keep_80 : decode cX5_keep 80 = .ok (.goto (-29), 3) := by decide +kernel
theorem dX5_keep_83 : decode cX5_keep 83 = .ok (.aload_n 0, 1) := by decide +kernel
theorem dX5_keep_84 : decode cX5_keep 84 = .ok (.dup, 1) := by decide +kernel
theorem dX5_keep_85 : decode cX5_keep 85 = .ok (.getfield 36, 3) := by decide +kernel
theorem dX5_keep_88 : decode cX5_keep 88 = .ok (.iconst 1, 1) := by decide +kernel
theorem dX5_keep_89 : decode cX5_keep 89 = .ok (.iadd, 1) := by decide +kernel
theorem dX5_keep_90 : decode cX5_keep 90 = .ok (.putfield 36, 3) := by decide +kernel
theorem dX5_keep_93 : decode cX5_keep 93 = .ok (.return_, 1) := by decide +kernel
set_option maxRecDepth 20000 in
theorem ggX5_isSensor_X5_in : GoodIn wsX5_isSensor wsX5_in := goodIn_r _ [5] (by decide +kernel) (by decide +kernel)
set_option maxRecDepth 20000 in
theorem gX5_isSensor_X5_in : GoodIn wsX5_isSensor (va_wsS RX5 39 yX5_in wsX5_in) := goodIn_app (goodIn_of _ (by decide +kernel)) ggX5_isSensor_X5_in
theorem dX5_isSensor_0 : decode cX5_isSensor 0 = .ok (.iload_n 1, 1) := by decide +kernel
theorem dX5_isSensor_1 : decode cX5_isSensor 1 = .ok (.iconst 0, 1) := by decide +kernel
theorem dX5_isSensor_2 : decode cX5_isSensor 2 = .ok (.aload_n 0, 1) := by decide +kernel
theorem dX5_isSensor_3 : decode cX5_isSensor 3 = .ok (.getfield 7, 3) := by decide +kernel
theorem dX5_isSensor_6 : decode cX5_isSensor 6 = .ok (.iconst 0, 1) := by decide +kernel
theorem dX5_isSensor_7 : decode cX5_isSensor 7 = .ok (.iaload, 1) := by decide +kernel
theorem dX5_isSensor_8 : decode cX5_isSensor 8 = .ok (.iconst 1, 1) := by decide +kernel
theorem dX5_isSensor_9 : decode cX5_isSensor 9 = .ok (.isub, 1) := by decide +kernel
theorem dX5_isSensor_10 : decode cX5_isSensor 10 = .ok (.invokestatic 39, 3) := by decide +kernel
theorem dX5_isSensor_13 : decode cX5_isSensor 13 = .ok (.ireturn, 1) := by decide +kernel
theorem dX5_of_0 : decode cX5_of 0 = .ok (.aload_n 0, 1) := by decide +kernel
theorem dX5_of_1 : decode cX5_of 1 = .ok (.getfield 7, 3) := by decide +kernel
theorem dX5_of_4 : decode cX5_of 4 = .ok (.bipush 15, 2) := by decide +kernel
theorem dX5_of_6 : decode cX5_of 6 = .ok (.bipush 9, 2) := by decide +kernel
theorem dX5_of_8 : decode cX5_of 8 = .ok (.iload_n 1, 1) := by decide +kernel
theorem dX5_of_9 : decode cX5_of 9 = .ok (.imul, 1) := by decide +kernel
theorem dX5_of_10 : decode cX5_of 10 = .ok (.iadd, 1) := by decide +kernel
theorem dX5_of_11 : decode cX5_of 11 = .ok (.iload_n 2, 1) := by decide +kernel
theorem dX5_of_12 : decode cX5_of 12 = .ok (.iadd, 1) := by decide +kernel
theorem dX5_of_13 : decode cX5_of 13 = .ok (.iaload, 1) := by decide +kernel
theorem dX5_of_14 : decode cX5_of 14 = .ok (.ireturn, 1) := by decide +kernel
theorem dX5_set_0 : decode cX5_set 0 = .ok (.aload_n 0, 1) := by decide +kernel
theorem dX5_set_1 : decode cX5_set 1 = .ok (.getfield 7, 3) := by decide +kernel
theorem dX5_set_4 : decode cX5_set 4 = .ok (.bipush 15, 2) := by decide +kernel
theorem dX5_set_6 : decode cX5_set 6 = .ok (.bipush 9, 2) := by decide +kernel
theorem dX5_set_8 : decode cX5_set 8 = .ok (.iload_n 1, 1) := by decide +kernel
theorem dX5_set_9 : decode cX5_set 9 = .ok (.imul, 1) := by decide +kernel
theorem dX5_set_10 : decode cX5_set 10 = .ok (.iadd, 1) := by decide +kernel
theorem dX5_set_11 : decode cX5_set 11 = .ok (.iload_n 2, 1) := by decide +kernel
theorem dX5_set_12 : decode cX5_set 12 = .ok (.iadd, 1) := by decide +kernel
theorem dX5_set_13 : decode cX5_set 13 = .ok (.iload_n 3, 1) := by decide +kernel
theorem dX5_set_14 : decode cX5_set 14 = .ok (.iastore, 1) := by decide +kernel
theorem dX5_set_15 : decode cX5_set 15 = .ok (.return_, 1) := by decide +kernel
set_option maxRecDepth 20000 in
theorem ggX5_lives_X5_of : GoodIn wsX5_lives wsX5_of := goodIn_r _ [5, 6, 7, 8, 9, 10, 11, 12, 13, 14, 15] (by decide +kernel) (by decide +kernel)
set_option maxRecDepth 20000 in
theorem gX5_lives_X5_of : GoodIn wsX5_lives (wsV RX5 43 RX5 yX5_of wsX5_of) := goodIn_app (goodIn_of _ (by decide +kernel)) ggX5_lives_X5_of
theorem dX5_lives_0 : decode cX5_lives 0 = .ok (.aload_n 0, 1) := by decide +kernel
theorem dX5_lives_1 : decode cX5_lives 1 = .ok (.iload_n 1, 1) := by decide +kernel
theorem dX5_lives_2 : decode cX5_lives 2 = .ok (.iconst 3, 1) := by decide +kernel
theorem dX5_lives_3 : decode cX5_lives 3 = .ok (.invokevirtual 43, 3) := by decide +kernel
theorem dX5_lives_6 : decode cX5_lives 6 = .ok (.iconst 1, 1) := by decide +kernel
theorem dX5_lives_7 : decode cX5_lives 7 = .ok (.if_icmp .ne 7, 3) := by decide +kernel
theorem dX5_lives_10 : decode cX5_lives 10 = .ok (.iconst 1, 1) := by decide +kernel
theorem dX5_lives_11 : decode cX5_lives 11 = .ok (.goto 4, 3) := by decide +kernel
theorem dX5_lives_14 : decode cX5_lives 14 = .ok (.iconst 0, 1) := by decide +kernel
theorem dX5_lives_15 : decode cX5_lives 15 = .ok (.ireturn, 1) := by decide +kernel
theorem dX5_setting_0 : decode cX5_setting 0 = .ok (.aload_n 0, 1) := by decide +kernel
theorem dX5_setting_1 : decode cX5_setting 1 = .ok (.getfield 7, 3) := by decide +kernel
theorem dX5_setting_4 : decode cX5_setting 4 = .ok (.iconst 3, 1) := by decide +kernel
theorem dX5_setting_5 : decode cX5_setting 5 = .ok (.iload_n 1, 1) := by decide +kernel
theorem dX5_setting_6 : decode cX5_setting 6 = .ok (.iadd, 1) := by decide +kernel
theorem dX5_setting_7 : decode cX5_setting 7 = .ok (.iaload, 1) := by decide +kernel
theorem dX5_setting_8 : decode cX5_setting 8 = .ok (.ireturn, 1) := by decide +kernel
set_option maxRecDepth 20000 in
theorem ggX5_addSensor_X5_in : GoodIn wsX5_addSensor wsX5_in := goodIn_r _ [7] (by decide +kernel) (by decide +kernel)
set_option maxRecDepth 20000 in
theorem gX5_addSensor_X5_in : GoodIn wsX5_addSensor (va_wsS RX5 39 yX5_in wsX5_in) := goodIn_app (goodIn_of _ (by decide +kernel)) ggX5_addSensor_X5_in
set_option maxRecDepth 20000 in
theorem ggX5_addSensor_X5_keep : GoodIn wsX5_addSensor wsX5_keep := goodIn_r _ [11, 12, 13, 3, 18, 19, 20, 21, 22, 23, 24, 25, 26] (by decide +kernel) (by decide +kernel)
set_option maxRecDepth 20000 in
theorem gX5_addSensor_X5_keep : GoodIn wsX5_addSensor (wsV RX5 48 RX5 yX5_keep wsX5_keep) := goodIn_app (goodIn_of _ (by decide +kernel)) ggX5_addSensor_X5_keep
set_option maxRecDepth 20000 in
theorem ggX5_addSensor_X5_set : GoodIn wsX5_addSensor wsX5_set := goodIn_r _ [17, 3, 18, 19, 20, 21, 22, 23, 24, 25, 26] (by decide +kernel) (by decide +kernel)
set_option maxRecDepth 20000 in
theorem gX5_addSensor_X5_set : GoodIn wsX5_addSensor (wsV RX5 51 RX5 yX5_set wsX5_set) := goodIn_app (goodIn_of _ (by decide +kernel)) ggX5_addSensor_X5_set
theorem dX5_addSensor_0 : decode cX5_addSensor 0 = .ok (.aload_n 0, 1) := by decide +kernel
theorem dX5_addSensor_1 : decode cX5_addSensor 1 = .ok (.iconst 0, 1) := by decide +kernel
theorem dX5_addSensor_2 : decode cX5_addSensor 2 = .ok (.putfield 32, 3) := by decide +kernel
theorem dX5_addSensor_5 : decode cX5_addSensor 5 = .ok (.iload_n 1, 1) := by decide +kernel
theorem dX5_addSensor_6 : decode cX5_addSensor 6 = .ok (.iconst 0, 1) := by decide +kernel
theorem dX5_addSensor_7 : decode cX5_addSensor 7 = .ok (.bipush 99, 2) := by decide +kernel
theorem dX5_addSensor_9 : decode cX5_addSensor 9 = .ok (.invokestatic 39, 3) := by decide +kernel
theorem dX5_addSensor_12 : decode cX5_addSensor 12 = .ok (.ifCond .eq 23, 3) := by decide +kernel
theorem dX5_addSensor_15 : decode cX5_addSensor 15 = .ok (.iload_n 2, 1) := by decide +kernel
theorem dX5_addSensor_16 : decode cX5_addSensor 16 = .ok (.iconst 0, 1) := by decide +kernel
theorem dX5_addSensor_17 : decode cX5_addSensor 17 = .ok (.bipush 99, 2) := by decide +kernel
theorem dX5_addSensor_19 : decode cX5_addSensor 19 = .ok (.invokestatic 39, 3) := by decide +kernel
theorem dX5_addSensor_22 : decode cX5_addSensor 22 = .ok (.ifCond .eq 13, 3) := by decide +kernel
theorem dX5_addSensor_25 : decode cX5_addSensor 25 = .ok (.iload_n 3, 1) := by decide +kernel
theorem dX5_addSensor_26 : decode cX5_addSensor 26 = .ok (.iconst 0, 1) := by decide +kernel
theorem dX5_addSensor_27 : decode cX5_addSensor 27 = .ok (.ldc 47, 2) := by decide +kernel
theorem dX5_addSensor_29 : decode cX5_addSensor 29 = .ok (.invokestatic 39, 3) := by decide +kernel
theorem dX5_addSensor_32 : decode cX5_addSensor 32 = .ok (.ifCond .ne 5, 3) := by decide +kernel
theorem dX5_addSensor_35 : decode cX5_addSensor 35 = .ok (.iconst (-1), 1) := by decide +kernel
theorem dX5_addSensor_36 : decode cX5_addSensor 36 = .ok (.ireturn, 1) := by decide +kernel
theorem dX5_addSensor_37 : decode cX5_addSensor 37 = .ok (.aload_n 0, 1) := by decide +kernel
theorem dX5_addSensor_38 : decode cX5_addSensor 38 = .ok (.getfield 7, 3) := by decide +kernel
theorem dX5_addSensor_41 : decode cX5_addSensor 41 = .ok (.iconst 0, 1) := by decide +kernel
theorem dX5_addSensor_42 : decode cX5_addSensor 42 = .ok (.iaload, 1) := by decide +kernel
theorem dX5_addSensor_43 : decode cX5_addSensor 43 = .ok (.bipush 12, 2) := by decide +kernel
theorem dX5_addSensor_45 : decode cX5_addSensor 45 = .ok (.if_icmp .ne 6, 3) := by decide +kernel
theorem dX5_addSensor_48 : decode cX5_addSensor 48 = .ok (.bipush (-3), 2) := by decide +kernel
theorem dX5_addSensor_50 : decode cX5_addSensor 50 = .ok (.ireturn, 1) := by decide +kernel
theorem dX5_addSensor_51 : decode cX5_addSensor 51 = .ok (.aload_n 0, 1) := by decide +kernel
theorem dX5_addSensor_52 : decode cX5_addSensor 52 = .ok (.invokevirtual 48, 3) := by decide +kernel
theorem dX5_addSensor_55 : decode cX5_addSensor 55 = .ok (.aload_n 0, 1) := by decide +kernel
theorem dX5_addSensor_56 : decode cX5_addSensor 56 = .ok (.getfield 7, 3) := by decide +kernel
theorem dX5_addSensor_59 : decode cX5_addSensor 59 = .ok (.iconst 0, 1) := by decide +kernel
theorem dX5_addSensor_60 : decode cX5_addSensor 60 = .ok (.iaload, 1) := by decide +kernel
theorem dX5_addSensor_61 : decode cX5_addSensor 61 = .ok (.istore 4, 2) := by decide +kernel
theorem dX5_addSensor_63 : decode cX5_addSensor 63 = .ok (.aload_n 0, 1) := by decide +kernel
theorem dX5_addSensor_64 : decode cX5_addSensor 64 = .ok (.iload 4, 2) := by decide +kernel
theorem dX5_addSensor_66 : decode cX5_addSensor 66 = .ok (.iconst 0, 1) := by decide +kernel
theorem dX5_addSensor_67 : decode cX5_addSensor 67 = .ok (.iload_n 1, 1) := by decide +kernel
theorem dX5_addSensor_68 : decode cX5_addSensor 68 = .ok (.invokevirtual 51, 3) := by decide +kernel
theorem dX5_addSensor_71 : decode cX5_addSensor 71 = .ok (.aload_n 0, 1) := by decide +kernel
theorem dX5_addSensor_72 : decode cX5_addSensor 72 = .ok (.iload 4, 2) := by decide +kernel
theorem dX5_addSensor_74 : decode cX5_addSensor 74 = .ok (.iconst 1, 1) := by decide +kernel
theorem dX5_addSensor_75 : decode cX5_addSensor 75 = .ok (.iload_n 2, 1) := by decide +kernel
theorem dX5_addSensor_76 : decode cX5_addSensor 76 = .ok (.invokevirtual 51, 3) := by decide +kernel
theorem dX5_addSensor_79 : decode cX5_addSensor 79 = .ok (.aload_n 0, 1) := by decide +kernel
theorem dX5_addSensor_80 : decode cX5_addSensor 80 = .ok (.iload 4, 2) := by decide +kernel
theorem dX5_addSensor_82 : decode cX5_addSensor 82 = .ok (.iconst 2, 1) := by decide +kernel
theorem dX5_addSensor_83 : decode cX5_addSensor 83 = .ok (.iload_n 3, 1) := by decide +kernel
theorem dX5_addSensor_84 : decode cX5_addSensor 84 = .ok (.invokevirtual 51, 3) := by decide +kernel
theorem dX5_addSensor_87 : decode cX5_addSensor 87 = .ok (.aload_n 0, 1) := by decide +kernel
theorem dX5_addSensor_88 : decode cX5_addSensor 88 = .ok (.iload 4, 2) := by decide +kernel
theorem dX5_addSensor_90 : decode cX5_addSensor 90 = .ok (.iconst 3, 1) := by decide +kernel
theorem dX5_addSensor_91 : decode cX5_addSensor 91 = .ok (.iconst 1, 1) := by decide +kernel
theorem dX5_addSensor_92 : decode cX5_addSensor 92 = .ok (.invokevirtual 51, 3) := by decide +kernel
theorem dX5_addSensor_95 : decode cX5_addSensor 95 = .ok (.aload_n 0, 1) := by decide +kernel
theorem dX5_addSensor_96 : decode cX5_addSensor 96 = .ok (.iload 4, 2) := by decide +kernel
theorem dX5_addSensor_98 : decode cX5_addSensor 98 = .ok (.iconst 4, 1) := by decide +kernel
theorem dX5_addSensor_99 : decode cX5_addSensor 99 = .ok (.iconst 1, 1) := by decide +kernel
theorem dX5_addSensor_100 : decode cX5_addSensor 100 = .ok (.invokevirtual 51, 3) := by decide +kernel
theorem dX5_addSensor_103 : decode cX5_addSensor 103 = .ok (.aload_n 0, 1) := by decide +kernel
theorem dX5_addSensor_104 : decode cX5_addSensor 104 = .ok (.iload 4, 2) := by decide +kernel
theorem dX5_addSensor_106 : decode cX5_addSensor 106 = .ok (.iconst 5, 1) := by decide +kernel
theorem dX5_addSensor_107 : decode cX5_addSensor 107 = .ok (.iconst 0, 1) := by decide +kernel
theorem dX5_addSensor_108 : decode cX5_addSensor 108 = .ok (.invokevirtual 51, 3) := by decide +kernel
theorem dX5_addSensor_111 : decode cX5_addSensor 111 = .ok (.aload_n 0, 1) := by decide +kernel
theorem dX5_addSensor_112 : decode cX5_addSensor 112 = .ok (.iload 4, 2) := by decide +kernel
theorem dX5_addSensor_114 : decode cX5_addSensor 114 = .ok (.bipush 6, 2) := by decide +kernel
theorem dX5_addSensor_116 : decode cX5_addSensor 116 = .ok (.bipush (-9), 2) := by decide +kernel
theorem dX5_addSensor_118 : decode cX5_addSensor 118 = .ok (.invokevirtual 51, 3) := by decide +kernel
theorem dX5_addSensor_121 : decode cX5_addSensor 121 = .ok (.aload_n 0, 1) := by decide +kernel
theorem dX5_addSensor_122 : decode cX5_addSensor 122 = .ok (.iload 4, 2) := by decide +kernel
theorem dX5_addSensor_124 : decode cX5_addSensor 124 = .ok (.bipush 7, 2) := by decide +kernel
theorem dX5_addSensor_126 : decode cX5_addSensor 126 = .ok (.bipush (-9), 2) := by decide +kernel
theorem dX5_addSensor_128 : decode cX5_addSensor 128 = .ok (.invokevirtual 51, 3) := by decide +kernel
theorem dX5_addSensor_131 : decode cX5_addSensor 131 = .ok (.aload_n 0, 1) := by decide +kernel
theorem dX5_addSensor_132 : decode cX5_addSensor 132 = .ok (.iload 4, 2) := by decide +kernel
theorem dX5_addSensor_134 : decode cX5_addSensor 134 = .ok (.bipush 8, 2) := by decide +kernel
theorem dX5_addSensor_136 : decode cX5_addSensor 136 = .ok (.bipush (-9), 2) := by decide +kernel
theorem dX5_addSensor_138 : decode cX5_addSensor 138 = .ok (.invokevirtual 51, 3) := by decide +kernel
theorem dX5_addSensor_141 : decode cX5_addSensor 141 = .ok (.aload_n 0, 1) := by decide +kernel
theorem dX5_addSensor_142 : decode cX5_addSensor 142 = .ok (.getfield 7, 3) := by decide +kernel
theorem dX5_addSensor_145 : decode cX5_addSensor 145 = .ok (.iconst 0, 1) := by decide +kernel
theorem dX5_addSensor_146 : decode cX5_addSensor 146 = .ok (.dup2, 1) := by decide +kernel
theorem dX5_addSensor_147 : decode cX5_addSensor 147 = .ok (.iaload, 1) := by decide +kernel
theorem dX5_addSensor_148 : decode cX5_addSensor 148 = .ok (.iconst 1, 1) := by decide +kernel
theorem dX5_addSensor_149 : decode cX5_addSensor 149 = .ok (.iadd, 1) := by decide +kernel
theorem dX5_addSensor_150 : decode cX5_addSensor 150 = .ok (.iastore, 1) := by decide +kernel
theorem dX5_addSensor_151 : decode cX5_addSensor 151 = .ok (.iload 4, 2) := by decide +kernel
theorem dX5_addSensor_153 : decode cX5_addSensor 153 = .ok (.ireturn, 1) := by decide +kernel
set_option maxRecDepth 20000 in
theorem ggX5_moveBase_X5_in : GoodIn wsX5_moveBase wsX5_in := goodIn_r _ [6] (by decide +kernel) (by decide +kernel)
set_option maxRecDepth 20000 in
theorem gX5_moveBase_X5_in : GoodIn wsX5_moveBase (va_wsS RX5 39 yX5_in wsX5_in) := goodIn_app (goodIn_of _ (by decide +kernel)) ggX5_moveBase_X5_in
set_option maxRecDepth 20000 in
theorem ggX5_moveBase_X5_keep : GoodIn wsX5_moveBase wsX5_keep := goodIn_r _ [10, 11, 12, 2, 13, 14, 15, 16, 17, 18, 19, 20, 21] (by decide +kernel) (by decide +kernel)
set_option maxRecDepth 20000 in
theorem gX5_moveBase_X5_keep : GoodIn wsX5_moveBase (wsV RX5 48 RX5 yX5_keep wsX5_keep) := goodIn_app (goodIn_of _ (by decide +kernel)) ggX5_moveBase_X5_keep
theorem dX5_moveBase_0 : decode cX5_moveBase 0 = .ok (.aload_n 0, 1) := by decide +kernel
theorem dX5_moveBase_1 : decode cX5_moveBase 1 = .ok (.iconst 0, 1) := by decide +kernel
theorem dX5_moveBase_2 : decode cX5_moveBase 2 = .ok (.putfield 32, 3) := by decide +kernel
theorem dX5_moveBase_5 : decode cX5_moveBase 5 = .ok (.iload_n 1, 1) := by decide +kernel
theorem dX5_moveBase_6 : decode cX5_moveBase 6 = .ok (.iconst 0, 1) := by decide +kernel
theorem dX5_moveBase_7 : decode cX5_moveBase 7 = .ok (.sipush 199, 3) := by decide +kernel
theorem dX5_moveBase_10 : decode cX5_moveBase 10 = .ok (.invokestatic 39, 3) := by decide +kernel
theorem dX5_moveBase_13 : decode cX5_moveBase 13 = .ok (.ifCond .eq 14, 3) := by decide +kernel
theorem dX5_moveBase_16 : decode cX5_moveBase 16 = .ok (.iload_n 2, 1) := by decide +kernel
theorem dX5_moveBase_17 : decode cX5_moveBase 17 = .ok (.iconst 0, 1) := by decide +kernel
theorem dX5_moveBase_18 : decode cX5_moveBase 18 = .ok (.sipush 199, 3) := by decide +kernel
theorem dX5_moveBase_21 : decode cX5_moveBase 21 = .ok (.invokestatic 39, 3) := by decide +kernel
theorem dX5_moveBase_24 : decode cX5_moveBase 24 = .ok (.ifCond .ne 5, 3) := by decide +kernel
theorem dX5_moveBase_27 : decode cX5_moveBase 27 = .ok (.iconst (-1), 1) := by decide +kernel
theorem dX5_moveBase_28 : decode cX5_moveBase 28 = .ok (.ireturn, 1) := by decide +kernel
theorem dX5_moveBase_29 : decode cX5_moveBase 29 = .ok (.aload_n 0, 1) := by decide +kernel
theorem dX5_moveBase_30 : decode cX5_moveBase 30 = .ok (.invokevirtual 48, 3) := by decide +kernel
theorem dX5_moveBase_33 : decode cX5_moveBase 33 = .ok (.sipush 200, 3) := by decide +kernel
theorem dX5_moveBase_36 : decode cX5_moveBase 36 = .ok (.aload_n 0, 1) := by decide +kernel
theorem dX5_moveBase_37 : decode cX5_moveBase 37 = .ok (.getfield 7, 3) := by decide +kernel
theorem dX5_moveBase_40 : decode cX5_moveBase 40 = .ok (.iconst 1, 1) := by decide +kernel
theorem dX5_moveBase_41 : decode cX5_moveBase 41 = .ok (.iaload, 1) := by decide +kernel
theorem dX5_moveBase_42 : decode cX5_moveBase 42 = .ok (.imul, 1) := by decide +kernel
theorem dX5_moveBase_43 : decode cX5_moveBase 43 = .ok (.aload_n 0, 1) := by decide +kernel
theorem dX5_moveBase_44 : decode cX5_moveBase 44 = .ok (.getfield 7, 3) := by decide +kernel
theorem dX5_moveBase_47 : decode cX5_moveBase 47 = .ok (.iconst 2, 1) := by decide +kernel
theorem dX5_moveBase_48 : decode cX5_moveBase 48 = .ok (.iaload, 1) := by decide +kernel
theorem dX5_moveBase_49 : decode cX5_moveBase 49 = .ok (.iadd, 1) := by decide +kernel
theorem dX5_moveBase_50 : decode cX5_moveBase 50 = .ok (.istore_n 3, 1) := by decide +kernel
theorem dX5_moveBase_51 : decode cX5_moveBase 51 = .ok (.aload_n 0, 1) := by decide +kernel
theorem dX5_moveBase_52 : decode cX5_moveBase 52 = .ok (.getfield 7, 3) := by decide +kernel
theorem dX5_moveBase_55 : decode cX5_moveBase 55 = .ok (.iconst 1, 1) := by decide +kernel
theorem dX5_moveBase_56 : decode cX5_moveBase 56 = .ok (.iload_n 1, 1) := by decide +kernel
theorem dX5_moveBase_57 : decode cX5_moveBase 57 = .ok (.iastore, 1) := by decide +kernel
theorem dX5_moveBase_58 : decode cX5_moveBase 58 = .ok (.aload_n 0, 1) := by decide +kernel
theorem dX5_moveBase_59 : decode cX5_moveBase 59 = .ok (.getfield 7, 3) := by decide +kernel
theorem dX5_moveBase_62 : decode cX5_moveBase 62 = .ok (.iconst 2, 1) := by decide +kernel
theorem dX5_moveBase_63 : decode cX5_moveBase 63 = .ok (.iload_n 2, 1) := by decide +kernel
theorem dX5_moveBase_64 : decode cX5_moveBase 64 = .ok (.iastore, 1) := by decide +kernel
theorem dX5_moveBase_65 : decode cX5_moveBase 65 = .ok (.iload_n 3, 1) := by decide +kernel
theorem dX5_moveBase_66 : decode cX5_moveBase 66 = .ok (.ireturn, 1) := by decide +kernel
set_option maxRecDepth 20000 in
theorem ggX5_isSettingValue_X5_in : GoodIn wsX5_isSettingValue wsX5_in := goodIn_r _ [4] (by decide +kernel) (by decide +kernel)
set_option maxRecDepth 20000 in
theorem gX5_isSettingValue_X5_in : GoodIn wsX5_isSettingValue (va_wsS RX5 39 yX5_in wsX5_in) := goodIn_app (goodIn_of _ (by decide +kernel)) ggX5_isSettingValue_X5_in
theorem dX5_isSettingValue_0 : decode cX5_isSettingValue 0 = .ok (.iload_n 0, 1) := by decide +kernel
theorem dX5_isSettingValue_1 : decode cX5_isSettingValue 1 = .ok (.tableswitch 76 0 4 #[35, 43, 51, 60, 68], 35) := by decide +kernel
theorem dX5_isSettingValue_36 : decode cX5_isSettingValue 36 = .ok (.iload_n 1, 1) := by decide +kernel
theorem dX5_isSettingValue_37 : decode cX5_isSettingValue 37 = .ok (.iconst 2, 1) := by decide +kernel
theorem dX5_isSettingValue_38 : decode cX5_isSettingValue 38 = .ok (.bipush 8, 2) := by decide +kernel
theorem dX5_isSettingValue_40 : decode cX5_isSettingValue 40 = .ok (.invokestatic 39, 3) := by decide +kernel
theorem dX5_isSettingValue_43 : decode cX5_isSettingValue 43 = .ok (.ireturn, 1) := by decide +kernel
theorem dX5_isSettingValue_44 : decode cX5_isSettingValue 44 = .ok (.iload_n 1, 1) := by decide +kernel
theorem dX5_isSettingValue_45 : decode cX5_isSettingValue 45 = .ok (.iconst 1, 1) := by decide +kernel
theorem dX5_isSettingValue_46 : decode cX5_isSettingValue 46 = .ok (.bipush 50, 2) := by decide +kernel
theorem dX5_isSettingValue_48 : decode cX5_isSettingValue 48 = .ok (.invokestatic 39, 3) := by decide +kernel
theorem dX5_isSettingValue_51 : decode cX5_isSettingValue 51 = .ok (.ireturn, 1) := by decide +kernel
theorem dX5_isSettingValue_52 : decode cX5_isSettingValue 52 = .ok (.iload_n 1, 1) := by decide +kernel
theorem dX5_isSettingValue_53 : decode cX5_isSettingValue 53 = .ok (.iconst 1, 1) := by decide +kernel
theorem dX5_isSettingValue_54 : decode cX5_isSettingValue 54 = .ok (.sipush 1000, 3) := by decide +kernel
theorem dX5_isSettingValue_57 : decode cX5_isSettingValue 57 = .ok (.invokestatic 39, 3) := by decide +kernel
theorem dX5_isSettingValue_60 : decode cX5_isSettingValue 60 = .ok (.ireturn, 1) := by decide +kernel
theorem dX5_isSettingValue_61 : decode cX5_isSettingValue 61 = .ok (.iload_n 1, 1) := by decide +kernel
theorem dX5_isSettingValue_62 : decode cX5_isSettingValue 62 = .ok (.iconst 0, 1) := by decide +kernel
theorem dX5_isSettingValue_63 : decode cX5_isSettingValue 63 = .ok (.bipush 20, 2) := by decide +kernel
theorem dX5_isSettingValue_65 : decode cX5_isSettingValue 65 = .ok (.invokestatic 39, 3) := by decide +kernel
theorem dX5_isSettingValue_68 : decode cX5_isSettingValue 68 = .ok (.ireturn, 1) := by decide +kernel
theorem dX5_isSettingValue_69 : decode cX5_isSettingValue 69 = .ok (.iload_n 1, 1) := by decide +kernel
theorem dX5_isSettingValue_70 : decode cX5_isSettingValue 70 = .ok (.iconst 0, 1) := by decide +kernel
theorem dX5_isSettingValue_71 : decode cX5_isSettingValue 71 = .ok (.bipush 50, 2) := by decide +kernel
theorem dX5_isSettingValue_73 : decode cX5_isSettingValue 73 = .ok (.invokestatic 39, 3) := by decide +kernel
theorem dX5_isSettingValue_76 : decode cX5_isSettingValue 76 = .ok (.ireturn, 1) := by decide +kernel
theorem dX5_isSettingValue_77 : decode cX5_isSettingValue 77 = .ok (.iload_n 0, 1) := by decide +kernel
theorem dX5_isSettingValue_78 : decode cX5_isSettingValue 78 = .ok (.iconst 5, 1) := by decide +kernel
theorem dX5_isSettingValue_79 : decode cX5_isSettingValue 79 = .ok (.if_icmp .ne 16, 3) := by decide +kernel
theorem dX5_isSettingValue_82 : decode cX5_isSettingValue 82 = .ok (.iload_n 1, 1) := by decide +kernel
theorem dX5_isSettingValue_83 : decode cX5_isSettingValue 83 = .ok (.iconst 0, 1) := by decide +kernel
theorem dX5_isSettingValue_84 : decode cX5_isSettingValue 84 = .ok (.iconst 1, 1) := by decide +kernel
theorem dX5_isSettingValue_85 : decode cX5_isSettingValue 85 = .ok (.invokestatic 39, 3) := by decide +kernel
theorem dX5_isSettingValue_88 : decode cX5_isSettingValue 88 = .ok (.ifCond .eq 7, 3) := by decide +kernel
theorem dX5_isSettingValue_91 : decode cX5_isSettingValue 91 = .ok (.iconst 1, 1) := by decide +kernel
theorem dX5_isSettingValue_92 : decode cX5_isSettingValue 92 = .ok (.goto 4, 3) := by decide +kernel
theorem dX5_isSettingValue_95 : decode cX5_isSettingValue 95 = .ok (.iconst 0, 1) := by decide +kernel
theorem dX5_isSettingValue_96 : decode cX5_isSettingValue 96 = .ok (.ireturn, 1) := by decide +kernel
set_option maxRecDepth 20000 in
theorem ggX5_setSetting_X5_isSettingValue : GoodIn wsX5_setSetting wsX5_isSettingValue := goodIn_r _ [6, 7, 8, 5, 9] (by decide +kernel) (by decide +kernel)
set_option maxRecDepth 20000 in
theorem gX5_setSetting_X5_isSettingValue : GoodIn wsX5_setSetting (va_wsS RX5 55 yX5_isSettingValue wsX5_isSettingValue) := goodIn_app (goodIn_of _ (by decide +kernel)) ggX5_setSetting_X5_isSettingValue
set_option maxRecDepth 20000 in
theorem ggX5_setSetting_X5_keep : GoodIn wsX5_setSetting wsX5_keep := goodIn_r _ [13, 14, 15, 2, 16, 17, 18, 19, 20, 21, 22, 23, 24] (by decide +kernel) (by decide +kernel)
set_option maxRecDepth 20000 in
theorem gX5_setSetting_X5_keep : GoodIn wsX5_setSetting (wsV RX5 48 RX5 yX5_keep wsX5_keep) := goodIn_app (goodIn_of _ (by decide +kernel)) ggX5_setSetting_X5_keep
theorem dX5_setSetting_0 : decode cX5_setSetting 0 = .ok (.aload_n 0, 1) := by decide +kernel
theorem dX5_setSetting_1 : decode cX5_setSetting 1 = .ok (.iconst 0, 1) := by decide +kernel
theorem dX5_setSetting_2 : decode cX5_setSetting 2 = .ok (.putfield 32, 3) := by decide +kernel
theorem dX5_setSetting_5 : decode cX5_setSetting 5 = .ok (.iload_n 1, 1) := by decide +kernel
theorem dX5_setSetting_6 : decode cX5_setSetting 6 = .ok (.iload_n 2, 1) := by decide +kernel
theorem dX5_setSetting_7 : decode cX5_setSetting 7 = .ok (.invokestatic 55, 3) := by decide +kernel
theorem dX5_setSetting_10 : decode cX5_setSetting 10 = .ok (.ifCond .ne 5, 3) := by decide +kernel
theorem dX5_setSetting_13 : decode cX5_setSetting 13 = .ok (.iconst (-1), 1) := by decide +kernel
theorem dX5_setSetting_14 : decode cX5_setSetting 14 = .ok (.ireturn, 1) := by decide +kernel
theorem dX5_setSetting_15 : decode cX5_setSetting 15 = .ok (.aload_n 0, 1) := by decide +kernel
theorem dX5_setSetting_16 : decode cX5_setSetting 16 = .ok (.getfield 7, 3) := by decide +kernel
theorem dX5_setSetting_19 : decode cX5_setSetting 19 = .ok (.iconst 3, 1) := by decide +kernel
theorem dX5_setSetting_20 : decode cX5_setSetting 20 = .ok (.iload_n 1, 1) := by decide +kernel
theorem dX5_setSetting_21 : decode cX5_setSetting 21 = .ok (.iadd, 1) := by decide +kernel
theorem dX5_setSetting_22 : decode cX5_setSetting 22 = .ok (.iaload, 1) := by decide +kernel
theorem dX5_setSetting_23 : decode cX5_setSetting 23 = .ok (.istore_n 3, 1) := by decide +kernel
theorem dX5_setSetting_24 : decode cX5_setSetting 24 = .ok (.iload_n 3, 1) := by decide +kernel
theorem dX5_setSetting_25 : decode cX5_setSetting 25 = .ok (.iload_n 2, 1) := by decide +kernel
theorem dX5_setSetting_26 : decode cX5_setSetting 26 = .ok (.if_icmp .ne 6, 3) := by decide +kernel
theorem dX5_setSetting_29 : decode cX5_setSetting 29 = .ok (.bipush (-2), 2) := by decide +kernel
theorem dX5_setSetting_31 : decode cX5_setSetting 31 = .ok (.ireturn, 1) := by decide +kernel
theorem dX5_setSetting_32 : decode cX5_setSetting 32 = .ok (.aload_n 0, 1) := by decide +kernel
theorem dX5_setSetting_33 : decode cX5_setSetting 33 = .ok (.invokevirtual 48, 3) := by decide +kernel
theorem dX5_setSetting_36 : decode cX5_setSetting 36 = .ok (.aload_n 0, 1) := by decide +kernel
theorem dX5_setSetting_37 : decode cX5_setSetting 37 = .ok (.getfield 7, 3) := by decide +kernel
theorem dX5_setSetting_40 : decode cX5_setSetting 40 = .ok (.iconst 3, 1) := by decide +kernel
theorem dX5_setSetting_41 : decode cX5_setSetting 41 = .ok (.iload_n 1, 1) := by decide +kernel
theorem dX5_setSetting_42 : decode cX5_setSetting 42 = .ok (.iadd, 1) := by decide +kernel
theorem dX5_setSetting_43 : decode cX5_setSetting 43 = .ok (.iload_n 2, 1) := by decide +kernel
theorem dX5_setSetting_44 : decode cX5_setSetting 44 = .ok (.iastore, 1) := by decide +kernel
theorem dX5_setSetting_45 : decode cX5_setSetting 45 = .ok (.iload_n 3, 1) := by decide +kernel
theorem dX5_setSetting_46 : decode cX5_setSetting 46 = .ok (.ireturn, 1) := by decide +kernel
set_option maxRecDepth 20000 in
theorem ggX5_setGenerator_X5_keep : GoodIn wsX5_setGenerator wsX5_keep := goodIn_r _ [7, 8, 9, 2, 10, 11, 12, 13, 14, 15, 16, 17, 18] (by decide +kernel) (by decide +kernel)
set_option maxRecDepth 20000 in
theorem gX5_setGenerator_X5_keep : GoodIn wsX5_setGenerator (wsV RX5 48 RX5 yX5_keep wsX5_keep) := goodIn_app (goodIn_of _ (by decide +kernel)) ggX5_setGenerator_X5_keep
theorem dX5_setGenerator_0 : decode cX5_setGenerator 0 = .ok (.aload_n 0, 1) := by decide +kernel
theorem dX5_setGenerator_1 : decode cX5_setGenerator 1 = .ok (.iconst 0, 1) := by decide +kernel
theorem dX5_setGenerator_2 : decode cX5_setGenerator 2 = .ok (.putfield 32, 3) := by decide +kernel
theorem dX5_setGenerator_5 : decode cX5_setGenerator 5 = .ok (.iload_n 1, 1) := by decide +kernel
theorem dX5_setGenerator_6 : decode cX5_setGenerator 6 = .ok (.ifCond .ge 5, 3) := by decide +kernel
theorem dX5_setGenerator_9 : decode cX5_setGenerator 9 = .ok (.iconst (-1), 1) := by decide +kernel
theorem dX5_setGenerator_10 : decode cX5_setGenerator 10 = .ok (.ireturn, 1) := by decide +kernel
theorem dX5_setGenerator_11 : decode cX5_setGenerator 11 = .ok (.aload_n 0, 1) := by decide +kernel
theorem dX5_setGenerator_12 : decode cX5_setGenerator 12 = .ok (.invokevirtual 48, 3) := by decide +kernel
theorem dX5_setGenerator_15 : decode cX5_setGenerator 15 = .ok (.aload_n 0, 1) := by decide +kernel
theorem dX5_setGenerator_16 : decode cX5_setGenerator 16 = .ok (.getfield 7, 3) := by decide +kernel
theorem dX5_setGenerator_19 : decode cX5_setGenerator 19 = .ok (.bipush 9, 2) := by decide +kernel
theorem dX5_setGenerator_21 : decode cX5_setGenerator 21 = .ok (.iload_n 1, 1) := by decide +kernel
theorem dX5_setGenerator_22 : decode cX5_setGenerator 22 = .ok (.iastore, 1) := by decide +kernel
theorem dX5_setGenerator_23 : decode cX5_setGenerator 23 = .ok (.aload_n 0, 1) := by decide +kernel
theorem dX5_setGenerator_24 : decode cX5_setGenerator 24 = .ok (.getfield 7, 3) := by decide +kernel
theorem dX5_setGenerator_27 : decode cX5_setGenerator 27 = .ok (.bipush 10, 2) := by decide +kernel
theorem dX5_setGenerator_29 : decode cX5_setGenerator 29 = .ok (.iaload, 1) := by decide +kernel
theorem dX5_setGenerator_30 : decode cX5_setGenerator 30 = .ok (.ireturn, 1) := by decide +kernel
set_option maxRecDepth 20000 in
theorem ggX5_charge_X5_isSensor : GoodIn wsX5_charge wsX5_isSensor := goodIn_r _ [8, 9, 10, 11, 7, 12, 31, 32, 33, 34, 35, 36, 37, 38, 39] (by decide +kernel) (by decide +kernel)
set_option maxRecDepth 20000 in
theorem gX5_charge_X5_isSensor : GoodIn wsX5_charge (wsV RX5 59 RX5 yX5_isSensor wsX5_isSensor) := goodIn_app (goodIn_of _ (by decide +kernel)) ggX5_charge_X5_isSensor
set_option maxRecDepth 20000 in
theorem ggX5_charge_X5_in : GoodIn wsX5_charge wsX5_in := goodIn_r _ [12] (by decide +kernel) (by decide +kernel)
set_option maxRecDepth 20000 in
theorem gX5_charge_X5_in : GoodIn wsX5_charge (va_wsS RX5 39 yX5_in wsX5_in) := goodIn_app (goodIn_of _ (by decide +kernel)) ggX5_charge_X5_in
set_option maxRecDepth 20000 in
theorem ggX5_charge_X5_lives : GoodIn wsX5_charge wsX5_lives := goodIn_r _ [16, 17, 18, 19, 7, 20, 9, 31, 32, 33, 34, 35, 36, 37, 38, 39] (by decide +kernel) (by decide +kernel)
set_option maxRecDepth 20000 in
theorem gX5_charge_X5_lives : GoodIn wsX5_charge (wsV RX5 63 RX5 yX5_lives wsX5_lives) := goodIn_app (goodIn_of _ (by decide +kernel)) ggX5_charge_X5_lives
set_option maxRecDepth 20000 in
theorem ggX5_charge_X5_of : GoodIn wsX5_charge wsX5_of := goodIn_r _ [20, 9, 31, 32, 33, 34, 35, 36, 37, 38, 39] (by decide +kernel) (by decide +kernel)
set_option maxRecDepth 20000 in
theorem gX5_charge_X5_of : GoodIn wsX5_charge (wsV RX5 43 RX5 yX5_of wsX5_of) := goodIn_app (goodIn_of _ (by decide +kernel)) ggX5_charge_X5_of
set_option maxRecDepth 20000 in
theorem ggX5_charge_X5_keep : GoodIn wsX5_charge wsX5_keep := goodIn_r _ [24, 25, 26, 9, 31, 32, 33, 34, 35, 36, 37, 38, 39] (by decide +kernel) (by decide +kernel)
set_option maxRecDepth 20000 in
theorem gX5_charge_X5_keep : GoodIn wsX5_charge (wsV RX5 48 RX5 yX5_keep wsX5_keep) := goodIn_app (goodIn_of _ (by decide +kernel)) ggX5_charge_X5_keep
set_option maxRecDepth 20000 in
theorem ggX5_charge_X5_set : GoodIn wsX5_charge wsX5_set := goodIn_r _ [30, 9, 31, 32, 33, 34, 35, 36, 37, 38, 39] (by decide +kernel) (by decide +kernel)
set_option maxRecDepth 20000 in
theorem gX5_charge_X5_set : GoodIn wsX5_charge (wsV RX5 51 RX5 yX5_set wsX5_set) := goodIn_app (goodIn_of _ (by decide +kernel)) ggX5_charge_X5_set
theorem dX5_charge_0 : decode cX5_charge 0 = .ok (.aload_n 0, 1) := by decide +kernel
theorem dX5_charge_1 : decode cX5_charge 1 = .ok (.iconst 0, 1) := by decide +kernel
theorem dX5_charge_2 : decode cX5_charge 2 = .ok (.putfield 32, 3) := by decide +kernel
theorem dX5_charge_5 : decode cX5_charge 5 = .ok (.aload_n 0, 1) := by decide +kernel
theorem dX5_charge_6 : decode cX5_charge 6 = .ok (.iload_n 1, 1) := by decide +kernel
theorem dX5_charge_7 : decode cX5_charge 7 = .ok (.invokevirtual 59, 3) := by decide +kernel
theorem dX5_charge_10 : decode cX5_charge 10 = .ok (.ifCond .eq 13, 3) := by decide +kernel
theorem dX5_charge_13 : decode cX5_charge 13 = .ok (.iload_n 2, 1) := by decide +kernel
theorem dX5_charge_14 : decode cX5_charge 14 = .ok (.iconst 1, 1) := by decide +kernel
theorem dX5_charge_15 : decode cX5_charge 15 = .ok (.ldc 47, 2) := by decide +kernel
theorem dX5_charge_17 : decode cX5_charge 17 = .ok (.invokestatic 39, 3) := by decide +kernel
theorem dX5_charge_20 : decode cX5_charge 20 = .ok (.ifCond .ne 5, 3) := by decide +kernel
theorem dX5_charge_23 : decode cX5_charge 23 = .ok (.iconst (-1), 1) := by decide +kernel
theorem dX5_charge_24 : decode cX5_charge 24 = .ok (.ireturn, 1) := by decide +kernel
theorem dX5_charge_25 : decode cX5_charge 25 = .ok (.aload_n 0, 1) := by decide +kernel
theorem dX5_charge_26 : decode cX5_charge 26 = .ok (.iload_n 1, 1) := by decide +kernel
theorem dX5_charge_27 : decode cX5_charge 27 = .ok (.invokevirtual 63, 3) := by decide +kernel
theorem dX5_charge_30 : decode cX5_charge 30 = .ok (.ifCond .eq 16, 3) := by decide +kernel
theorem dX5_charge_33 : decode cX5_charge 33 = .ok (.aload_n 0, 1) := by decide +kernel
theorem dX5_charge_34 : decode cX5_charge 34 = .ok (.iload_n 1, 1) := by decide +kernel
theorem dX5_charge_35 : decode cX5_charge 35 = .ok (.iconst 2, 1) := by decide +kernel
theorem dX5_charge_36 : decode cX5_charge 36 = .ok (.invokevirtual 43, 3) := by decide +kernel
theorem dX5_charge_39 : decode cX5_charge 39 = .ok (.iload_n 2, 1) := by decide +kernel
theorem dX5_charge_40 : decode cX5_charge 40 = .ok (.iadd, 1) := by decide +kernel
theorem dX5_charge_41 : decode cX5_charge 41 = .ok (.ldc 66, 2) := by decide +kernel
theorem dX5_charge_43 : decode cX5_charge 43 = .ok (.if_icmp .le 6, 3) := by decide +kernel
theorem dX5_charge_46 : decode cX5_charge 46 = .ok (.bipush (-2), 2) := by decide +kernel
theorem dX5_charge_48 : decode cX5_charge 48 = .ok (.ireturn, 1) := by decide +kernel
theorem dX5_charge_49 : decode cX5_charge 49 = .ok (.aload_n 0, 1) := by decide +kernel
theorem dX5_charge_50 : decode cX5_charge 50 = .ok (.invokevirtual 48, 3) := by decide +kernel
theorem dX5_charge_53 : decode cX5_charge 53 = .ok (.aload_n 0, 1) := by decide +kernel
theorem dX5_charge_54 : decode cX5_charge 54 = .ok (.iload_n 1, 1) := by decide +kernel
theorem dX5_charge_55 : decode cX5_charge 55 = .ok (.iconst 2, 1) := by decide +kernel
theorem dX5_charge_56 : decode cX5_charge 56 = .ok (.aload_n 0, 1) := by decide +kernel
theorem dX5_charge_57 : decode cX5_charge 57 = .ok (.iload_n 1, 1) := by decide +kernel
theorem dX5_charge_58 : decode cX5_charge 58 = .ok (.iconst 2, 1) := by decide +kernel
theorem dX5_charge_59 : decode cX5_charge 59 = .ok (.invokevirtual 43, 3) := by decide +kernel
theorem dX5_charge_62 : decode cX5_charge 62 = .ok (.iload_n 2, 1) := by decide +kernel
theorem dX5_charge_63 : decode cX5_charge 63 = .ok (.iadd, 1) := by decide +kernel
theorem dX5_charge_64 : decode cX5_charge 64 = .ok (.invokevirtual 51, 3) := by decide +kernel
theorem dX5_charge_67 : decode cX5_charge 67 = .ok (.aload_n 0, 1) := by decide +kernel
theorem dX5_charge_68 : decode cX5_charge 68 = .ok (.iload_n 1, 1) := by decide +kernel
theorem dX5_charge_69 : decode cX5_charge 69 = .ok (.iconst 2, 1) := by decide +kernel
theorem dX5_charge_70 : decode cX5_charge 70 = .ok (.invokevirtual 43, 3) := by decide +kernel
theorem dX5_charge_73 : decode cX5_charge 73 = .ok (.ireturn, 1) := by decide +kernel
set_option maxRecDepth 20000 in
theorem ggX5_distanceTo_X5_of : GoodIn wsX5_distanceTo wsX5_of := goodIn_r _ [5, 6, 7, 8, 9, 10, 11, 12, 13, 14, 15] (by decide +kernel) (by decide +kernel)
set_option maxRecDepth 20000 in
theorem gX5_distanceTo_X5_of : GoodIn wsX5_distanceTo (wsV RX5 43 RX5 yX5_of wsX5_of) := goodIn_app (goodIn_of _ (by decide +kernel)) ggX5_distanceTo_X5_of
theorem dX5_distanceTo_0 : decode cX5_distanceTo 0 = .ok (.aload_n 0, 1) := by decide +kernel
theorem dX5_distanceTo_1 : decode cX5_distanceTo 1 = .ok (.iload_n 1, 1) := by decide +kernel
theorem dX5_distanceTo_2 : decode cX5_distanceTo 2 = .ok (.iconst 0, 1) := by decide +kernel
theorem dX5_distanceTo_3 : decode cX5_distanceTo 3 = .ok (.invokevirtual 43, 3) := by decide +kernel
theorem dX5_distanceTo_6 : decode cX5_distanceTo 6 = .ok (.iload_n 2, 1) := by decide +kernel
theorem dX5_distanceTo_7 : decode cX5_distanceTo 7 = .ok (.isub, 1) := by decide +kernel
theorem dX5_distanceTo_8 : decode cX5_distanceTo 8 = .ok (.istore 4, 2) := by decide +kernel
theorem dX5_distanceTo_10 : decode cX5_distanceTo 10 = .ok (.aload_n 0, 1) := by decide +kernel
theorem dX5_distanceTo_11 : decode cX5_distanceTo 11 = .ok (.iload_n 1, 1) := by decide +kernel
theorem dX5_distanceTo_12 : decode cX5_distanceTo 12 = .ok (.iconst 1, 1) := by decide +kernel
theorem dX5_distanceTo_13 : decode cX5_distanceTo 13 = .ok (.invokevirtual 43, 3) := by decide +kernel
theorem dX5_distanceTo_16 : decode cX5_distanceTo 16 = .ok (.iload_n 3, 1) := by decide +kernel
theorem dX5_distanceTo_17 : decode cX5_distanceTo 17 = .ok (.isub, 1) := by decide +kernel
theorem dX5_distanceTo_18 : decode cX5_distanceTo 18 = .ok (.istore 5, 2) := by decide +kernel
theorem dX5_distanceTo_20 : decode cX5_distanceTo 20 = .ok (.iload 4, 2) := by decide +kernel
theorem dX5_distanceTo_22 : decode cX5_distanceTo 22 = .ok (.iload 4, 2) := by decide +kernel
theorem dX5_distanceTo_24 : decode cX5_distanceTo 24 = .ok (.imul, 1) := by decide +kernel
theorem dX5_distanceTo_25 : decode cX5_distanceTo 25 = .ok (.iload 5, 2) := by decide +kernel
theorem dX5_distanceTo_27 : decode cX5_distanceTo 27 = .ok (.iload 5, 2) := by decide +kernel
theorem dX5_distanceTo_29 : decode cX5_distanceTo 29 = .ok (.imul, 1) := by decide +kernel
theorem dX5_distanceTo_30 : decode cX5_distanceTo 30 = .ok (.iadd, 1) := by decide +kernel
theorem dX5_distanceTo_31 : decode cX5_distanceTo 31 = .ok (.ireturn, 1) := by decide +kernel
set_option maxRecDepth 20000 in
theorem ggX5_distance_X5_of : GoodIn wsX5_distance wsX5_of := goodIn_r _ [5, 6, 11, 12, 13, 14, 15, 16, 17, 18, 19] (by decide +kernel) (by decide +kernel)
set_option maxRecDepth 20000 in
theorem gX5_distance_X5_of : GoodIn wsX5_distance (wsV RX5 43 RX5 yX5_of wsX5_of) := goodIn_app (goodIn_of _ (by decide +kernel)) ggX5_distance_X5_of
set_option maxRecDepth 20000 in
theorem ggX5_distance_X5_distanceTo : GoodIn wsX5_distance wsX5_distanceTo := goodIn_r _ [10, 1, 2, 3, 4, 5, 6, 11, 12, 13, 14, 15, 16, 17, 18, 19] (by decide +kernel) (by decide +kernel)
set_option maxRecDepth 20000 in
theorem gX5_distance_X5_distanceTo : GoodIn wsX5_distance (wsV RX5 67 RX5 yX5_distanceTo wsX5_distanceTo) := goodIn_app (goodIn_of _ (by decide +kernel)) ggX5_distance_X5_distanceTo
theorem dX5_distance_0 : decode cX5_distance 0 = .ok (.aload_n 0, 1) := by decide +kernel
theorem dX5_distance_1 : decode cX5_distance 1 = .ok (.iload_n 1, 1) := by decide +kernel
theorem dX5_distance_2 : decode cX5_distance 2 = .ok (.aload_n 0, 1) := by decide +kernel
theorem dX5_distance_3 : decode cX5_distance 3 = .ok (.iload_n 2, 1) := by decide +kernel
theorem dX5_distance_4 : decode cX5_distance 4 = .ok (.iconst 0, 1) := by decide +kernel
theorem dX5_distance_5 : decode cX5_distance 5 = .ok (.invokevirtual 43, 3) := by decide +kernel
theorem dX5_distance_8 : decode cX5_distance 8 = .ok (.aload_n 0, 1) := by decide +kernel
theorem dX5_distance_9 : decode cX5_distance 9 = .ok (.iload_n 2, 1) := by decide +kernel
theorem dX5_distance_10 : decode cX5_distance 10 = .ok (.iconst 1, 1) := by decide +kernel
theorem dX5_distance_11 : decode cX5_distance 11 = .ok (.invokevirtual 43, 3) := by decide +kernel
theorem dX5_distance_14 : decode cX5_distance 14 = .ok (.invokevirtual 67, 3) := by decide +kernel
theorem dX5_distance_17 : decode cX5_distance 17 = .ok (.ireturn, 1) := by decide +kernel
set_option maxRecDepth 20000 in
theorem ggX5_distanceToBase_X5_distanceTo : GoodIn wsX5_distanceToBase wsX5_distanceTo := goodIn_r _ [6, 7, 8, 9, 5, 10, 1, 11, 12, 13, 14, 15, 16, 17, 18, 19] (by decide +kernel) (by decide +kernel)
set_option maxRecDepth 20000 in
theorem gX5_distanceToBase_X5_distanceTo : GoodIn wsX5_distanceToBase (wsV RX5 67 RX5 yX5_distanceTo wsX5_distanceTo) := goodIn_app (goodIn_of _ (by decide +kernel)) ggX5_distanceToBase_X5_distanceTo
theorem dX5_distanceToBase_0 : decode cX5_distanceToBase 0 = .ok (.aload_n 0, 1) := by decide +kernel
theorem dX5_distanceToBase_1 : decode cX5_distanceToBase 1 = .ok (.iload_n 1, 1) := by decide +kernel
theorem dX5_distanceToBase_2 : decode cX5_distanceToBase 2 = .ok (.aload_n 0, 1) := by decide +kernel
theorem dX5_distanceToBase_3 : decode cX5_distanceToBase 3 = .ok (.getfield 7, 3) := by decide +kernel
theorem dX5_distanceToBase_6 : decode cX5_distanceToBase 6 = .ok (.iconst 1, 1) := by decide +kernel
theorem dX5_distanceToBase_7 : decode cX5_distanceToBase 7 = .ok (.iaload, 1) := by decide +kernel
theorem dX5_distanceToBase_8 : decode cX5_distanceToBase 8 = .ok (.aload_n 0, 1) := by decide +kernel
theorem dX5_distanceToBase_9 : decode cX5_distanceToBase 9 = .ok (.getfield 7, 3) := by decide +kernel
theorem dX5_distanceToBase_12 : decode cX5_distanceToBase 12 = .ok (.iconst 2, 1) := by decide +kernel
theorem dX5_distanceToBase_13 : decode cX5_distanceToBase 13 = .ok (.iaload, 1) := by decide +kernel
theorem dX5_distanceToBase_14 : decode cX5_distanceToBase 14 = .ok (.invokevirtual 67, 3) := by decide +kernel
theorem dX5_distanceToBase_17 : decode cX5_distanceToBase 17 = .ok (.ireturn, 1) := by decide +kernel
set_option maxRecDepth 20000 in
theorem ggX5_sendingCost_X5_setting : GoodIn wsX5_sendingCost wsX5_setting := goodIn_r _ [5, 6, 7, 8, 9, 10, 11, 12, 13, 14, 15] (by decide +kernel) (by decide +kernel)
set_option maxRecDepth 20000 in
theorem gX5_sendingCost_X5_setting : GoodIn wsX5_sendingCost (wsV RX5 71 RX5 yX5_setting wsX5_setting) := goodIn_app (goodIn_of _ (by decide +kernel)) ggX5_sendingCost_X5_setting
theorem dX5_sendingCost_0 : decode cX5_sendingCost 0 = .ok (.aload_n 0, 1) := by decide +kernel
theorem dX5_sendingCost_1 : decode cX5_sendingCost 1 = .ok (.iconst 1, 1) := by decide +kernel
theorem dX5_sendingCost_2 : decode cX5_sendingCost 2 = .ok (.invokevirtual 71, 3) := by decide +kernel
theorem dX5_sendingCost_5 : decode cX5_sendingCost 5 = .ok (.iload_n 1, 1) := by decide +kernel
theorem dX5_sendingCost_6 : decode cX5_sendingCost 6 = .ok (.aload_n 0, 1) := by decide +kernel
theorem dX5_sendingCost_7 : decode cX5_sendingCost 7 = .ok (.iconst 2, 1) := by decide +kernel
theorem dX5_sendingCost_8 : decode cX5_sendingCost 8 = .ok (.invokevirtual 71, 3) := by decide +kernel
theorem dX5_sendingCost_11 : decode cX5_sendingCost 11 = .ok (.idiv, 1) := by decide +kernel
theorem dX5_sendingCost_12 : decode cX5_sendingCost 12 = .ok (.iadd, 1) := by decide +kernel
theorem dX5_sendingCost_13 : decode cX5_sendingCost 13 = .ok (.ireturn, 1) := by decide +kernel
set_option maxRecDepth 20000 in
theorem ggX5_pays_X5_of : GoodIn wsX5_pays wsX5_of := goodIn_r _ [6, 1, 11, 12, 13, 14, 15, 16, 17, 18, 19] (by decide +kernel) (by decide +kernel)
set_option maxRecDepth 20000 in
theorem gX5_pays_X5_of : GoodIn wsX5_pays (wsV RX5 43 RX5 yX5_of wsX5_of) := goodIn_app (goodIn_of _ (by decide +kernel)) ggX5_pays_X5_of
set_option maxRecDepth 20000 in
theorem ggX5_pays_X5_set : GoodIn wsX5_pays wsX5_set := goodIn_r _ [10, 1, 11, 12, 13, 14, 15, 16, 17, 18, 19] (by decide +kernel) (by decide +kernel)
set_option maxRecDepth 20000 in
theorem gX5_pays_X5_set : GoodIn wsX5_pays (wsV RX5 51 RX5 yX5_set wsX5_set) := goodIn_app (goodIn_of _ (by decide +kernel)) ggX5_pays_X5_set
theorem dX5_pays_0 : decode cX5_pays 0 = .ok (.aload_n 0, 1) := by decide +kernel
theorem dX5_pays_1 : decode cX5_pays 1 = .ok (.iload_n 1, 1) := by decide +kernel
theorem dX5_pays_2 : decode cX5_pays 2 = .ok (.iconst 2, 1) := by decide +kernel
theorem dX5_pays_3 : decode cX5_pays 3 = .ok (.invokevirtual 43, 3) := by decide +kernel
theorem dX5_pays_6 : decode cX5_pays 6 = .ok (.iload_n 2, 1) := by decide +kernel
theorem dX5_pays_7 : decode cX5_pays 7 = .ok (.if_icmp .ge 26, 3) := by decide +kernel
theorem dX5_pays_10 : decode cX5_pays 10 = .ok (.aload_n 0, 1) := by decide +kernel
theorem dX5_pays_11 : decode cX5_pays 11 = .ok (.iload_n 1, 1) := by decide +kernel
theorem dX5_pays_12 : decode cX5_pays 12 = .ok (.iconst 3, 1) := by decide +kernel
theorem dX5_pays_13 : decode cX5_pays 13 = .ok (.iconst 0, 1) := by decide +kernel
theorem dX5_pays_14 : decode cX5_pays 14 = .ok (.invokevirtual 51, 3) := by decide +kernel
theorem dX5_pays_17 : decode cX5_pays 17 = .ok (.aload_n 0, 1) := by decide +kernel
theorem dX5_pays_18 : decode cX5_pays 18 = .ok (.iload_n 1, 1) := by decide +kernel
theorem dX5_pays_19 : decode cX5_pays 19 = .ok (.bipush 6, 2) := by decide +kernel
theorem dX5_pays_21 : decode cX5_pays 21 = .ok (.aload_n 0, 1) := by decide +kernel
theorem dX5_pays_22 : decode cX5_pays 22 = .ok (.getfield 7, 3) := by decide +kernel
theorem dX5_pays_25 : decode cX5_pays 25 = .ok (.bipush 10, 2) := by decide +kernel
theorem dX5_pays_27 : decode cX5_pays 27 = .ok (.iaload, 1) := by decide +kernel
theorem dX5_pays_28 : decode cX5_pays 28 = .ok (.invokevirtual 51, 3) := by decide +kernel
theorem dX5_pays_31 : decode cX5_pays 31 = .ok (.iconst 0, 1) := by decide +kernel
theorem dX5_pays_32 : decode cX5_pays 32 = .ok (.ireturn, 1) := by decide +kernel
theorem dX5_pays_33 : decode cX5_pays 33 = .ok (.aload_n 0, 1) := by decide +kernel
theorem dX5_pays_34 : decode cX5_pays 34 = .ok (.iload_n 1, 1) := by decide +kernel
theorem dX5_pays_35 : decode cX5_pays 35 = .ok (.iconst 2, 1) := by decide +kernel
theorem dX5_pays_36 : decode cX5_pays 36 = .ok (.aload_n 0, 1) := by decide +kernel
theorem dX5_pays_37 : decode cX5_pays 37 = .ok (.iload_n 1, 1) := by decide +kernel
theorem dX5_pays_38 : decode cX5_pays 38 = .ok (.iconst 2, 1) := by decide +kernel
theorem dX5_pays_39 : decode cX5_pays 39 = .ok (.invokevirtual 43, 3) := by decide +kernel
theorem dX5_pays_42 : decode cX5_pays 42 = .ok (.iload_n 2, 1) := by decide +kernel
theorem dX5_pays_43 : decode cX5_pays 43 = .ok (.isub, 1) := by decide +kernel
theorem dX5_pays_44 : decode cX5_pays 44 = .ok (.invokevirtual 51, 3) := by decide +kernel
theorem dX5_pays_47 : decode cX5_pays 47 = .ok (.aload_n 0, 1) := by decide +kernel
theorem dX5_pays_48 : decode cX5_pays 48 = .ok (.getfield 7, 3) := by decide +kernel
theorem dX5_pays_51 : decode cX5_pays 51 = .ok (.bipush 14, 2) := by decide +kernel
theorem dX5_pays_53 : decode cX5_pays 53 = .ok (.dup2, 1) := by decide +kernel
theorem dX5_pays_54 : decode cX5_pays 54 = .ok (.iaload, 1) := by decide +kernel
theorem dX5_pays_55 : decode cX5_pays 55 = .ok (.iload_n 2, 1) := by decide +kernel
theorem dX5_pays_56 : decode cX5_pays 56 = .ok (.iadd, 1) := by decide +kernel
theorem dX5_pays_57 : decode cX5_pays 57 = .ok (.iastore, 1) := by decide +kernel
theorem dX5_pays_58 : decode cX5_pays 58 = .ok (.iconst 1, 1) := by decide +kernel
theorem dX5_pays_59 : decode cX5_pays 59 = .ok (.ireturn, 1) := by decide +kernel
set_option maxRecDepth 20000 in
theorem ggX5_takesIn_X5_lives : GoodIn wsX5_takesIn wsX5_lives := goodIn_r _ [5, 6, 7, 8, 4, 9, 10, 23, 24, 25, 26, 27, 28, 29, 30, 31] (by decide +kernel) (by decide +kernel)
set_option maxRecDepth 20000 in
theorem gX5_takesIn_X5_lives : GoodIn wsX5_takesIn (wsV RX5 63 RX5 yX5_lives wsX5_lives) := goodIn_app (goodIn_of _ (by decide +kernel)) ggX5_takesIn_X5_lives
set_option maxRecDepth 20000 in
theorem ggX5_takesIn_X5_setting : GoodIn wsX5_takesIn wsX5_setting := goodIn_r _ [14, 10, 23, 24, 25, 26, 27, 28, 29, 30, 31] (by decide +kernel) (by decide +kernel)
set_option maxRecDepth 20000 in
theorem gX5_takesIn_X5_setting : GoodIn wsX5_takesIn (wsV RX5 71 RX5 yX5_setting wsX5_setting) := goodIn_app (goodIn_of _ (by decide +kernel)) ggX5_takesIn_X5_setting
set_option maxRecDepth 20000 in
theorem ggX5_takesIn_X5_pays : GoodIn wsX5_takesIn wsX5_pays := goodIn_r _ [18, 10, 6, 7, 8, 4, 9, 19, 20, 21, 22, 23, 24, 25, 26, 27, 28, 29, 30, 31] (by decide +kernel) (by decide +kernel)
set_option maxRecDepth 20000 in
theorem gX5_takesIn_X5_pays : GoodIn wsX5_takesIn (wsV RX5 75 RX5 yX5_pays wsX5_pays) := goodIn_app (goodIn_of _ (by decide +kernel)) ggX5_takesIn_X5_pays
theorem dX5_takesIn_0 : decode cX5_takesIn 0 = .ok (.aload_n 0, 1) := by decide +kernel
theorem dX5_takesIn_1 : decode cX5_takesIn 1 = .ok (.iload_n 1, 1) := by decide +kernel
theorem dX5_takesIn_2 : decode cX5_takesIn 2 = .ok (.invokevirtual 63, 3) := by decide +kernel
theorem dX5_takesIn_5 : decode cX5_takesIn 5 = .ok (.ifCond .eq 33, 3) := by decide +kernel
theorem dX5_takesIn_8 : decode cX5_takesIn 8 = .ok (.aload_n 0, 1) := by decide +kernel
theorem dX5_takesIn_9 : decode cX5_takesIn 9 = .ok (.iload_n 1, 1) := by decide +kernel
theorem dX5_takesIn_10 : decode cX5_takesIn 10 = .ok (.aload_n 0, 1) := by decide +kernel
theorem dX5_takesIn_11 : decode cX5_takesIn 11 = .ok (.iconst 1, 1) := by decide +kernel
theorem dX5_takesIn_12 : decode cX5_takesIn 12 = .ok (.invokevirtual 71, 3) := by decide +kernel
theorem dX5_takesIn_15 : decode cX5_takesIn 15 = .ok (.invokevirtual 75, 3) := by decide +kernel
theorem dX5_takesIn_18 : decode cX5_takesIn 18 = .ok (.ifCond .eq 20, 3) := by decide +kernel
theorem dX5_takesIn_21 : decode cX5_takesIn 21 = .ok (.aload_n 0, 1) := by decide +kernel
theorem dX5_takesIn_22 : decode cX5_takesIn 22 = .ok (.iload_n 1, 1) := by decide +kernel
theorem dX5_takesIn_23 : decode cX5_takesIn 23 = .ok (.aload_n 0, 1) := by decide +kernel
theorem dX5_takesIn_24 : decode cX5_takesIn 24 = .ok (.iconst 3, 1) := by decide +kernel
theorem dX5_takesIn_25 : decode cX5_takesIn 25 = .ok (.invokevirtual 71, 3) := by decide +kernel
theorem dX5_takesIn_28 : decode cX5_takesIn 28 = .ok (.invokevirtual 75, 3) := by decide +kernel
theorem dX5_takesIn_31 : decode cX5_takesIn 31 = .ok (.ifCond .eq 7, 3) := by decide +kernel
theorem dX5_takesIn_34 : decode cX5_takesIn 34 = .ok (.iconst 1, 1) := by decide +kernel
theorem dX5_takesIn_35 : decode cX5_takesIn 35 = .ok (.goto 4, 3) := by decide +kernel
theorem dX5_takesIn_38 : decode cX5_takesIn 38 = .ok (.iconst 0, 1) := by decide +kernel
theorem dX5_takesIn_39 : decode cX5_takesIn 39 = .ok (.ireturn, 1) := by decide +kernel
theorem dX5_draw_0 : decode cX5_draw 0 = .ok (.aload_n 0, 1) := by decide +kernel
theorem dX5_draw_1 : decode cX5_draw 1 = .ok (.getfield 7, 3) := by decide +kernel
theorem dX5_draw_4 : decode cX5_draw 4 = .ok (.bipush 9, 2) := by decide +kernel
theorem dX5_draw_6 : decode cX5_draw 6 = .ok (.aload_n 0, 1) := by decide +kernel
theorem dX5_draw_7 : decode cX5_draw 7 = .ok (.getfield 7, 3) := by decide +kernel
theorem dX5_draw_10 : decode cX5_draw 10 = .ok (.bipush 9, 2) := by decide +kernel
theorem dX5_draw_12 : decode cX5_draw 12 = .ok (.iaload, 1) := by decide +kernel
theorem dX5_draw_13 : decode cX5_draw 13 = .ok (.ldc 78, 2) := by decide +kernel
theorem dX5_draw_15 : decode cX5_draw 15 = .ok (.imul, 1) := by decide +kernel
theorem dX5_draw_16 : decode cX5_draw 16 = .ok (.sipush 12345, 3) := by decide +kernel
theorem dX5_draw_19 : decode cX5_draw 19 = .ok (.iadd, 1) := by decide +kernel
theorem dX5_draw_20 : decode cX5_draw 20 = .ok (.ldc 79, 2) := by decide +kernel
theorem dX5_draw_22 : decode cX5_draw 22 = .ok (.iand, 1) := by decide +kernel
theorem dX5_draw_23 : decode cX5_draw 23 = .ok (.iastore, 1) := by decide +kernel
theorem dX5_draw_24 : decode cX5_draw 24 = .ok (.aload_n 0, 1) := by decide +kernel
theorem dX5_draw_25 : decode cX5_draw 25 = .ok (.getfield 7, 3) := by decide +kernel
theorem dX5_draw_28 : decode cX5_draw 28 = .ok (.bipush 9, 2) := by decide +kernel
theorem dX5_draw_30 : decode cX5_draw 30 = .ok (.iaload, 1) := by decide +kernel
theorem dX5_draw_31 : decode cX5_draw 31 = .ok (.ldc 80, 2) := by decide +kernel
theorem dX5_draw_33 : decode cX5_draw 33 = .ok (.idiv, 1) := by decide +kernel
theorem dX5_draw_34 : decode cX5_draw 34 = .ok (.sipush 1000, 3) := by decide +kernel
theorem dX5_draw_37 : decode cX5_draw 37 = .ok (.irem, 1) := by decide +kernel
theorem dX5_draw_38 : decode cX5_draw 38 = .ok (.ireturn, 1) := by decide +kernel
set_option maxRecDepth 20000 in
theorem ggX5_isHead_X5_of : GoodIn wsX5_isHead wsX5_of := goodIn_r _ [5, 6, 7, 8, 9, 10, 11, 12, 13, 14, 15] (by decide +kernel) (by decide +kernel)
set_option maxRecDepth 20000 in
theorem gX5_isHead_X5_of : GoodIn wsX5_isHead (wsV RX5 43 RX5 yX5_of wsX5_of) := goodIn_app (goodIn_of _ (by decide +kernel)) ggX5_isHead_X5_of
theorem dX5_isHead_0 : decode cX5_isHead 0 = .ok (.aload_n 0, 1) := by decide +kernel
theorem dX5_isHead_1 : decode cX5_isHead 1 = .ok (.iload_n 1, 1) := by decide +kernel
theorem dX5_isHead_2 : decode cX5_isHead 2 = .ok (.bipush 7, 2) := by decide +kernel
theorem dX5_isHead_4 : decode cX5_isHead 4 = .ok (.invokevirtual 43, 3) := by decide +kernel
theorem dX5_isHead_7 : decode cX5_isHead 7 = .ok (.iload_n 1, 1) := by decide +kernel
theorem dX5_isHead_8 : decode cX5_isHead 8 = .ok (.if_icmp .ne 7, 3) := by decide +kernel
theorem dX5_isHead_11 : decode cX5_isHead 11 = .ok (.iconst 1, 1) := by decide +kernel
theorem dX5_isHead_12 : decode cX5_isHead 12 = .ok (.goto 4, 3) := by decide +kernel
theorem dX5_isHead_15 : decode cX5_isHead 15 = .ok (.iconst 0, 1) := by decide +kernel
theorem dX5_isHead_16 : decode cX5_isHead 16 = .ok (.ireturn, 1) := by decide +kernel
set_option maxRecDepth 20000 in
theorem ggX5_elect_X5_setting : GoodIn wsX5_elect wsX5_setting := goodIn_r _ [8, 1, 28, 29, 30, 31, 32, 33, 34, 35, 36] (by decide +kernel) (by decide +kernel)
set_option maxRecDepth 20000 in
theorem gX5_elect_X5_setting : GoodIn wsX5_elect (wsV RX5 71 RX5 yX5_setting wsX5_setting) := goodIn_app (goodIn_of _ (by decide +kernel)) ggX5_elect_X5_setting
set_option maxRecDepth 20000 in
theorem ggX5_elect_X5_of : GoodIn wsX5_elect wsX5_of := goodIn_r _ [12, 1, 28, 29, 30, 31, 32, 33, 34, 35, 36] (by decide +kernel) (by decide +kernel)
set_option maxRecDepth 20000 in
theorem gX5_elect_X5_of : GoodIn wsX5_elect (wsV RX5 43 RX5 yX5_of wsX5_of) := goodIn_app (goodIn_of _ (by decide +kernel)) ggX5_elect_X5_of
set_option maxRecDepth 20000 in
theorem ggX5_elect_X5_set : GoodIn wsX5_elect wsX5_set := goodIn_r _ [16, 1, 28, 29, 30, 31, 32, 33, 34, 35, 36] (by decide +kernel) (by decide +kernel)
set_option maxRecDepth 20000 in
theorem gX5_elect_X5_set : GoodIn wsX5_elect (wsV RX5 51 RX5 yX5_set wsX5_set) := goodIn_app (goodIn_of _ (by decide +kernel)) ggX5_elect_X5_set
set_option maxRecDepth 20000 in
theorem ggX5_elect_X5_lives : GoodIn wsX5_elect wsX5_lives := goodIn_r _ [20, 9, 10, 11, 7, 12, 1, 28, 29, 30, 31, 32, 33, 34, 35, 36] (by decide +kernel) (by decide +kernel)
set_option maxRecDepth 20000 in
theorem gX5_elect_X5_lives : GoodIn wsX5_elect (wsV RX5 63 RX5 yX5_lives wsX5_lives) := goodIn_app (goodIn_of _ (by decide +kernel)) ggX5_elect_X5_lives
set_option maxRecDepth 20000 in
theorem ggX5_elect_X5_draw : GoodIn wsX5_elect wsX5_draw := goodIn_r _ [24, 1, 25, 26, 27, 28, 29, 30, 31, 32, 33, 34, 35, 36] (by decide +kernel) (by decide +kernel)
set_option maxRecDepth 20000 in
theorem gX5_elect_X5_draw : GoodIn wsX5_elect (wsV RX5 81 RX5 yX5_draw wsX5_draw) := goodIn_app (goodIn_of _ (by decide +kernel)) ggX5_elect_X5_draw
theorem dX5_elect_0 : decode cX5_elect 0 = .ok (.aload_n 0, 1) := by decide +kernel
theorem dX5_elect_1 : decode cX5_elect 1 = .ok (.getfield 7, 3) := by decide +kernel
theorem dX5_elect_4 : decode cX5_elect 4 = .ok (.bipush 10, 2) := by decide +kernel
theorem dX5_elect_6 : decode cX5_elect 6 = .ok (.iaload, 1) := by decide +kernel
theorem dX5_elect_7 : decode cX5_elect 7 = .ok (.aload_n 0, 1) := by decide +kernel
theorem dX5_elect_8 : decode cX5_elect 8 = .ok (.iconst 0, 1) := by decide +kernel
theorem dX5_elect_9 : decode cX5_elect 9 = .ok (.invokevirtual 71, 3) := by decide +kernel
theorem dX5_elect_12 : decode cX5_elect 12 = .ok (.irem, 1) := by decide +kernel
theorem dX5_elect_13 : decode cX5_elect 13 = .ok (.istore_n 1, 1) := by decide +kernel
theorem dX5_elect_14 : decode cX5_elect 14 = .ok (.iconst 0, 1) := by decide +kernel
theorem dX5_elect_15 : decode cX5_elect 15 = .ok (.istore_n 2, 1) := by decide +kernel
theorem dX5_elect_16 : decode cX5_elect 16 = .ok (.iload_n 2, 1) := by decide +kernel
theorem dX5_elect_17 : decode cX5_elect 17 = .ok (.aload_n 0, 1) := by decide +kernel
theorem dX5_elect_18 : decode cX5_elect 18 = .ok (.getfield 7, 3) := by decide +kernel
theorem dX5_elect_21 : decode cX5_elect 21 = .ok (.iconst 0, 1) := by decide +kernel
theorem dX5_elect_22 : decode cX5_elect 22 = .ok (.iaload, 1) := by decide +kernel
theorem dX5_elect_23 : decode cX5_elect 23 = .ok (.if_icmp .ge 54, 3) := by decide +kernel
theorem dX5_elect_26 : decode cX5_elect 26 = .ok (.aload_n 0, 1) := by decide +kernel
theorem dX5_elect_27 : decode cX5_elect 27 = .ok (.iload_n 2, 1) := by decide +kernel
theorem dX5_elect_28 : decode cX5_elect 28 = .ok (.iconst 4, 1) := by decide +kernel
theorem dX5_elect_29 : decode cX5_elect 29 = .ok (.iload_n 1, 1) := by decide +kernel
theorem dX5_elect_30 : decode cX5_elect 30 = .ok (.ifCond .ne 7, 3) := by decide +kernel
theorem dX5_elect_33 : decode cX5_elect 33 = .ok (.iconst 1, 1) := by decide +kernel
theorem dX5_elect_34 : decode cX5_elect 34 = .ok (.goto 9, 3) := by decide +kernel
theorem dX5_elect_37 : decode cX5_elect 37 = .ok (.aload_n 0, 1) := by decide +kernel
theorem dX5_elect_38 : decode cX5_elect 38 = .ok (.iload_n 2, 1) := by decide +kernel
theorem dX5_elect_39 : decode cX5_elect 39 = .ok (.iconst 4, 1) := by decide +kernel
theorem dX5_elect_40 : decode cX5_elect 40 = .ok (.invokevirtual 43, 3) := by decide +kernel
theorem dX5_elect_43 : decode cX5_elect 43 = .ok (.invokevirtual 51, 3) := by decide +kernel
theorem dX5_elect_46 : decode cX5_elect 46 = .ok (.aload_n 0, 1) := by decide +kernel
theorem dX5_elect_47 : decode cX5_elect 47 = .ok (.iload_n 2, 1) := by decide +kernel
theorem dX5_elect_48 : decode cX5_elect 48 = .ok (.bipush 7, 2) := by decide +kernel
theorem dX5_elect_50 : decode cX5_elect 50 = .ok (.bipush (-9), 2) := by decide +kernel
theorem dX5_elect_52 : decode cX5_elect 52 = .ok (.invokevirtual 51, 3) := by decide +kernel
theorem dX5_elect_55 : decode cX5_elect 55 = .ok (.aload_n 0, 1) := by decide +kernel
theorem dX5_elect_56 : decode cX5_elect 56 = .ok (.iload_n 2, 1) := by decide +kernel
theorem dX5_elect_57 : decode cX5_elect 57 = .ok (.bipush 8, 2) := by decide +kernel
theorem dX5_elect_59 : decode cX5_elect 59 = .ok (.bipush (-9), 2) := by decide +kernel
theorem dX5_elect_61 : decode cX5_elect 61 = .ok (.invokevirtual 51, 3) := by decide +kernel
theorem dX5_elect_64 : decode cX5_elect 64 = .ok (.aload_n 0, 1) := by decide +kernel
theorem dX5_elect_65 : decode cX5_elect 65 = .ok (.getfield 29, 3) := by decide +kernel
theorem dX5_elect_68 : decode cX5_elect 68 = .ok (.iload_n 2, 1) := by decide +kernel
theorem dX5_elect_69 : decode cX5_elect 69 = .ok (.iconst 0, 1) := by decide +kernel
theorem dX5_elect_70 : decode cX5_elect 70 = .ok (.iastore, 1) := by decide +kernel
theorem dX5_elect_71 : decode cX5_elect 71 = .ok (.iinc 2 1, 3) := by decide +kernel
theorem dX5_elect_74 : decode cX5_elect 74 = .ok (.goto (-58), 3) := by decide +kernel
theorem dX5_elect_77 : decode cX5_elect 77 = .ok (.iconst 0, 1) := by decide +kernel
theorem dX5_elect_78 : decode cX5_elect 78 = .ok (.istore_n 2, 1) := by decide +kernel
theorem dX5_elect_79 : decode cX5_elect 79 = .ok (.iload_n 2, 1) := by decide +kernel
theorem dX5_elect_80 : decode cX5_elect 80 = .ok (.aload_n 0, 1) := by decide +kernel
theorem dX5_elect_81 : decode cX5_elect 81 = .ok (.getfield 7, 3) := by decide +kernel
theorem dX5_elect_84 : decode cX5_elect 84 = .ok (.iconst 0, 1) := by decide +kernel
theorem dX5_elect_85 : decode cX5_elect 85 = .ok (.iaload, 1) := by decide +kernel
theorem dX5_elect_86 : decode cX5_elect 86 = .ok (.if_icmp .ge 56, 3) := by decide +kernel
theorem dX5_elect_89 : decode cX5_elect 89 = .ok (.aload_n 0, 1) := by decide +kernel
theorem dX5_elect_90 : decode cX5_elect 90 = .ok (.getfield 26, 3) := by decide +kernel
theorem dX5_elect_93 : decode cX5_elect 93 = .ok (.iload_n 2, 1) := by decide +kernel
theorem dX5_elect_94 : decode cX5_elect 94 = .ok (.aload_n 0, 1) := by decide +kernel
theorem dX5_elect_95 : decode cX5_elect 95 = .ok (.iload_n 2, 1) := by decide +kernel
theorem dX5_elect_96 : decode cX5_elect 96 = .ok (.invokevirtual 63, 3) := by decide +kernel
theorem dX5_elect_99 : decode cX5_elect 99 = .ok (.ifCond .eq 35, 3) := by decide +kernel
theorem dX5_elect_102 : decode cX5_elect 102 = .ok (.aload_n 0, 1) := by decide +kernel
theorem dX5_elect_103 : decode cX5_elect 103 = .ok (.iload_n 2, 1) := by decide +kernel
theorem dX5_elect_104 : decode cX5_elect 104 = .ok (.iconst 4, 1) := by decide +kernel
theorem dX5_elect_105 : decode cX5_elect 105 = .ok (.invokevirtual 43, 3) := by decide +kernel
theorem dX5_elect_108 : decode cX5_elect 108 = .ok (.iconst 1, 1) := by decide +kernel
theorem dX5_elect_109 : decode cX5_elect 109 = .ok (.if_icmp .ne 25, 3) := by decide +kernel
theorem dX5_elect_112 : decode cX5_elect 112 = .ok (.aload_n 0, 1) := by decide +kernel
theorem dX5_elect_113 : decode cX5_elect 113 = .ok (.invokevirtual 81, 3) := by decide +kernel
theorem dX5_elect_116 : decode cX5_elect 116 = .ok (.aload_n 0, 1) := by decide +kernel
theorem dX5_elect_117 : decode cX5_elect 117 = .ok (.iconst 0, 1) := by decide +kernel
theorem dX5_elect_118 : decode cX5_elect 118 = .ok (.invokevirtual 71, 3) := by decide +kernel
theorem dX5_elect_121 : decode cX5_elect 121 = .ok (.iload_n 1, 1) := by decide +kernel
theorem dX5_elect_122 : decode cX5_elect 122 = .ok (.isub, 1) := by decide +kernel
theorem dX5_elect_123 : decode cX5_elect 123 = .ok (.imul, 1) := by decide +kernel
theorem dX5_elect_124 : decode cX5_elect 124 = .ok (.sipush 1000, 3) := by decide +kernel
theorem dX5_elect_127 : decode cX5_elect 127 = .ok (.if_icmp .ge 7, 3) := by decide +kernel
theorem dX5_elect_130 : decode cX5_elect 130 = .ok (.iconst 1, 1) := by decide +kernel
theorem dX5_elect_131 : decode cX5_elect 131 = .ok (.goto 4, 3) := by decide +kernel
theorem dX5_elect_134 : decode cX5_elect 134 = .ok (.iconst 0, 1) := by decide +kernel
theorem dX5_elect_135 : decode cX5_elect 135 = .ok (.bastore, 1) := by decide +kernel
theorem dX5_elect_136 : decode cX5_elect 136 = .ok (.iinc 2 1, 3) := by decide +kernel
theorem dX5_elect_139 : decode cX5_elect 139 = .ok (.goto (-60), 3) := by decide +kernel
theorem dX5_elect_142 : decode cX5_elect 142 = .ok (.return_, 1) := by decide +kernel
set_option maxRecDepth 20000 in
theorem ggX5_announce_X5_setting : GoodIn wsX5_announce wsX5_setting := goodIn_r _ [7, 1, 20, 21, 22, 23, 24, 25, 26, 27, 28] (by decide +kernel) (by decide +kernel)
set_option maxRecDepth 20000 in
theorem gX5_announce_X5_setting : GoodIn wsX5_announce (wsV RX5 71 RX5 yX5_setting wsX5_setting) := goodIn_app (goodIn_of _ (by decide +kernel)) ggX5_announce_X5_setting
set_option maxRecDepth 20000 in
theorem ggX5_announce_X5_pays : GoodIn wsX5_announce wsX5_pays := goodIn_r _ [11, 1, 12, 13, 14, 6, 15, 16, 17, 18, 19, 20, 21, 22, 23, 24, 25, 26, 27, 28] (by decide +kernel) (by decide +kernel)
set_option maxRecDepth 20000 in
theorem gX5_announce_X5_pays : GoodIn wsX5_announce (wsV RX5 75 RX5 yX5_pays wsX5_pays) := goodIn_app (goodIn_of _ (by decide +kernel)) ggX5_announce_X5_pays
set_option maxRecDepth 20000 in
theorem ggX5_announce_X5_set : GoodIn wsX5_announce wsX5_set := goodIn_r _ [19, 1, 20, 21, 22, 23, 24, 25, 26, 27, 28] (by decide +kernel) (by decide +kernel)
set_option maxRecDepth 20000 in
theorem gX5_announce_X5_set : GoodIn wsX5_announce (wsV RX5 51 RX5 yX5_set wsX5_set) := goodIn_app (goodIn_of _ (by decide +kernel)) ggX5_announce_X5_set
set_option maxRecDepth 20000 in
theorem ggX5_announce_X5_of : GoodIn wsX5_announce wsX5_of := goodIn_r _ [15, 1, 20, 21, 22, 23, 24, 25, 26, 27, 28] (by decide +kernel) (by decide +kernel)
set_option maxRecDepth 20000 in
theorem gX5_announce_X5_of : GoodIn wsX5_announce (wsV RX5 43 RX5 yX5_of wsX5_of) := goodIn_app (goodIn_of _ (by decide +kernel)) ggX5_announce_X5_of
theorem dX5_announce_0 : decode cX5_announce 0 = .ok (.aload_n 0, 1) := by decide +kernel
theorem dX5_announce_1 : decode cX5_announce 1 = .ok (.getfield 7, 3) := by decide +kernel
theorem dX5_announce_4 : decode cX5_announce 4 = .ok (.bipush 11, 2) := by decide +kernel
theorem dX5_announce_6 : decode cX5_announce 6 = .ok (.iconst 0, 1) := by decide +kernel
theorem dX5_announce_7 : decode cX5_announce 7 = .ok (.iastore, 1) := by decide +kernel
theorem dX5_announce_8 : decode cX5_announce 8 = .ok (.iconst 0, 1) := by decide +kernel
theorem dX5_announce_9 : decode cX5_announce 9 = .ok (.istore_n 1, 1) := by decide +kernel
theorem dX5_announce_10 : decode cX5_announce 10 = .ok (.iload_n 1, 1) := by decide +kernel
theorem dX5_announce_11 : decode cX5_announce 11 = .ok (.aload_n 0, 1) := by decide +kernel
theorem dX5_announce_12 : decode cX5_announce 12 = .ok (.getfield 7, 3) := by decide +kernel
theorem dX5_announce_15 : decode cX5_announce 15 = .ok (.iconst 0, 1) := by decide +kernel
theorem dX5_announce_16 : decode cX5_announce 16 = .ok (.iaload, 1) := by decide +kernel
theorem dX5_announce_17 : decode cX5_announce 17 = .ok (.if_icmp .ge 71, 3) := by decide +kernel
theorem dX5_announce_20 : decode cX5_announce 20 = .ok (.aload_n 0, 1) := by decide +kernel
theorem dX5_announce_21 : decode cX5_announce 21 = .ok (.getfield 26, 3) := by decide +kernel
theorem dX5_announce_24 : decode cX5_announce 24 = .ok (.iload_n 1, 1) := by decide +kernel
theorem dX5_announce_25 : decode cX5_announce 25 = .ok (.baload, 1) := by decide +kernel
theorem dX5_announce_26 : decode cX5_announce 26 = .ok (.ifCond .eq 56, 3) := by decide +kernel
theorem dX5_announce_29 : decode cX5_announce 29 = .ok (.aload_n 0, 1) := by decide +kernel
theorem dX5_announce_30 : decode cX5_announce 30 = .ok (.iload_n 1, 1) := by decide +kernel
theorem dX5_announce_31 : decode cX5_announce 31 = .ok (.aload_n 0, 1) := by decide +kernel
theorem dX5_announce_32 : decode cX5_announce 32 = .ok (.iconst 4, 1) := by decide +kernel
theorem dX5_announce_33 : decode cX5_announce 33 = .ok (.invokevirtual 71, 3) := by decide +kernel
theorem dX5_announce_36 : decode cX5_announce 36 = .ok (.invokevirtual 75, 3) := by decide +kernel
theorem dX5_announce_39 : decode cX5_announce 39 = .ok (.ifCond .eq 43, 3) := by decide +kernel
theorem dX5_announce_42 : decode cX5_announce 42 = .ok (.aload_n 0, 1) := by decide +kernel
theorem dX5_announce_43 : decode cX5_announce 43 = .ok (.iload_n 1, 1) := by decide +kernel
theorem dX5_announce_44 : decode cX5_announce 44 = .ok (.bipush 7, 2) := by decide +kernel
theorem dX5_announce_46 : decode cX5_announce 46 = .ok (.iload_n 1, 1) := by decide +kernel
theorem dX5_announce_47 : decode cX5_announce 47 = .ok (.invokevirtual 51, 3) := by decide +kernel
theorem dX5_announce_50 : decode cX5_announce 50 = .ok (.aload_n 0, 1) := by decide +kernel
theorem dX5_announce_51 : decode cX5_announce 51 = .ok (.iload_n 1, 1) := by decide +kernel
theorem dX5_announce_52 : decode cX5_announce 52 = .ok (.iconst 4, 1) := by decide +kernel
theorem dX5_announce_53 : decode cX5_announce 53 = .ok (.iconst 0, 1) := by decide +kernel
theorem dX5_announce_54 : decode cX5_announce 54 = .ok (.invokevirtual 51, 3) := by decide +kernel
theorem dX5_announce_57 : decode cX5_announce 57 = .ok (.aload_n 0, 1) := by decide +kernel
theorem dX5_announce_58 : decode cX5_announce 58 = .ok (.iload_n 1, 1) := by decide +kernel
theorem dX5_announce_59 : decode cX5_announce 59 = .ok (.iconst 5, 1) := by decide +kernel
theorem dX5_announce_60 : decode cX5_announce 60 = .ok (.aload_n 0, 1) := by decide +kernel
theorem dX5_announce_61 : decode cX5_announce 61 = .ok (.iload_n 1, 1) := by decide +kernel
theorem dX5_announce_62 : decode cX5_announce 62 = .ok (.iconst 5, 1) := by decide +kernel
theorem dX5_announce_63 : decode cX5_announce 63 = .ok (.invokevirtual 43, 3) := by decide +kernel
theorem dX5_announce_66 : decode cX5_announce 66 = .ok (.iconst 1, 1) := by decide +kernel
theorem dX5_announce_67 : decode cX5_announce 67 = .ok (.iadd, 1) := by decide +kernel
theorem dX5_announce_68 : decode cX5_announce 68 = .ok (.invokevirtual 51, 3) := by decide +kernel
theorem dX5_announce_71 : decode cX5_announce 71 = .ok (.aload_n 0, 1) := by decide +kernel
theorem dX5_announce_72 : decode cX5_announce 72 = .ok (.getfield 7, 3) := by decide +kernel
theorem dX5_announce_75 : decode cX5_announce 75 = .ok (.bipush 11, 2) := by decide +kernel
theorem dX5_announce_77 : decode cX5_announce 77 = .ok (.dup2, 1) := by decide +kernel
theorem dX5_announce_78 : decode cX5_announce 78 = .ok (.iaload, 1) := by decide +kernel
theorem dX5_announce_79 : decode cX5_announce 79 = .ok (.iconst 1, 1) := by decide +kernel
theorem dX5_announce_80 : decode cX5_announce 80 = .ok (.iadd, 1) := by decide +kernel
theorem dX5_announce_81 : decode cX5_announce 81 = .ok (.iastore, 1) := by decide +kernel
theorem dX5_announce_82 : decode cX5_announce 82 = .ok (.iinc 1 1, 3) := by decide +kernel
theorem dX5_announce_85 : decode cX5_announce 85 = .ok (.goto (-75), 3) := by decide +kernel
theorem dX5_announce_88 : decode cX5_announce 88 = .ok (.return_, 1) := by decide +kernel
set_option maxRecDepth 20000 in
theorem ggX5_nearestHead_X5_isHead : GoodIn wsX5_nearestHead wsX5_isHead := goodIn_r _ [6, 7, 8, 9, 5, 10, 1, 19, 20, 21, 22, 23, 24, 25, 26, 27] (by decide +kernel) (by decide +kernel)
set_option maxRecDepth 20000 in
theorem gX5_nearestHead_X5_isHead : GoodIn wsX5_nearestHead (wsV RX5 85 RX5 yX5_isHead wsX5_isHead) := goodIn_app (goodIn_of _ (by decide +kernel)) ggX5_nearestHead_X5_isHead
set_option maxRecDepth 20000 in
theorem ggX5_nearestHead_X5_distance : GoodIn wsX5_nearestHead wsX5_distance := goodIn_r _ [14, 7, 8, 9, 5, 10, 1, 15, 16, 17, 18, 19, 20, 21, 22, 23, 24, 25, 26, 27] (by decide +kernel) (by decide +kernel)
set_option maxRecDepth 20000 in
theorem gX5_nearestHead_X5_distance : GoodIn wsX5_nearestHead (wsV RX5 88 RX5 yX5_distance wsX5_distance) := goodIn_app (goodIn_of _ (by decide +kernel)) ggX5_nearestHead_X5_distance
theorem dX5_nearestHead_0 : decode cX5_nearestHead 0 = .ok (.bipush (-9), 2) := by decide +kernel
theorem dX5_nearestHead_2 : decode cX5_nearestHead 2 = .ok (.istore_n 2, 1) := by decide +kernel
theorem dX5_nearestHead_3 : decode cX5_nearestHead 3 = .ok (.iconst 0, 1) := by decide +kernel
theorem dX5_nearestHead_4 : decode cX5_nearestHead 4 = .ok (.istore_n 3, 1) := by decide +kernel
theorem dX5_nearestHead_5 : decode cX5_nearestHead 5 = .ok (.iload_n 3, 1) := by decide +kernel
theorem dX5_nearestHead_6 : decode cX5_nearestHead 6 = .ok (.aload_n 0, 1) := by decide +kernel
theorem dX5_nearestHead_7 : decode cX5_nearestHead 7 = .ok (.getfield 7, 3) := by decide +kernel
theorem dX5_nearestHead_10 : decode cX5_nearestHead 10 = .ok (.iconst 0, 1) := by decide +kernel
theorem dX5_nearestHead_11 : decode cX5_nearestHead 11 = .ok (.iaload, 1) := by decide +kernel
theorem dX5_nearestHead_12 : decode cX5_nearestHead 12 = .ok (.if_icmp .ge 40, 3) := by decide +kernel
theorem dX5_nearestHead_15 : decode cX5_nearestHead 15 = .ok (.aload_n 0, 1) := by decide +kernel
theorem dX5_nearestHead_16 : decode cX5_nearestHead 16 = .ok (.iload_n 3, 1) := by decide +kernel
theorem dX5_nearestHead_17 : decode cX5_nearestHead 17 = .ok (.invokevirtual 85, 3) := by decide +kernel
theorem dX5_nearestHead_20 : decode cX5_nearestHead 20 = .ok (.ifCond .eq 26, 3) := by decide +kernel
theorem dX5_nearestHead_23 : decode cX5_nearestHead 23 = .ok (.iload_n 2, 1) := by decide +kernel
theorem dX5_nearestHead_24 : decode cX5_nearestHead 24 = .ok (.bipush (-9), 2) := by decide +kernel
theorem dX5_nearestHead_26 : decode cX5_nearestHead 26 = .ok (.if_icmp .eq 18, 3) := by decide +kernel
theorem dX5_nearestHead_29 : decode cX5_nearestHead 29 = .ok (.aload_n 0, 1) := by decide +kernel
theorem dX5_nearestHead_30 : decode cX5_nearestHead 30 = .ok (.iload_n 1, 1) := by decide +kernel
theorem dX5_nearestHead_31 : decode cX5_nearestHead 31 = .ok (.iload_n 3, 1) := by decide +kernel
theorem dX5_nearestHead_32 : decode cX5_nearestHead 32 = .ok (.invokevirtual 88, 3) := by decide +kernel
theorem dX5_nearestHead_35 : decode cX5_nearestHead 35 = .ok (.aload_n 0, 1) := by decide +kernel
theorem dX5_nearestHead_36 : decode cX5_nearestHead 36 = .ok (.iload_n 1, 1) := by decide +kernel
theorem dX5_nearestHead_37 : decode cX5_nearestHead 37 = .ok (.iload_n 2, 1) := by decide +kernel
theorem dX5_nearestHead_38 : decode cX5_nearestHead 38 = .ok (.invokevirtual 88, 3) := by decide +kernel
theorem dX5_nearestHead_41 : decode cX5_nearestHead 41 = .ok (.if_icmp .ge 5, 3) := by decide +kernel
theorem dX5_nearestHead_44 : decode cX5_nearestHead 44 = .ok (.iload_n 3, 1) := by decide +kernel
theorem dX5_nearestHead_45 : decode cX5_nearestHead 45 = .ok (.istore_n 2, 1) := by decide +kernel
theorem dX5_nearestHead_46 : decode cX5_nearestHead 46 = .ok (.iinc 3 1, 3) := by decide +kernel
theorem dX5_nearestHead_49 : decode cX5_nearestHead 49 = .ok (.goto (-44), 3) := by decide +kernel
theorem dX5_nearestHead_52 : decode cX5_nearestHead 52 = .ok (.iload_n 2, 1) := by decide +kernel
theorem dX5_nearestHead_53 : decode cX5_nearestHead 53 = .ok (.ireturn, 1) := by decide +kernel
set_option maxRecDepth 20000 in
theorem ggX5_join_X5_lives : GoodIn wsX5_join wsX5_lives := goodIn_r _ [6, 7, 8, 9, 5, 10, 1, 31, 32, 33, 34, 35, 36, 37, 38, 39] (by decide +kernel) (by decide +kernel)
set_option maxRecDepth 20000 in
theorem gX5_join_X5_lives : GoodIn wsX5_join (wsV RX5 63 RX5 yX5_lives wsX5_lives) := goodIn_app (goodIn_of _ (by decide +kernel)) ggX5_join_X5_lives
set_option maxRecDepth 20000 in
theorem ggX5_join_X5_isHead : GoodIn wsX5_join wsX5_isHead := goodIn_r _ [14, 7, 8, 9, 5, 10, 1, 31, 32, 33, 34, 35, 36, 37, 38, 39] (by decide +kernel) (by decide +kernel)
set_option maxRecDepth 20000 in
theorem gX5_join_X5_isHead : GoodIn wsX5_join (wsV RX5 85 RX5 yX5_isHead wsX5_isHead) := goodIn_app (goodIn_of _ (by decide +kernel)) ggX5_join_X5_isHead
set_option maxRecDepth 20000 in
theorem ggX5_join_X5_nearestHead : GoodIn wsX5_join wsX5_nearestHead := goodIn_r _ [18, 1, 11, 12, 13, 5, 14, 7, 8, 9, 10, 19, 20, 21, 22, 23, 24, 25, 26, 31, 32, 33, 34, 35, 36, 37, 38, 39] (by decide +kernel) (by decide +kernel)
set_option maxRecDepth 20000 in
theorem gX5_join_X5_nearestHead : GoodIn wsX5_join (wsV RX5 91 RX5 yX5_nearestHead wsX5_nearestHead) := goodIn_app (goodIn_of _ (by decide +kernel)) ggX5_join_X5_nearestHead
set_option maxRecDepth 20000 in
theorem ggX5_join_X5_of : GoodIn wsX5_join wsX5_of := goodIn_r _ [10, 1, 31, 32, 33, 34, 35, 36, 37, 38, 39] (by decide +kernel) (by decide +kernel)
set_option maxRecDepth 20000 in
theorem gX5_join_X5_of : GoodIn wsX5_join (wsV RX5 43 RX5 yX5_of wsX5_of) := goodIn_app (goodIn_of _ (by decide +kernel)) ggX5_join_X5_of
set_option maxRecDepth 20000 in
theorem ggX5_join_X5_set : GoodIn wsX5_join wsX5_set := goodIn_r _ [30, 1, 31, 32, 33, 34, 35, 36, 37, 38, 39] (by decide +kernel) (by decide +kernel)
set_option maxRecDepth 20000 in
theorem gX5_join_X5_set : GoodIn wsX5_join (wsV RX5 51 RX5 yX5_set wsX5_set) := goodIn_app (goodIn_of _ (by decide +kernel)) ggX5_join_X5_set
theorem dX5_join_0 : decode cX5_join 0 = .ok (.iconst 0, 1) := by decide +kernel
theorem dX5_join_1 : decode cX5_join 1 = .ok (.istore_n 1, 1) := by decide +kernel
theorem dX5_join_2 : decode cX5_join 2 = .ok (.iload_n 1, 1) := by decide +kernel
theorem dX5_join_3 : decode cX5_join 3 = .ok (.aload_n 0, 1) := by decide +kernel
theorem dX5_join_4 : decode cX5_join 4 = .ok (.getfield 7, 3) := by decide +kernel
theorem dX5_join_7 : decode cX5_join 7 = .ok (.iconst 0, 1) := by decide +kernel
theorem dX5_join_8 : decode cX5_join 8 = .ok (.iaload, 1) := by decide +kernel
theorem dX5_join_9 : decode cX5_join 9 = .ok (.if_icmp .ge 110, 3) := by decide +kernel
theorem dX5_join_12 : decode cX5_join 12 = .ok (.aload_n 0, 1) := by decide +kernel
theorem dX5_join_13 : decode cX5_join 13 = .ok (.iload_n 1, 1) := by decide +kernel
theorem dX5_join_14 : decode cX5_join 14 = .ok (.invokevirtual 63, 3) := by decide +kernel
theorem dX5_join_17 : decode cX5_join 17 = .ok (.ifCond .eq 96, 3) := by decide +kernel
theorem dX5_join_20 : decode cX5_join 20 = .ok (.aload_n 0, 1) := by decide +kernel
theorem dX5_join_21 : decode cX5_join 21 = .ok (.iload_n 1, 1) := by decide +kernel
theorem dX5_join_22 : decode cX5_join 22 = .ok (.invokevirtual 85, 3) := by decide +kernel
theorem dX5_join_25 : decode cX5_join 25 = .ok (.ifCond .ne 88, 3) := by decide +kernel
theorem dX5_join_28 : decode cX5_join 28 = .ok (.aload_n 0, 1) := by decide +kernel
theorem dX5_join_29 : decode cX5_join 29 = .ok (.iload_n 1, 1) := by decide +kernel
theorem dX5_join_30 : decode cX5_join 30 = .ok (.invokevirtual 91, 3) := by decide +kernel
theorem dX5_join_33 : decode cX5_join 33 = .ok (.istore_n 2, 1) := by decide +kernel
theorem dX5_join_34 : decode cX5_join 34 = .ok (.iconst 0, 1) := by decide +kernel
theorem dX5_join_35 : decode cX5_join 35 = .ok (.istore_n 3, 1) := by decide +kernel
theorem dX5_join_36 : decode cX5_join 36 = .ok (.iconst 0, 1) := by decide +kernel
theorem dX5_join_37 : decode cX5_join 37 = .ok (.istore 4, 2) := by decide +kernel
theorem dX5_join_39 : decode cX5_join 39 = .ok (.iload 4, 2) := by decide +kernel
theorem dX5_join_41 : decode cX5_join 41 = .ok (.iload_n 1, 1) := by decide +kernel
theorem dX5_join_42 : decode cX5_join 42 = .ok (.if_icmp .ge 44, 3) := by decide +kernel
theorem dX5_join_45 : decode cX5_join 45 = .ok (.iload_n 2, 1) := by decide +kernel
theorem dX5_join_46 : decode cX5_join 46 = .ok (.bipush (-9), 2) := by decide +kernel
theorem dX5_join_48 : decode cX5_join 48 = .ok (.if_icmp .eq 38, 3) := by decide +kernel
theorem dX5_join_51 : decode cX5_join 51 = .ok (.iload_n 3, 1) := by decide +kernel
theorem dX5_join_52 : decode cX5_join 52 = .ok (.aload_n 0, 1) := by decide +kernel
theorem dX5_join_53 : decode cX5_join 53 = .ok (.iload 4, 2) := by decide +kernel
theorem dX5_join_55 : decode cX5_join 55 = .ok (.invokevirtual 85, 3) := by decide +kernel
theorem dX5_join_58 : decode cX5_join 58 = .ok (.ifCond .ne 19, 3) := by decide +kernel
theorem dX5_join_61 : decode cX5_join 61 = .ok (.aload_n 0, 1) := by decide +kernel
theorem dX5_join_62 : decode cX5_join 62 = .ok (.iload 4, 2) := by decide +kernel
theorem dX5_join_64 : decode cX5_join 64 = .ok (.bipush 7, 2) := by decide +kernel
theorem dX5_join_66 : decode cX5_join 66 = .ok (.invokevirtual 43, 3) := by decide +kernel
theorem dX5_join_69 : decode cX5_join 69 = .ok (.iload_n 2, 1) := by decide +kernel
theorem dX5_join_70 : decode cX5_join 70 = .ok (.if_icmp .ne 7, 3) := by decide +kernel
theorem dX5_join_73 : decode cX5_join 73 = .ok (.iconst 1, 1) := by decide +kernel
theorem dX5_join_74 : decode cX5_join 74 = .ok (.goto 4, 3) := by decide +kernel
theorem dX5_join_77 : decode cX5_join 77 = .ok (.iconst 0, 1) := by decide +kernel
theorem dX5_join_78 : decode cX5_join 78 = .ok (.iadd, 1) := by decide +kernel
theorem dX5_join_79 : decode cX5_join 79 = .ok (.istore_n 3, 1) := by decide +kernel
theorem dX5_join_80 : decode cX5_join 80 = .ok (.iinc 4 1, 3) := by decide +kernel
theorem dX5_join_83 : decode cX5_join 83 = .ok (.goto (-44), 3) := by decide +kernel
theorem dX5_join_86 : decode cX5_join 86 = .ok (.aload_n 0, 1) := by decide +kernel
theorem dX5_join_87 : decode cX5_join 87 = .ok (.iload_n 1, 1) := by decide +kernel
theorem dX5_join_88 : decode cX5_join 88 = .ok (.bipush 7, 2) := by decide +kernel
theorem dX5_join_90 : decode cX5_join 90 = .ok (.iload_n 2, 1) := by decide +kernel
theorem dX5_join_91 : decode cX5_join 91 = .ok (.invokevirtual 51, 3) := by decide +kernel
theorem dX5_join_94 : decode cX5_join 94 = .ok (.aload_n 0, 1) := by decide +kernel
theorem dX5_join_95 : decode cX5_join 95 = .ok (.iload_n 1, 1) := by decide +kernel
theorem dX5_join_96 : decode cX5_join 96 = .ok (.bipush 8, 2) := by decide +kernel
theorem dX5_join_98 : decode cX5_join 98 = .ok (.iload_n 2, 1) := by decide +kernel
theorem dX5_join_99 : decode cX5_join 99 = .ok (.bipush (-9), 2) := by decide +kernel
theorem dX5_join_101 : decode cX5_join 101 = .ok (.if_icmp .ne 8, 3) := by decide +kernel
theorem dX5_join_104 : decode cX5_join 104 = .ok (.bipush (-9), 2) := by decide +kernel
theorem dX5_join_106 : decode cX5_join 106 = .ok (.goto 4, 3) := by decide +kernel
theorem dX5_join_109 : decode cX5_join 109 = .ok (.iload_n 3, 1) := by decide +kernel
theorem dX5_join_110 : decode cX5_join 110 = .ok (.invokevirtual 51, 3) := by decide +kernel
theorem dX5_join_113 : decode cX5_join 113 = .ok (.iinc 1 1, 3) := by decide +kernel
theorem dX5_join_116 : decode cX5_join 116 = .ok (.goto (-114), 3) := by decide +kernel
theorem dX5_join_119 : decode cX5_join 119 = .ok (.return_, 1) := by decide +kernel
set_option maxRecDepth 20000 in
theorem ggX5_report_X5_isHead : GoodIn wsX5_report wsX5_isHead := goodIn_r _ [7, 8, 9, 10, 6, 11, 1, 44, 45, 46, 47, 48, 49, 50, 51, 52] (by decide +kernel) (by decide +kernel)
set_option maxRecDepth 20000 in
theorem gX5_report_X5_isHead : GoodIn wsX5_report (wsV RX5 85 RX5 yX5_isHead wsX5_isHead) := goodIn_app (goodIn_of _ (by decide +kernel)) ggX5_report_X5_isHead
set_option maxRecDepth 20000 in
theorem ggX5_report_X5_of : GoodIn wsX5_report wsX5_of := goodIn_r _ [11, 1, 44, 45, 46, 47, 48, 49, 50, 51, 52] (by decide +kernel) (by decide +kernel)
set_option maxRecDepth 20000 in
theorem gX5_report_X5_of : GoodIn wsX5_report (wsV RX5 43 RX5 yX5_of wsX5_of) := goodIn_app (goodIn_of _ (by decide +kernel)) ggX5_report_X5_of
set_option maxRecDepth 20000 in
theorem ggX5_report_X5_lives : GoodIn wsX5_report wsX5_lives := goodIn_r _ [15, 8, 9, 10, 6, 11, 1, 44, 45, 46, 47, 48, 49, 50, 51, 52] (by decide +kernel) (by decide +kernel)
set_option maxRecDepth 20000 in
theorem gX5_report_X5_lives : GoodIn wsX5_report (wsV RX5 63 RX5 yX5_lives wsX5_lives) := goodIn_app (goodIn_of _ (by decide +kernel)) ggX5_report_X5_lives
set_option maxRecDepth 20000 in
theorem ggX5_report_X5_distance : GoodIn wsX5_report wsX5_distance := goodIn_r _ [19, 8, 9, 10, 6, 11, 1, 20, 21, 22, 23, 44, 45, 46, 47, 48, 49, 50, 51, 52] (by decide +kernel) (by decide +kernel)
set_option maxRecDepth 20000 in
theorem gX5_report_X5_distance : GoodIn wsX5_report (wsV RX5 88 RX5 yX5_distance wsX5_distance) := goodIn_app (goodIn_of _ (by decide +kernel)) ggX5_report_X5_distance
set_option maxRecDepth 20000 in
theorem ggX5_report_X5_sendingCost : GoodIn wsX5_report wsX5_sendingCost := goodIn_r _ [27, 28, 29, 30, 6, 31, 1, 44, 45, 46, 47, 48, 49, 50, 51, 52] (by decide +kernel) (by decide +kernel)
set_option maxRecDepth 20000 in
theorem gX5_report_X5_sendingCost : GoodIn wsX5_report (wsV RX5 94 RX5 yX5_sendingCost wsX5_sendingCost) := goodIn_app (goodIn_of _ (by decide +kernel)) ggX5_report_X5_sendingCost
set_option maxRecDepth 20000 in
theorem ggX5_report_X5_pays : GoodIn wsX5_report wsX5_pays := goodIn_r _ [35, 1, 8, 9, 10, 6, 11, 36, 37, 38, 39, 44, 45, 46, 47, 48, 49, 50, 51, 52] (by decide +kernel) (by decide +kernel)
set_option maxRecDepth 20000 in
theorem gX5_report_X5_pays : GoodIn wsX5_report (wsV RX5 75 RX5 yX5_pays wsX5_pays) := goodIn_app (goodIn_of _ (by decide +kernel)) ggX5_report_X5_pays
set_option maxRecDepth 20000 in
theorem ggX5_report_X5_takesIn : GoodIn wsX5_report wsX5_takesIn := goodIn_r _ [43, 12, 13, 14, 6, 15, 8, 9, 10, 11, 1, 28, 29, 30, 31, 32, 33, 34, 35, 36, 37, 38, 39, 44, 45, 46, 47, 48, 49, 50, 51, 52] (by decide +kernel) (by decide +kernel)
set_option maxRecDepth 20000 in
theorem gX5_report_X5_takesIn : GoodIn wsX5_report (wsV RX5 97 RX5 yX5_takesIn wsX5_takesIn) := goodIn_app (goodIn_of _ (by decide +kernel)) ggX5_report_X5_takesIn
set_option maxRecDepth 20000 in
theorem ggX5_report_X5_setting : GoodIn wsX5_report wsX5_setting := goodIn_r _ [31, 1, 44, 45, 46, 47, 48, 49, 50, 51, 52] (by decide +kernel) (by decide +kernel)
set_option maxRecDepth 20000 in
theorem gX5_report_X5_setting : GoodIn wsX5_report (wsV RX5 71 RX5 yX5_setting wsX5_setting) := goodIn_app (goodIn_of _ (by decide +kernel)) ggX5_report_X5_setting
theorem dX5_report_0 : decode cX5_report 0 = .ok (.iconst 0, 1) := by decide +kernel
theorem dX5_report_1 : decode cX5_report 1 = .ok (.istore_n 1, 1) := by decide +kernel
theorem dX5_report_2 : decode cX5_report 2 = .ok (.iload_n 1, 1) := by decide +kernel
theorem dX5_report_3 : decode cX5_report 3 = .ok (.aload_n 0, 1) := by decide +kernel
theorem dX5_report_4 : decode cX5_report 4 = .ok (.getfield 7, 3) := by decide +kernel
theorem dX5_report_7 : decode cX5_report 7 = .ok (.iconst 0, 1) := by decide +kernel
theorem dX5_report_8 : decode cX5_report 8 = .ok (.iaload, 1) := by decide +kernel
theorem dX5_report_9 : decode cX5_report 9 = .ok (.if_icmp .ge 105, 3) := by decide +kernel
theorem dX5_report_12 : decode cX5_report 12 = .ok (.iconst 0, 1) := by decide +kernel
theorem dX5_report_13 : decode cX5_report 13 = .ok (.istore_n 2, 1) := by decide +kernel
theorem dX5_report_14 : decode cX5_report 14 = .ok (.iload_n 2, 1) := by decide +kernel
theorem dX5_report_15 : decode cX5_report 15 = .ok (.aload_n 0, 1) := by decide +kernel
theorem dX5_report_16 : decode cX5_report 16 = .ok (.getfield 7, 3) := by decide +kernel
theorem dX5_report_19 : decode cX5_report 19 = .ok (.iconst 0, 1) := by decide +kernel
theorem dX5_report_20 : decode cX5_report 20 = .ok (.iaload, 1) := by decide +kernel
theorem dX5_report_21 : decode cX5_report 21 = .ok (.if_icmp .ge 87, 3) := by decide +kernel
theorem dX5_report_24 : decode cX5_report 24 = .ok (.aload_n 0, 1) := by decide +kernel
theorem dX5_report_25 : decode cX5_report 25 = .ok (.iload_n 1, 1) := by decide +kernel
theorem dX5_report_26 : decode cX5_report 26 = .ok (.invokevirtual 85, 3) := by decide +kernel
theorem dX5_report_29 : decode cX5_report 29 = .ok (.ifCond .eq 79, 3) := by decide +kernel
theorem dX5_report_32 : decode cX5_report 32 = .ok (.iload_n 2, 1) := by decide +kernel
theorem dX5_report_33 : decode cX5_report 33 = .ok (.iload_n 1, 1) := by decide +kernel
theorem dX5_report_34 : decode cX5_report 34 = .ok (.if_icmp .eq 44, 3) := by decide +kernel
theorem dX5_report_37 : decode cX5_report 37 = .ok (.aload_n 0, 1) := by decide +kernel
theorem dX5_report_38 : decode cX5_report 38 = .ok (.iload_n 2, 1) := by decide +kernel
theorem dX5_report_39 : decode cX5_report 39 = .ok (.bipush 7, 2) := by decide +kernel
theorem dX5_report_41 : decode cX5_report 41 = .ok (.invokevirtual 43, 3) := by decide +kernel
theorem dX5_report_44 : decode cX5_report 44 = .ok (.iload_n 1, 1) := by decide +kernel
theorem dX5_report_45 : decode cX5_report 45 = .ok (.if_icmp .ne 33, 3) := by decide +kernel
theorem dX5_report_48 : decode cX5_report 48 = .ok (.aload_n 0, 1) := by decide +kernel
theorem dX5_report_49 : decode cX5_report 49 = .ok (.iload_n 2, 1) := by decide +kernel
theorem dX5_report_50 : decode cX5_report 50 = .ok (.invokevirtual 63, 3) := by decide +kernel
theorem dX5_report_53 : decode cX5_report 53 = .ok (.ifCond .eq 25, 3) := by decide +kernel
theorem dX5_report_56 : decode cX5_report 56 = .ok (.aload_n 0, 1) := by decide +kernel
theorem dX5_report_57 : decode cX5_report 57 = .ok (.iload_n 2, 1) := by decide +kernel
theorem dX5_report_58 : decode cX5_report 58 = .ok (.aload_n 0, 1) := by decide +kernel
theorem dX5_report_59 : decode cX5_report 59 = .ok (.aload_n 0, 1) := by decide +kernel
theorem dX5_report_60 : decode cX5_report 60 = .ok (.iload_n 2, 1) := by decide +kernel
theorem dX5_report_61 : decode cX5_report 61 = .ok (.iload_n 1, 1) := by decide +kernel
theorem dX5_report_62 : decode cX5_report 62 = .ok (.invokevirtual 88, 3) := by decide +kernel
theorem dX5_report_65 : decode cX5_report 65 = .ok (.invokevirtual 94, 3) := by decide +kernel
theorem dX5_report_68 : decode cX5_report 68 = .ok (.invokevirtual 75, 3) := by decide +kernel
theorem dX5_report_71 : decode cX5_report 71 = .ok (.ifCond .eq 7, 3) := by decide +kernel
theorem dX5_report_74 : decode cX5_report 74 = .ok (.iconst 1, 1) := by decide +kernel
theorem dX5_report_75 : decode cX5_report 75 = .ok (.goto 4, 3) := by decide +kernel
theorem dX5_report_78 : decode cX5_report 78 = .ok (.iconst 0, 1) := by decide +kernel
theorem dX5_report_79 : decode cX5_report 79 = .ok (.istore_n 3, 1) := by decide +kernel
theorem dX5_report_80 : decode cX5_report 80 = .ok (.iload_n 3, 1) := by decide +kernel
theorem dX5_report_81 : decode cX5_report 81 = .ok (.ifCond .eq 21, 3) := by decide +kernel
theorem dX5_report_84 : decode cX5_report 84 = .ok (.aload_n 0, 1) := by decide +kernel
theorem dX5_report_85 : decode cX5_report 85 = .ok (.iload_n 1, 1) := by decide +kernel
theorem dX5_report_86 : decode cX5_report 86 = .ok (.invokevirtual 97, 3) := by decide +kernel
theorem dX5_report_89 : decode cX5_report 89 = .ok (.ifCond .eq 13, 3) := by decide +kernel
theorem dX5_report_92 : decode cX5_report 92 = .ok (.aload_n 0, 1) := by decide +kernel
theorem dX5_report_93 : decode cX5_report 93 = .ok (.getfield 29, 3) := by decide +kernel
theorem dX5_report_96 : decode cX5_report 96 = .ok (.iload_n 1, 1) := by decide +kernel
theorem dX5_report_97 : decode cX5_report 97 = .ok (.dup2, 1) := by decide +kernel
theorem dX5_report_98 : decode cX5_report 98 = .ok (.iaload, 1) := by decide +kernel
theorem dX5_report_99 : decode cX5_report 99 = .ok (.iconst 1, 1) := by decide +kernel
theorem dX5_report_100 : decode cX5_report 100 = .ok (.iadd, 1) := by decide +kernel
theorem dX5_report_101 : decode cX5_report 101 = .ok (.iastore, 1) := by decide +kernel
theorem dX5_report_102 : decode cX5_report 102 = .ok (.iinc 2 1, 3) := by decide +kernel
theorem dX5_report_105 : decode cX5_report 105 = .ok (.goto (-91), 3) := by decide +kernel
theorem dX5_report_108 : decode cX5_report 108 = .ok (.iinc 1 1, 3) := by decide +kernel
theorem dX5_report_111 : decode cX5_report 111 = .ok (.goto (-109), 3) := by decide +kernel
theorem dX5_report_114 : decode cX5_report 114 = .ok (.iconst 0, 1) := by decide +kernel
theorem dX5_report_115 : decode cX5_report 115 = .ok (.istore_n 1, 1) := by decide +kernel
theorem dX5_report_116 : decode cX5_report 116 = .ok (.iload_n 1, 1) := by decide +kernel
theorem dX5_report_117 : decode cX5_report 117 = .ok (.aload_n 0, 1) := by decide +kernel
theorem dX5_report_118 : decode cX5_report 118 = .ok (.getfield 7, 3) := by decide +kernel
theorem dX5_report_121 : decode cX5_report 121 = .ok (.iconst 0, 1) := by decide +kernel
theorem dX5_report_122 : decode cX5_report 122 = .ok (.iaload, 1) := by decide +kernel
theorem dX5_report_123 : decode cX5_report 123 = .ok (.if_icmp .ge 48, 3) := by decide +kernel
theorem dX5_report_126 : decode cX5_report 126 = .ok (.aload_n 0, 1) := by decide +kernel
theorem dX5_report_127 : decode cX5_report 127 = .ok (.iload_n 1, 1) := by decide +kernel
theorem dX5_report_128 : decode cX5_report 128 = .ok (.invokevirtual 85, 3) := by decide +kernel
theorem dX5_report_131 : decode cX5_report 131 = .ok (.ifCond .eq 34, 3) := by decide +kernel
theorem dX5_report_134 : decode cX5_report 134 = .ok (.aload_n 0, 1) := by decide +kernel
theorem dX5_report_135 : decode cX5_report 135 = .ok (.iload_n 1, 1) := by decide +kernel
theorem dX5_report_136 : decode cX5_report 136 = .ok (.invokevirtual 63, 3) := by decide +kernel
theorem dX5_report_139 : decode cX5_report 139 = .ok (.ifCond .eq 26, 3) := by decide +kernel
theorem dX5_report_142 : decode cX5_report 142 = .ok (.aload_n 0, 1) := by decide +kernel
theorem dX5_report_143 : decode cX5_report 143 = .ok (.iload_n 1, 1) := by decide +kernel
theorem dX5_report_144 : decode cX5_report 144 = .ok (.aload_n 0, 1) := by decide +kernel
theorem dX5_report_145 : decode cX5_report 145 = .ok (.iconst 3, 1) := by decide +kernel
theorem dX5_report_146 : decode cX5_report 146 = .ok (.invokevirtual 71, 3) := by decide +kernel
theorem dX5_report_149 : decode cX5_report 149 = .ok (.invokevirtual 75, 3) := by decide +kernel
theorem dX5_report_152 : decode cX5_report 152 = .ok (.ifCond .eq 13, 3) := by decide +kernel
theorem dX5_report_155 : decode cX5_report 155 = .ok (.aload_n 0, 1) := by decide +kernel
theorem dX5_report_156 : decode cX5_report 156 = .ok (.getfield 29, 3) := by decide +kernel
theorem dX5_report_159 : decode cX5_report 159 = .ok (.iload_n 1, 1) := by decide +kernel
theorem dX5_report_160 : decode cX5_report 160 = .ok (.dup2, 1) := by decide +kernel
theorem dX5_report_161 : decode cX5_report 161 = .ok (.iaload, 1) := by decide +kernel
theorem dX5_report_162 : decode cX5_report 162 = .ok (.iconst 1, 1) := by decide +kernel
theorem dX5_report_163 : decode cX5_report 163 = .ok (.iadd, 1) := by decide +kernel
theorem dX5_report_164 : decode cX5_report 164 = .ok (.iastore, 1) := by decide +kernel
theorem dX5_report_165 : decode cX5_report 165 = .ok (.iinc 1 1, 3) := by decide +kernel
theorem dX5_report_168 : decode cX5_report 168 = .ok (.goto (-52), 3) := by decide +kernel
theorem dX5_report_171 : decode cX5_report 171 = .ok (.return_, 1) := by decide +kernel
set_option maxRecDepth 20000 in
theorem ggX5_deliver_X5_lives : GoodIn wsX5_deliver wsX5_lives := goodIn_r _ [7, 8, 9, 10, 6, 11, 1, 36, 37, 38, 39, 40, 41, 42, 43, 44] (by decide +kernel) (by decide +kernel)
set_option maxRecDepth 20000 in
theorem gX5_deliver_X5_lives : GoodIn wsX5_deliver (wsV RX5 63 RX5 yX5_lives wsX5_lives) := goodIn_app (goodIn_of _ (by decide +kernel)) ggX5_deliver_X5_lives
set_option maxRecDepth 20000 in
theorem ggX5_deliver_X5_distanceToBase : GoodIn wsX5_deliver wsX5_distanceToBase := goodIn_r _ [15, 1, 16, 17, 18, 6, 19, 8, 9, 10, 11, 36, 37, 38, 39, 40, 41, 42, 43, 44] (by decide +kernel) (by decide +kernel)
set_option maxRecDepth 20000 in
theorem gX5_deliver_X5_distanceToBase : GoodIn wsX5_deliver (wsV RX5 100 RX5 yX5_distanceToBase wsX5_distanceToBase) := goodIn_app (goodIn_of _ (by decide +kernel)) ggX5_deliver_X5_distanceToBase
set_option maxRecDepth 20000 in
theorem ggX5_deliver_X5_sendingCost : GoodIn wsX5_deliver wsX5_sendingCost := goodIn_r _ [23, 24, 25, 26, 6, 27, 1, 36, 37, 38, 39, 40, 41, 42, 43, 44] (by decide +kernel) (by decide +kernel)
set_option maxRecDepth 20000 in
theorem gX5_deliver_X5_sendingCost : GoodIn wsX5_deliver (wsV RX5 94 RX5 yX5_sendingCost wsX5_sendingCost) := goodIn_app (goodIn_of _ (by decide +kernel)) ggX5_deliver_X5_sendingCost
set_option maxRecDepth 20000 in
theorem ggX5_deliver_X5_pays : GoodIn wsX5_deliver wsX5_pays := goodIn_r _ [31, 1, 8, 9, 10, 6, 11, 32, 33, 34, 35, 36, 37, 38, 39, 40, 41, 42, 43, 44] (by decide +kernel) (by decide +kernel)
set_option maxRecDepth 20000 in
theorem gX5_deliver_X5_pays : GoodIn wsX5_deliver (wsV RX5 75 RX5 yX5_pays wsX5_pays) := goodIn_app (goodIn_of _ (by decide +kernel)) ggX5_deliver_X5_pays
theorem dX5_deliver_0 : decode cX5_deliver 0 = .ok (.aload_n 0, 1) := by decide +kernel
theorem dX5_deliver_1 : decode cX5_deliver 1 = .ok (.iload_n 1, 1) := by decide +kernel
theorem dX5_deliver_2 : decode cX5_deliver 2 = .ok (.invokevirtual 63, 3) := by decide +kernel
theorem dX5_deliver_5 : decode cX5_deliver 5 = .ok (.ifCond .eq 36, 3) := by decide +kernel
theorem dX5_deliver_8 : decode cX5_deliver 8 = .ok (.aload_n 0, 1) := by decide +kernel
theorem dX5_deliver_9 : decode cX5_deliver 9 = .ok (.iload_n 1, 1) := by decide +kernel
theorem dX5_deliver_10 : decode cX5_deliver 10 = .ok (.aload_n 0, 1) := by decide +kernel
theorem dX5_deliver_11 : decode cX5_deliver 11 = .ok (.aload_n 0, 1) := by decide +kernel
theorem dX5_deliver_12 : decode cX5_deliver 12 = .ok (.iload_n 1, 1) := by decide +kernel
theorem dX5_deliver_13 : decode cX5_deliver 13 = .ok (.invokevirtual 100, 3) := by decide +kernel
theorem dX5_deliver_16 : decode cX5_deliver 16 = .ok (.invokevirtual 94, 3) := by decide +kernel
theorem dX5_deliver_19 : decode cX5_deliver 19 = .ok (.invokevirtual 75, 3) := by decide +kernel
theorem dX5_deliver_22 : decode cX5_deliver 22 = .ok (.ifCond .eq 19, 3) := by decide +kernel
theorem dX5_deliver_25 : decode cX5_deliver 25 = .ok (.aload_n 0, 1) := by decide +kernel
theorem dX5_deliver_26 : decode cX5_deliver 26 = .ok (.getfield 7, 3) := by decide +kernel
theorem dX5_deliver_29 : decode cX5_deliver 29 = .ok (.bipush 12, 2) := by decide +kernel
theorem dX5_deliver_31 : decode cX5_deliver 31 = .ok (.dup2, 1) := by decide +kernel
theorem dX5_deliver_32 : decode cX5_deliver 32 = .ok (.iaload, 1) := by decide +kernel
theorem dX5_deliver_33 : decode cX5_deliver 33 = .ok (.aload_n 0, 1) := by decide +kernel
theorem dX5_deliver_34 : decode cX5_deliver 34 = .ok (.getfield 29, 3) := by decide +kernel
theorem dX5_deliver_37 : decode cX5_deliver 37 = .ok (.iload_n 1, 1) := by decide +kernel
theorem dX5_deliver_38 : decode cX5_deliver 38 = .ok (.iaload, 1) := by decide +kernel
theorem dX5_deliver_39 : decode cX5_deliver 39 = .ok (.iadd, 1) := by decide +kernel
theorem dX5_deliver_40 : decode cX5_deliver 40 = .ok (.iastore, 1) := by decide +kernel
theorem dX5_deliver_41 : decode cX5_deliver 41 = .ok (.return_, 1) := by decide +kernel
set_option maxRecDepth 20000 in
theorem ggX5_relay_X5_isHead : GoodIn wsX5_relay wsX5_isHead := goodIn_r _ [6, 7, 8, 9, 5, 10, 1, 23, 24, 25, 26, 27, 28, 29, 30, 31] (by decide +kernel) (by decide +kernel)
set_option maxRecDepth 20000 in
theorem gX5_relay_X5_isHead : GoodIn wsX5_relay (wsV RX5 85 RX5 yX5_isHead wsX5_isHead) := goodIn_app (goodIn_of _ (by decide +kernel)) ggX5_relay_X5_isHead
set_option maxRecDepth 20000 in
theorem ggX5_relay_X5_lives : GoodIn wsX5_relay wsX5_lives := goodIn_r _ [14, 7, 8, 9, 5, 10, 1, 23, 24, 25, 26, 27, 28, 29, 30, 31] (by decide +kernel) (by decide +kernel)
set_option maxRecDepth 20000 in
theorem gX5_relay_X5_lives : GoodIn wsX5_relay (wsV RX5 63 RX5 yX5_lives wsX5_lives) := goodIn_app (goodIn_of _ (by decide +kernel)) ggX5_relay_X5_lives
set_option maxRecDepth 20000 in
theorem ggX5_relay_X5_distanceToBase : GoodIn wsX5_relay wsX5_distanceToBase := goodIn_r _ [18, 1, 19, 20, 21, 5, 22, 7, 8, 9, 10, 23, 24, 25, 26, 27, 28, 29, 30, 31] (by decide +kernel) (by decide +kernel)
set_option maxRecDepth 20000 in
theorem gX5_relay_X5_distanceToBase : GoodIn wsX5_relay (wsV RX5 100 RX5 yX5_distanceToBase wsX5_distanceToBase) := goodIn_app (goodIn_of _ (by decide +kernel)) ggX5_relay_X5_distanceToBase
theorem dX5_relay_0 : decode cX5_relay 0 = .ok (.bipush (-9), 2) := by decide +kernel
theorem dX5_relay_2 : decode cX5_relay 2 = .ok (.istore_n 1, 1) := by decide +kernel
theorem dX5_relay_3 : decode cX5_relay 3 = .ok (.iconst 0, 1) := by decide +kernel
theorem dX5_relay_4 : decode cX5_relay 4 = .ok (.istore_n 2, 1) := by decide +kernel
theorem dX5_relay_5 : decode cX5_relay 5 = .ok (.iload_n 2, 1) := by decide +kernel
theorem dX5_relay_6 : decode cX5_relay 6 = .ok (.aload_n 0, 1) := by decide +kernel
theorem dX5_relay_7 : decode cX5_relay 7 = .ok (.getfield 7, 3) := by decide +kernel
theorem dX5_relay_10 : decode cX5_relay 10 = .ok (.iconst 0, 1) := by decide +kernel
theorem dX5_relay_11 : decode cX5_relay 11 = .ok (.iaload, 1) := by decide +kernel
theorem dX5_relay_12 : decode cX5_relay 12 = .ok (.if_icmp .ge 46, 3) := by decide +kernel
theorem dX5_relay_15 : decode cX5_relay 15 = .ok (.aload_n 0, 1) := by decide +kernel
theorem dX5_relay_16 : decode cX5_relay 16 = .ok (.iload_n 2, 1) := by decide +kernel
theorem dX5_relay_17 : decode cX5_relay 17 = .ok (.invokevirtual 85, 3) := by decide +kernel
theorem dX5_relay_20 : decode cX5_relay 20 = .ok (.ifCond .eq 32, 3) := by decide +kernel
theorem dX5_relay_23 : decode cX5_relay 23 = .ok (.aload_n 0, 1) := by decide +kernel
theorem dX5_relay_24 : decode cX5_relay 24 = .ok (.iload_n 2, 1) := by decide +kernel
theorem dX5_relay_25 : decode cX5_relay 25 = .ok (.invokevirtual 63, 3) := by decide +kernel
theorem dX5_relay_28 : decode cX5_relay 28 = .ok (.ifCond .eq 24, 3) := by decide +kernel
theorem dX5_relay_31 : decode cX5_relay 31 = .ok (.iload_n 1, 1) := by decide +kernel
theorem dX5_relay_32 : decode cX5_relay 32 = .ok (.bipush (-9), 2) := by decide +kernel
theorem dX5_relay_34 : decode cX5_relay 34 = .ok (.if_icmp .eq 16, 3) := by decide +kernel
theorem dX5_relay_37 : decode cX5_relay 37 = .ok (.aload_n 0, 1) := by decide +kernel
theorem dX5_relay_38 : decode cX5_relay 38 = .ok (.iload_n 2, 1) := by decide +kernel
theorem dX5_relay_39 : decode cX5_relay 39 = .ok (.invokevirtual 100, 3) := by decide +kernel
theorem dX5_relay_42 : decode cX5_relay 42 = .ok (.aload_n 0, 1) := by decide +kernel
theorem dX5_relay_43 : decode cX5_relay 43 = .ok (.iload_n 1, 1) := by decide +kernel
theorem dX5_relay_44 : decode cX5_relay 44 = .ok (.invokevirtual 100, 3) := by decide +kernel
theorem dX5_relay_47 : decode cX5_relay 47 = .ok (.if_icmp .ge 5, 3) := by decide +kernel
theorem dX5_relay_50 : decode cX5_relay 50 = .ok (.iload_n 2, 1) := by decide +kernel
theorem dX5_relay_51 : decode cX5_relay 51 = .ok (.istore_n 1, 1) := by decide +kernel
theorem dX5_relay_52 : decode cX5_relay 52 = .ok (.iinc 2 1, 3) := by decide +kernel
theorem dX5_relay_55 : decode cX5_relay 55 = .ok (.goto (-50), 3) := by decide +kernel
theorem dX5_relay_58 : decode cX5_relay 58 = .ok (.iload_n 1, 1) := by decide +kernel
theorem dX5_relay_59 : decode cX5_relay 59 = .ok (.ireturn, 1) := by decide +kernel
set_option maxRecDepth 20000 in
theorem ggX5_deliverByRelay_X5_relay : GoodIn wsX5_deliverByRelay wsX5_relay := goodIn_r _ [7, 1, 8, 9, 10, 6, 11, 12, 13, 14, 15, 16, 17, 18, 19, 20, 21, 22, 23, 24, 25, 26, 27, 56, 57, 58, 59, 60, 61, 62, 63, 64] (by decide +kernel) (by decide +kernel)
set_option maxRecDepth 20000 in
theorem gX5_deliverByRelay_X5_relay : GoodIn wsX5_deliverByRelay (wsV RX5 103 RX5 yX5_relay wsX5_relay) := goodIn_app (goodIn_of _ (by decide +kernel)) ggX5_deliverByRelay_X5_relay
set_option maxRecDepth 20000 in
theorem ggX5_deliverByRelay_X5_isHead : GoodIn wsX5_deliverByRelay wsX5_isHead := goodIn_r _ [11, 12, 13, 14, 6, 15, 1, 56, 57, 58, 59, 60, 61, 62, 63, 64] (by decide +kernel) (by decide +kernel)
set_option maxRecDepth 20000 in
theorem gX5_deliverByRelay_X5_isHead : GoodIn wsX5_deliverByRelay (wsV RX5 85 RX5 yX5_isHead wsX5_isHead) := goodIn_app (goodIn_of _ (by decide +kernel)) ggX5_deliverByRelay_X5_isHead
set_option maxRecDepth 20000 in
theorem ggX5_deliverByRelay_X5_lives : GoodIn wsX5_deliverByRelay wsX5_lives := goodIn_r _ [19, 12, 13, 14, 6, 15, 1, 56, 57, 58, 59, 60, 61, 62, 63, 64] (by decide +kernel) (by decide +kernel)
set_option maxRecDepth 20000 in
theorem gX5_deliverByRelay_X5_lives : GoodIn wsX5_deliverByRelay (wsV RX5 63 RX5 yX5_lives wsX5_lives) := goodIn_app (goodIn_of _ (by decide +kernel)) ggX5_deliverByRelay_X5_lives
set_option maxRecDepth 20000 in
theorem ggX5_deliverByRelay_X5_distance : GoodIn wsX5_deliverByRelay wsX5_distance := goodIn_r _ [31, 12, 13, 14, 6, 15, 1, 24, 25, 26, 27, 56, 57, 58, 59, 60, 61, 62, 63, 64] (by decide +kernel) (by decide +kernel)
set_option maxRecDepth 20000 in
theorem gX5_deliverByRelay_X5_distance : GoodIn wsX5_deliverByRelay (wsV RX5 88 RX5 yX5_distance wsX5_distance) := goodIn_app (goodIn_of _ (by decide +kernel)) ggX5_deliverByRelay_X5_distance
set_option maxRecDepth 20000 in
theorem ggX5_deliverByRelay_X5_sendingCost : GoodIn wsX5_deliverByRelay wsX5_sendingCost := goodIn_r _ [35, 36, 37, 38, 6, 39, 1, 56, 57, 58, 59, 60, 61, 62, 63, 64] (by decide +kernel) (by decide +kernel)
set_option maxRecDepth 20000 in
theorem gX5_deliverByRelay_X5_sendingCost : GoodIn wsX5_deliverByRelay (wsV RX5 94 RX5 yX5_sendingCost wsX5_sendingCost) := goodIn_app (goodIn_of _ (by decide +kernel)) ggX5_deliverByRelay_X5_sendingCost
set_option maxRecDepth 20000 in
theorem ggX5_deliverByRelay_X5_pays : GoodIn wsX5_deliverByRelay wsX5_pays := goodIn_r _ [43, 1, 12, 13, 14, 6, 15, 44, 45, 46, 47, 56, 57, 58, 59, 60, 61, 62, 63, 64] (by decide +kernel) (by decide +kernel)
set_option maxRecDepth 20000 in
theorem gX5_deliverByRelay_X5_pays : GoodIn wsX5_deliverByRelay (wsV RX5 75 RX5 yX5_pays wsX5_pays) := goodIn_app (goodIn_of _ (by decide +kernel)) ggX5_deliverByRelay_X5_pays
set_option maxRecDepth 20000 in
theorem ggX5_deliverByRelay_X5_takesIn : GoodIn wsX5_deliverByRelay wsX5_takesIn := goodIn_r _ [51, 16, 17, 18, 6, 19, 12, 13, 14, 15, 1, 36, 37, 38, 39, 40, 41, 42, 43, 44, 45, 46, 47, 56, 57, 58, 59, 60, 61, 62, 63, 64] (by decide +kernel) (by decide +kernel)
set_option maxRecDepth 20000 in
theorem gX5_deliverByRelay_X5_takesIn : GoodIn wsX5_deliverByRelay (wsV RX5 97 RX5 yX5_takesIn wsX5_takesIn) := goodIn_app (goodIn_of _ (by decide +kernel)) ggX5_deliverByRelay_X5_takesIn
set_option maxRecDepth 20000 in
theorem ggX5_deliverByRelay_X5_deliver : GoodIn wsX5_deliverByRelay wsX5_deliver := goodIn_r _ [55, 1, 2, 16, 17, 18, 6, 19, 12, 13, 14, 15, 20, 21, 22, 23, 24, 25, 26, 27, 32, 33, 34, 35, 36, 37, 38, 39, 40, 41, 42, 43, 44, 45, 46, 47, 56, 57, 58, 59, 60, 61, 62, 63, 64] (by decide +kernel) (by decide +kernel)
set_option maxRecDepth 20000 in
theorem gX5_deliverByRelay_X5_deliver : GoodIn wsX5_deliverByRelay (wsV RX5 106 RX5 yX5_deliver wsX5_deliver) := goodIn_app (goodIn_of _ (by decide +kernel)) ggX5_deliverByRelay_X5_deliver
theorem dX5_deliverByRelay_0 : decode cX5_deliverByRelay 0 = .ok (.aload_n 0, 1) := by decide +kernel
theorem dX5_deliverByRelay_1 : decode cX5_deliverByRelay 1 = .ok (.invokevirtual 103, 3) := by decide +kernel
theorem dX5_deliverByRelay_4 : decode cX5_deliverByRelay 4 = .ok (.istore_n 1, 1) := by decide +kernel
theorem dX5_deliverByRelay_5 : decode cX5_deliverByRelay 5 = .ok (.iload_n 1, 1) := by decide +kernel
theorem dX5_deliverByRelay_6 : decode cX5_deliverByRelay 6 = .ok (.bipush (-9), 2) := by decide +kernel
theorem dX5_deliverByRelay_8 : decode cX5_deliverByRelay 8 = .ok (.if_icmp .ne 4, 3) := by decide +kernel
theorem dX5_deliverByRelay_11 : decode cX5_deliverByRelay 11 = .ok (.return_, 1) := by decide +kernel
theorem dX5_deliverByRelay_12 : decode cX5_deliverByRelay 12 = .ok (.iconst 0, 1) := by decide +kernel
theorem dX5_deliverByRelay_13 : decode cX5_deliverByRelay 13 = .ok (.istore_n 2, 1) := by decide +kernel
theorem dX5_deliverByRelay_14 : decode cX5_deliverByRelay 14 = .ok (.iload_n 2, 1) := by decide +kernel
theorem dX5_deliverByRelay_15 : decode cX5_deliverByRelay 15 = .ok (.aload_n 0, 1) := by decide +kernel
theorem dX5_deliverByRelay_16 : decode cX5_deliverByRelay 16 = .ok (.getfield 7, 3) := by decide +kernel
theorem dX5_deliverByRelay_19 : decode cX5_deliverByRelay 19 = .ok (.iconst 0, 1) := by decide +kernel
theorem dX5_deliverByRelay_20 : decode cX5_deliverByRelay 20 = .ok (.iaload, 1) := by decide +kernel
theorem dX5_deliverByRelay_21 : decode cX5_deliverByRelay 21 = .ok (.if_icmp .ge 81, 3) := by decide +kernel
theorem dX5_deliverByRelay_24 : decode cX5_deliverByRelay 24 = .ok (.aload_n 0, 1) := by decide +kernel
theorem dX5_deliverByRelay_25 : decode cX5_deliverByRelay 25 = .ok (.iload_n 2, 1) := by decide +kernel
theorem dX5_deliverByRelay_26 : decode cX5_deliverByRelay 26 = .ok (.invokevirtual 85, 3) := by decide +kernel
theorem dX5_deliverByRelay_29 : decode cX5_deliverByRelay 29 = .ok (.ifCond .eq 38, 3) := by decide +kernel
theorem dX5_deliverByRelay_32 : decode cX5_deliverByRelay 32 = .ok (.iload_n 2, 1) := by decide +kernel
theorem dX5_deliverByRelay_33 : decode cX5_deliverByRelay 33 = .ok (.iload_n 1, 1) := by decide +kernel
theorem dX5_deliverByRelay_34 : decode cX5_deliverByRelay 34 = .ok (.if_icmp .eq 33, 3) := by decide +kernel
theorem dX5_deliverByRelay_37 : decode cX5_deliverByRelay 37 = .ok (.aload_n 0, 1) := by decide +kernel
theorem dX5_deliverByRelay_38 : decode cX5_deliverByRelay 38 = .ok (.iload_n 2, 1) := by decide +kernel
theorem dX5_deliverByRelay_39 : decode cX5_deliverByRelay 39 = .ok (.invokevirtual 63, 3) := by decide +kernel
theorem dX5_deliverByRelay_42 : decode cX5_deliverByRelay 42 = .ok (.ifCond .eq 25, 3) := by decide +kernel
theorem dX5_deliverByRelay_45 : decode cX5_deliverByRelay 45 = .ok (.aload_n 0, 1) := by decide +kernel
theorem dX5_deliverByRelay_46 : decode cX5_deliverByRelay 46 = .ok (.iload_n 2, 1) := by decide +kernel
theorem dX5_deliverByRelay_47 : decode cX5_deliverByRelay 47 = .ok (.aload_n 0, 1) := by decide +kernel
theorem dX5_deliverByRelay_48 : decode cX5_deliverByRelay 48 = .ok (.aload_n 0, 1) := by decide +kernel
theorem dX5_deliverByRelay_49 : decode cX5_deliverByRelay 49 = .ok (.iload_n 2, 1) := by decide +kernel
theorem dX5_deliverByRelay_50 : decode cX5_deliverByRelay 50 = .ok (.iload_n 1, 1) := by decide +kernel
theorem dX5_deliverByRelay_51 : decode cX5_deliverByRelay 51 = .ok (.invokevirtual 88, 3) := by decide +kernel
theorem dX5_deliverByRelay_54 : decode cX5_deliverByRelay 54 = .ok (.invokevirtual 94, 3) := by decide +kernel
theorem dX5_deliverByRelay_57 : decode cX5_deliverByRelay 57 = .ok (.invokevirtual 75, 3) := by decide +kernel
theorem dX5_deliverByRelay_60 : decode cX5_deliverByRelay 60 = .ok (.ifCond .eq 7, 3) := by decide +kernel
theorem dX5_deliverByRelay_63 : decode cX5_deliverByRelay 63 = .ok (.iconst 1, 1) := by decide +kernel
theorem dX5_deliverByRelay_64 : decode cX5_deliverByRelay 64 = .ok (.goto 4, 3) := by decide +kernel
theorem dX5_deliverByRelay_67 : decode cX5_deliverByRelay 67 = .ok (.iconst 0, 1) := by decide +kernel
theorem dX5_deliverByRelay_68 : decode cX5_deliverByRelay 68 = .ok (.istore_n 3, 1) := by decide +kernel
theorem dX5_deliverByRelay_69 : decode cX5_deliverByRelay 69 = .ok (.iload_n 3, 1) := by decide +kernel
theorem dX5_deliverByRelay_70 : decode cX5_deliverByRelay 70 = .ok (.ifCond .eq 26, 3) := by decide +kernel
theorem dX5_deliverByRelay_73 : decode cX5_deliverByRelay 73 = .ok (.aload_n 0, 1) := by decide +kernel
theorem dX5_deliverByRelay_74 : decode cX5_deliverByRelay 74 = .ok (.iload_n 1, 1) := by decide +kernel
theorem dX5_deliverByRelay_75 : decode cX5_deliverByRelay 75 = .ok (.invokevirtual 97, 3) := by decide +kernel
theorem dX5_deliverByRelay_78 : decode cX5_deliverByRelay 78 = .ok (.ifCond .eq 18, 3) := by decide +kernel
theorem dX5_deliverByRelay_81 : decode cX5_deliverByRelay 81 = .ok (.aload_n 0, 1) := by decide +kernel
theorem dX5_deliverByRelay_82 : decode cX5_deliverByRelay 82 = .ok (.getfield 29, 3) := by decide +kernel
theorem dX5_deliverByRelay_85 : decode cX5_deliverByRelay 85 = .ok (.iload_n 1, 1) := by decide +kernel
theorem dX5_deliverByRelay_86 : decode cX5_deliverByRelay 86 = .ok (.dup2, 1) := by decide +kernel
theorem dX5_deliverByRelay_87 : decode cX5_deliverByRelay 87 = .ok (.iaload, 1) := by decide +kernel
theorem dX5_deliverByRelay_88 : decode cX5_deliverByRelay 88 = .ok (.aload_n 0, 1) := by decide +kernel
theorem dX5_deliverByRelay_89 : decode cX5_deliverByRelay 89 = .ok (.getfield 29, 3) := by decide +kernel
theorem dX5_deliverByRelay_92 : decode cX5_deliverByRelay 92 = .ok (.iload_n 2, 1) := by decide +kernel
theorem dX5_deliverByRelay_93 : decode cX5_deliverByRelay 93 = .ok (.iaload, 1) := by decide +kernel
theorem dX5_deliverByRelay_94 : decode cX5_deliverByRelay 94 = .ok (.iadd, 1) := by decide +kernel
theorem dX5_deliverByRelay_95 : decode cX5_deliverByRelay 95 = .ok (.iastore, 1) := by decide +kernel
theorem dX5_deliverByRelay_96 : decode cX5_deliverByRelay 96 = .ok (.iinc 2 1, 3) := by decide +kernel
theorem dX5_deliverByRelay_99 : decode cX5_deliverByRelay 99 = .ok (.goto (-85), 3) := by decide +kernel
theorem dX5_deliverByRelay_102 : decode cX5_deliverByRelay 102 = .ok (.aload_n 0, 1) := by decide +kernel
theorem dX5_deliverByRelay_103 : decode cX5_deliverByRelay 103 = .ok (.iload_n 1, 1) := by decide +kernel
theorem dX5_deliverByRelay_104 : decode cX5_deliverByRelay 104 = .ok (.invokevirtual 106, 3) := by decide +kernel
theorem dX5_deliverByRelay_107 : decode cX5_deliverByRelay 107 = .ok (.return_, 1) := by decide +kernel
set_option maxRecDepth 20000 in
theorem ggX5_deliverAlone_X5_deliver : GoodIn wsX5_deliverAlone wsX5_deliver := goodIn_r _ [7, 1, 2, 8, 9, 10, 6, 11, 12, 13, 14, 15, 16, 17, 18, 19, 20, 21, 22, 23, 24, 25, 26, 27, 28, 29, 30, 31, 32, 33, 34, 35, 36, 37, 38, 39, 40, 41, 42, 43, 44, 45, 46, 47, 48] (by decide +kernel) (by decide +kernel)
set_option maxRecDepth 20000 in
theorem gX5_deliverAlone_X5_deliver : GoodIn wsX5_deliverAlone (wsV RX5 106 RX5 yX5_deliver wsX5_deliver) := goodIn_app (goodIn_of _ (by decide +kernel)) ggX5_deliverAlone_X5_deliver
theorem dX5_deliverAlone_0 : decode cX5_deliverAlone 0 = .ok (.iconst 0, 1) := by decide +kernel
theorem dX5_deliverAlone_1 : decode cX5_deliverAlone 1 = .ok (.istore_n 1, 1) := by decide +kernel
theorem dX5_deliverAlone_2 : decode cX5_deliverAlone 2 = .ok (.iload_n 1, 1) := by decide +kernel
theorem dX5_deliverAlone_3 : decode cX5_deliverAlone 3 = .ok (.aload_n 0, 1) := by decide +kernel
theorem dX5_deliverAlone_4 : decode cX5_deliverAlone 4 = .ok (.getfield 7, 3) := by decide +kernel
theorem dX5_deliverAlone_7 : decode cX5_deliverAlone 7 = .ok (.iconst 0, 1) := by decide +kernel
theorem dX5_deliverAlone_8 : decode cX5_deliverAlone 8 = .ok (.iaload, 1) := by decide +kernel
theorem dX5_deliverAlone_9 : decode cX5_deliverAlone 9 = .ok (.if_icmp .ge 21, 3) := by decide +kernel
theorem dX5_deliverAlone_12 : decode cX5_deliverAlone 12 = .ok (.aload_n 0, 1) := by decide +kernel
theorem dX5_deliverAlone_13 : decode cX5_deliverAlone 13 = .ok (.getfield 29, 3) := by decide +kernel
theorem dX5_deliverAlone_16 : decode cX5_deliverAlone 16 = .ok (.iload_n 1, 1) := by decide +kernel
theorem dX5_deliverAlone_17 : decode cX5_deliverAlone 17 = .ok (.iconst 1, 1) := by decide +kernel
theorem dX5_deliverAlone_18 : decode cX5_deliverAlone 18 = .ok (.iastore, 1) := by decide +kernel
theorem dX5_deliverAlone_19 : decode cX5_deliverAlone 19 = .ok (.aload_n 0, 1) := by decide +kernel
theorem dX5_deliverAlone_20 : decode cX5_deliverAlone 20 = .ok (.iload_n 1, 1) := by decide +kernel
theorem dX5_deliverAlone_21 : decode cX5_deliverAlone 21 = .ok (.invokevirtual 106, 3) := by decide +kernel
theorem dX5_deliverAlone_24 : decode cX5_deliverAlone 24 = .ok (.iinc 1 1, 3) := by decide +kernel
theorem dX5_deliverAlone_27 : decode cX5_deliverAlone 27 = .ok (.goto (-25), 3) := by decide +kernel
theorem dX5_deliverAlone_30 : decode cX5_deliverAlone 30 = .ok (.return_, 1) := by decide +kernel
set_option maxRecDepth 20000 in
theorem ggX5_deliverAll_X5_isHead : GoodIn wsX5_deliverAll wsX5_isHead := goodIn_r _ [6, 7, 8, 9, 5, 10, 1, 44, 45, 46, 47, 48, 49, 50, 51, 52] (by decide +kernel) (by decide +kernel)
set_option maxRecDepth 20000 in
theorem gX5_deliverAll_X5_isHead : GoodIn wsX5_deliverAll (wsV RX5 85 RX5 yX5_isHead wsX5_isHead) := goodIn_app (goodIn_of _ (by decide +kernel)) ggX5_deliverAll_X5_isHead
set_option maxRecDepth 20000 in
theorem ggX5_deliverAll_X5_deliver : GoodIn wsX5_deliverAll wsX5_deliver := goodIn_r _ [14, 1, 15, 16, 17, 18, 5, 19, 7, 8, 9, 10, 20, 21, 22, 23, 24, 25, 26, 27, 28, 29, 30, 31, 32, 33, 34, 35, 36, 37, 38, 39, 40, 41, 42, 43, 44, 45, 46, 47, 48, 49, 50, 51, 52] (by decide +kernel) (by decide +kernel)
set_option maxRecDepth 20000 in
theorem gX5_deliverAll_X5_deliver : GoodIn wsX5_deliverAll (wsV RX5 106 RX5 yX5_deliver wsX5_deliver) := goodIn_app (goodIn_of _ (by decide +kernel)) ggX5_deliverAll_X5_deliver
theorem dX5_deliverAll_0 : decode cX5_deliverAll 0 = .ok (.iconst 0, 1) := by decide +kernel
theorem dX5_deliverAll_1 : decode cX5_deliverAll 1 = .ok (.istore_n 1, 1) := by decide +kernel
theorem dX5_deliverAll_2 : decode cX5_deliverAll 2 = .ok (.iload_n 1, 1) := by decide +kernel
theorem dX5_deliverAll_3 : decode cX5_deliverAll 3 = .ok (.aload_n 0, 1) := by decide +kernel
theorem dX5_deliverAll_4 : decode cX5_deliverAll 4 = .ok (.getfield 7, 3) := by decide +kernel
theorem dX5_deliverAll_7 : decode cX5_deliverAll 7 = .ok (.iconst 0, 1) := by decide +kernel
theorem dX5_deliverAll_8 : decode cX5_deliverAll 8 = .ok (.iaload, 1) := by decide +kernel
theorem dX5_deliverAll_9 : decode cX5_deliverAll 9 = .ok (.if_icmp .ge 22, 3) := by decide +kernel
theorem dX5_deliverAll_12 : decode cX5_deliverAll 12 = .ok (.aload_n 0, 1) := by decide +kernel
theorem dX5_deliverAll_13 : decode cX5_deliverAll 13 = .ok (.iload_n 1, 1) := by decide +kernel
theorem dX5_deliverAll_14 : decode cX5_deliverAll 14 = .ok (.invokevirtual 85, 3) := by decide +kernel
theorem dX5_deliverAll_17 : decode cX5_deliverAll 17 = .ok (.ifCond .eq 8, 3) := by decide +kernel
theorem dX5_deliverAll_20 : decode cX5_deliverAll 20 = .ok (.aload_n 0, 1) := by decide +kernel
theorem dX5_deliverAll_21 : decode cX5_deliverAll 21 = .ok (.iload_n 1, 1) := by decide +kernel
theorem dX5_deliverAll_22 : decode cX5_deliverAll 22 = .ok (.invokevirtual 106, 3) := by decide +kernel
theorem dX5_deliverAll_25 : decode cX5_deliverAll 25 = .ok (.iinc 1 1, 3) := by decide +kernel
theorem dX5_deliverAll_28 : decode cX5_deliverAll 28 = .ok (.goto (-26), 3) := by decide +kernel
theorem dX5_deliverAll_31 : decode cX5_deliverAll 31 = .ok (.return_, 1) := by decide +kernel
set_option maxRecDepth 20000 in
theorem ggX5_perform_X5_elect : GoodIn wsX5_perform wsX5_elect := goodIn_r _ [6, 1, 7, 8, 9, 10, 11, 5, 12, 13, 14, 15, 16, 17, 18, 19, 20, 21, 22, 23, 24, 25, 26, 27, 28, 29, 30, 31, 96, 97, 98, 99, 100, 101, 102, 103, 104] (by decide +kernel) (by decide +kernel)
set_option maxRecDepth 20000 in
theorem gX5_perform_X5_elect : GoodIn wsX5_perform (wsV RX5 110 RX5 yX5_elect wsX5_elect) := goodIn_app (goodIn_of _ (by decide +kernel)) ggX5_perform_X5_elect
set_option maxRecDepth 20000 in
theorem ggX5_perform_X5_announce : GoodIn wsX5_perform wsX5_announce := goodIn_r _ [35, 1, 8, 9, 10, 11, 5, 12, 36, 37, 38, 39, 13, 14, 15, 16, 17, 18, 19, 20, 96, 97, 98, 99, 100, 101, 102, 103, 104] (by decide +kernel) (by decide +kernel)
set_option maxRecDepth 20000 in
theorem gX5_perform_X5_announce : GoodIn wsX5_perform (wsV RX5 113 RX5 yX5_announce wsX5_announce) := goodIn_app (goodIn_of _ (by decide +kernel)) ggX5_perform_X5_announce
set_option maxRecDepth 20000 in
theorem ggX5_perform_X5_join : GoodIn wsX5_perform wsX5_join := goodIn_r _ [43, 1, 21, 22, 23, 5, 24, 13, 14, 15, 16, 44, 45, 46, 47, 48, 49, 50, 51, 52, 53, 54, 55, 56, 57, 58, 59, 17, 18, 19, 20, 96, 97, 98, 99, 100, 101, 102, 103, 104] (by decide +kernel) (by decide +kernel)
set_option maxRecDepth 20000 in
theorem gX5_perform_X5_join : GoodIn wsX5_perform (wsV RX5 116 RX5 yX5_join wsX5_join) := goodIn_app (goodIn_of _ (by decide +kernel)) ggX5_perform_X5_join
set_option maxRecDepth 20000 in
theorem ggX5_perform_X5_deliverAlone : GoodIn wsX5_perform wsX5_deliverAlone := goodIn_r _ [63, 1, 7, 64, 65, 66, 5, 67, 21, 22, 23, 24, 13, 14, 15, 16, 68, 69, 70, 71, 56, 57, 58, 59, 72, 73, 74, 75, 9, 10, 11, 12, 36, 37, 38, 39, 17, 18, 19, 20, 96, 97, 98, 99, 100, 101, 102, 103, 104] (by decide +kernel) (by decide +kernel)
set_option maxRecDepth 20000 in
theorem gX5_perform_X5_deliverAlone : GoodIn wsX5_perform (wsV RX5 119 RX5 yX5_deliverAlone wsX5_deliverAlone) := goodIn_app (goodIn_of _ (by decide +kernel)) ggX5_perform_X5_deliverAlone
set_option maxRecDepth 20000 in
theorem ggX5_perform_X5_report : GoodIn wsX5_perform wsX5_report := goodIn_r _ [79, 1, 7, 44, 45, 46, 5, 47, 13, 14, 15, 16, 21, 22, 23, 24, 52, 53, 54, 55, 56, 57, 58, 59, 72, 73, 74, 75, 9, 10, 11, 12, 36, 37, 38, 39, 17, 18, 19, 20, 80, 81, 82, 83, 96, 97, 98, 99, 100, 101, 102, 103, 104] (by decide +kernel) (by decide +kernel)
set_option maxRecDepth 20000 in
theorem gX5_perform_X5_report : GoodIn wsX5_perform (wsV RX5 122 RX5 yX5_report wsX5_report) := goodIn_app (goodIn_of _ (by decide +kernel)) ggX5_perform_X5_report
set_option maxRecDepth 20000 in
theorem ggX5_perform_X5_setting : GoodIn wsX5_perform wsX5_setting := goodIn_r _ [12, 1, 96, 97, 98, 99, 100, 101, 102, 103, 104] (by decide +kernel) (by decide +kernel)
set_option maxRecDepth 20000 in
theorem gX5_perform_X5_setting : GoodIn wsX5_perform (wsV RX5 71 RX5 yX5_setting wsX5_setting) := goodIn_app (goodIn_of _ (by decide +kernel)) ggX5_perform_X5_setting
set_option maxRecDepth 20000 in
theorem ggX5_perform_X5_deliverByRelay : GoodIn wsX5_perform wsX5_deliverByRelay := goodIn_r _ [87, 1, 7, 88, 89, 90, 5, 91, 44, 45, 46, 47, 13, 14, 15, 16, 21, 22, 23, 24, 68, 69, 70, 71, 56, 57, 58, 59, 52, 53, 54, 55, 72, 73, 74, 75, 9, 10, 11, 12, 36, 37, 38, 39, 17, 18, 19, 20, 80, 81, 82, 83, 64, 65, 66, 67, 96, 97, 98, 99, 100, 101, 102, 103, 104] (by decide +kernel) (by decide +kernel)
set_option maxRecDepth 20000 in
theorem gX5_perform_X5_deliverByRelay : GoodIn wsX5_perform (wsV RX5 125 RX5 yX5_deliverByRelay wsX5_deliverByRelay) := goodIn_app (goodIn_of _ (by decide +kernel)) ggX5_perform_X5_deliverByRelay
set_option maxRecDepth 20000 in
theorem ggX5_perform_X5_deliverAll : GoodIn wsX5_perform wsX5_deliverAll := goodIn_r _ [95, 1, 44, 45, 46, 5, 47, 13, 14, 15, 16, 64, 65, 66, 67, 7, 21, 22, 23, 24, 68, 69, 70, 71, 56, 57, 58, 59, 72, 73, 74, 75, 9, 10, 11, 12, 36, 37, 38, 39, 17, 18, 19, 20, 96, 97, 98, 99, 100, 101, 102, 103, 104] (by decide +kernel) (by decide +kernel)
set_option maxRecDepth 20000 in
theorem gX5_perform_X5_deliverAll : GoodIn wsX5_perform (wsV RX5 128 RX5 yX5_deliverAll wsX5_deliverAll) := goodIn_app (goodIn_of _ (by decide +kernel)) ggX5_perform_X5_deliverAll
theorem dX5_perform_0 : decode cX5_perform 0 = .ok (.aload_n 0, 1) := by decide +kernel
theorem dX5_perform_1 : decode cX5_perform 1 = .ok (.invokevirtual 110, 3) := by decide +kernel
theorem dX5_perform_4 : decode cX5_perform 4 = .ok (.aload_n 0, 1) := by decide +kernel
theorem dX5_perform_5 : decode cX5_perform 5 = .ok (.invokevirtual 113, 3) := by decide +kernel
theorem dX5_perform_8 : decode cX5_perform 8 = .ok (.aload_n 0, 1) := by decide +kernel
theorem dX5_perform_9 : decode cX5_perform 9 = .ok (.invokevirtual 116, 3) := by decide +kernel
theorem dX5_perform_12 : decode cX5_perform 12 = .ok (.aload_n 0, 1) := by decide +kernel
theorem dX5_perform_13 : decode cX5_perform 13 = .ok (.getfield 7, 3) := by decide +kernel
theorem dX5_perform_16 : decode cX5_perform 16 = .ok (.bipush 12, 2) := by decide +kernel
theorem dX5_perform_18 : decode cX5_perform 18 = .ok (.iconst 0, 1) := by decide +kernel
theorem dX5_perform_19 : decode cX5_perform 19 = .ok (.iastore, 1) := by decide +kernel
theorem dX5_perform_20 : decode cX5_perform 20 = .ok (.aload_n 0, 1) := by decide +kernel
theorem dX5_perform_21 : decode cX5_perform 21 = .ok (.getfield 7, 3) := by decide +kernel
theorem dX5_perform_24 : decode cX5_perform 24 = .ok (.bipush 11, 2) := by decide +kernel
theorem dX5_perform_26 : decode cX5_perform 26 = .ok (.iaload, 1) := by decide +kernel
theorem dX5_perform_27 : decode cX5_perform 27 = .ok (.ifCond .ne 10, 3) := by decide +kernel
theorem dX5_perform_30 : decode cX5_perform 30 = .ok (.aload_n 0, 1) := by decide +kernel
theorem dX5_perform_31 : decode cX5_perform 31 = .ok (.invokevirtual 119, 3) := by decide +kernel
theorem dX5_perform_34 : decode cX5_perform 34 = .ok (.goto 27, 3) := by decide +kernel
theorem dX5_perform_37 : decode cX5_perform 37 = .ok (.aload_n 0, 1) := by decide +kernel
theorem dX5_perform_38 : decode cX5_perform 38 = .ok (.invokevirtual 122, 3) := by decide +kernel
theorem dX5_perform_41 : decode cX5_perform 41 = .ok (.aload_n 0, 1) := by decide +kernel
theorem dX5_perform_42 : decode cX5_perform 42 = .ok (.iconst 5, 1) := by decide +kernel
theorem dX5_perform_43 : decode cX5_perform 43 = .ok (.invokevirtual 71, 3) := by decide +kernel
theorem dX5_perform_46 : decode cX5_perform 46 = .ok (.iconst 1, 1) := by decide +kernel
theorem dX5_perform_47 : decode cX5_perform 47 = .ok (.if_icmp .ne 10, 3) := by decide +kernel
theorem dX5_perform_50 : decode cX5_perform 50 = .ok (.aload_n 0, 1) := by decide +kernel
theorem dX5_perform_51 : decode cX5_perform 51 = .ok (.invokevirtual 125, 3) := by decide +kernel
theorem dX5_perform_54 : decode cX5_perform 54 = .ok (.goto 7, 3) := by decide +kernel
theorem dX5_perform_57 : decode cX5_perform 57 = .ok (.aload_n 0, 1) := by decide +kernel
theorem dX5_perform_58 : decode cX5_perform 58 = .ok (.invokevirtual 128, 3) := by decide +kernel
theorem dX5_perform_61 : decode cX5_perform 61 = .ok (.aload_n 0, 1) := by decide +kernel
theorem dX5_perform_62 : decode cX5_perform 62 = .ok (.getfield 7, 3) := by decide +kernel
theorem dX5_perform_65 : decode cX5_perform 65 = .ok (.bipush 13, 2) := by decide +kernel
theorem dX5_perform_67 : decode cX5_perform 67 = .ok (.dup2, 1) := by decide +kernel
theorem dX5_perform_68 : decode cX5_perform 68 = .ok (.iaload, 1) := by decide +kernel
theorem dX5_perform_69 : decode cX5_perform 69 = .ok (.aload_n 0, 1) := by decide +kernel
theorem dX5_perform_70 : decode cX5_perform 70 = .ok (.getfield 7, 3) := by decide +kernel
theorem dX5_perform_73 : decode cX5_perform 73 = .ok (.bipush 12, 2) := by decide +kernel
theorem dX5_perform_75 : decode cX5_perform 75 = .ok (.iaload, 1) := by decide +kernel
theorem dX5_perform_76 : decode cX5_perform 76 = .ok (.iadd, 1) := by decide +kernel
theorem dX5_perform_77 : decode cX5_perform 77 = .ok (.iastore, 1) := by decide +kernel
theorem dX5_perform_78 : decode cX5_perform 78 = .ok (.aload_n 0, 1) := by decide +kernel
theorem dX5_perform_79 : decode cX5_perform 79 = .ok (.getfield 7, 3) := by decide +kernel
theorem dX5_perform_82 : decode cX5_perform 82 = .ok (.bipush 10, 2) := by decide +kernel
theorem dX5_perform_84 : decode cX5_perform 84 = .ok (.dup2, 1) := by decide +kernel
theorem dX5_perform_85 : decode cX5_perform 85 = .ok (.iaload, 1) := by decide +kernel
theorem dX5_perform_86 : decode cX5_perform 86 = .ok (.iconst 1, 1) := by decide +kernel
theorem dX5_perform_87 : decode cX5_perform 87 = .ok (.iadd, 1) := by decide +kernel
theorem dX5_perform_88 : decode cX5_perform 88 = .ok (.iastore, 1) := by decide +kernel
theorem dX5_perform_89 : decode cX5_perform 89 = .ok (.return_, 1) := by decide +kernel
set_option maxRecDepth 20000 in
theorem ggX5_alive_X5_of : GoodIn wsX5_alive wsX5_of := goodIn_r _ [6, 1, 7, 8, 9, 10, 11, 12, 13, 14, 15] (by decide +kernel) (by decide +kernel)
set_option maxRecDepth 20000 in
theorem gX5_alive_X5_of : GoodIn wsX5_alive (wsV RX5 43 RX5 yX5_of wsX5_of) := goodIn_app (goodIn_of _ (by decide +kernel)) ggX5_alive_X5_of
theorem dX5_alive_0 : decode cX5_alive 0 = .ok (.iconst 0, 1) := by decide +kernel
theorem dX5_alive_1 : decode cX5_alive 1 = .ok (.istore_n 1, 1) := by decide +kernel
theorem dX5_alive_2 : decode cX5_alive 2 = .ok (.iconst 0, 1) := by decide +kernel
theorem dX5_alive_3 : decode cX5_alive 3 = .ok (.istore_n 2, 1) := by decide +kernel
theorem dX5_alive_4 : decode cX5_alive 4 = .ok (.iload_n 2, 1) := by decide +kernel
theorem dX5_alive_5 : decode cX5_alive 5 = .ok (.aload_n 0, 1) := by decide +kernel
theorem dX5_alive_6 : decode cX5_alive 6 = .ok (.getfield 7, 3) := by decide +kernel
theorem dX5_alive_9 : decode cX5_alive 9 = .ok (.iconst 0, 1) := by decide +kernel
theorem dX5_alive_10 : decode cX5_alive 10 = .ok (.iaload, 1) := by decide +kernel
theorem dX5_alive_11 : decode cX5_alive 11 = .ok (.if_icmp .ge 18, 3) := by decide +kernel
theorem dX5_alive_14 : decode cX5_alive 14 = .ok (.iload_n 1, 1) := by decide +kernel
theorem dX5_alive_15 : decode cX5_alive 15 = .ok (.aload_n 0, 1) := by decide +kernel
theorem dX5_alive_16 : decode cX5_alive 16 = .ok (.iload_n 2, 1) := by decide +kernel
theorem dX5_alive_17 : decode cX5_alive 17 = .ok (.iconst 3, 1) := by decide +kernel
theorem dX5_alive_18 : decode cX5_alive 18 = .ok (.invokevirtual 43, 3) := by decide +kernel
theorem dX5_alive_21 : decode cX5_alive 21 = .ok (.iadd, 1) := by decide +kernel
theorem dX5_alive_22 : decode cX5_alive 22 = .ok (.istore_n 1, 1) := by decide +kernel
theorem dX5_alive_23 : decode cX5_alive 23 = .ok (.iinc 2 1, 3) := by decide +kernel
theorem dX5_alive_26 : decode cX5_alive 26 = .ok (.goto (-22), 3) := by decide +kernel
theorem dX5_alive_29 : decode cX5_alive 29 = .ok (.iload_n 1, 1) := by decide +kernel
theorem dX5_alive_30 : decode cX5_alive 30 = .ok (.ireturn, 1) := by decide +kernel
set_option maxRecDepth 20000 in
theorem ggX5_performMany_X5_alive : GoodIn wsX5_performMany wsX5_alive := goodIn_r _ [5, 6, 7, 8, 9, 4, 10, 104, 105, 106, 107, 108, 109, 110, 111, 112] (by decide +kernel) (by decide +kernel)
set_option maxRecDepth 20000 in
theorem gX5_performMany_X5_alive : GoodIn wsX5_performMany (wsV RX5 131 RX5 yX5_alive wsX5_alive) := goodIn_app (goodIn_of _ (by decide +kernel)) ggX5_performMany_X5_alive
set_option maxRecDepth 20000 in
theorem ggX5_performMany_X5_perform : GoodIn wsX5_performMany wsX5_perform := goodIn_r _ [14, 6, 15, 16, 17, 4, 18, 19, 20, 21, 22, 23, 24, 7, 8, 9, 10, 25, 26, 27, 28, 29, 30, 31, 32, 33, 34, 35, 36, 37, 38, 39, 40, 41, 42, 43, 44, 45, 46, 47, 48, 49, 50, 51, 52, 53, 54, 55, 56, 57, 58, 59, 60, 61, 62, 63, 64, 65, 66, 67, 68, 69, 70, 71, 72, 73, 74, 75, 76, 77, 78, 79, 80, 81, 82, 83, 84, 85, 86, 87, 88, 89, 90, 91, 92, 93, 94, 95, 96, 97, 98, 99, 100, 101, 102, 103, 104, 105, 106, 107, 108, 109, 110, 111, 112] (by decide +kernel) (by decide +kernel)
set_option maxRecDepth 20000 in
theorem gX5_performMany_X5_perform : GoodIn wsX5_performMany (wsV RX5 134 RX5 yX5_perform wsX5_perform) := goodIn_app (goodIn_of _ (by decide +kernel)) ggX5_performMany_X5_perform
theorem dX5_performMany_0 : decode cX5_performMany 0 = .ok (.iconst 0, 1) := by decide +kernel
theorem dX5_performMany_1 : decode cX5_performMany 1 = .ok (.istore_n 2, 1) := by decide +kernel
theorem dX5_performMany_2 : decode cX5_performMany 2 = .ok (.iload_n 2, 1) := by decide +kernel
theorem dX5_performMany_3 : decode cX5_performMany 3 = .ok (.iload_n 1, 1) := by decide +kernel
theorem dX5_performMany_4 : decode cX5_performMany 4 = .ok (.if_icmp .ge 20, 3) := by decide +kernel
theorem dX5_performMany_7 : decode cX5_performMany 7 = .ok (.aload_n 0, 1) := by decide +kernel
theorem dX5_performMany_8 : decode cX5_performMany 8 = .ok (.invokevirtual 131, 3) := by decide +kernel
theorem dX5_performMany_11 : decode cX5_performMany 11 = .ok (.ifCond .le 13, 3) := by decide +kernel
theorem dX5_performMany_14 : decode cX5_performMany 14 = .ok (.aload_n 0, 1) := by decide +kernel
theorem dX5_performMany_15 : decode cX5_performMany 15 = .ok (.invokevirtual 134, 3) := by decide +kernel
theorem dX5_performMany_18 : decode cX5_performMany 18 = .ok (.iinc 2 1, 3) := by decide +kernel
theorem dX5_performMany_21 : decode cX5_performMany 21 = .ok (.goto (-19), 3) := by decide +kernel
theorem dX5_performMany_24 : decode cX5_performMany 24 = .ok (.iload_n 2, 1) := by decide +kernel
theorem dX5_performMany_25 : decode cX5_performMany 25 = .ok (.ireturn, 1) := by decide +kernel
set_option maxRecDepth 20000 in
theorem ggX5_run_X5_in : GoodIn wsX5_run wsX5_in := goodIn_r _ [5] (by decide +kernel) (by decide +kernel)
set_option maxRecDepth 20000 in
theorem gX5_run_X5_in : GoodIn wsX5_run (va_wsS RX5 39 yX5_in wsX5_in) := goodIn_app (goodIn_of _ (by decide +kernel)) ggX5_run_X5_in
set_option maxRecDepth 20000 in
theorem ggX5_run_X5_alive : GoodIn wsX5_run wsX5_alive := goodIn_r _ [9, 10, 11, 12, 13, 4, 14, 118, 119, 120, 121, 122, 123, 124, 125, 126] (by decide +kernel) (by decide +kernel)
set_option maxRecDepth 20000 in
theorem gX5_run_X5_alive : GoodIn wsX5_run (wsV RX5 131 RX5 yX5_alive wsX5_alive) := goodIn_app (goodIn_of _ (by decide +kernel)) ggX5_run_X5_alive
set_option maxRecDepth 20000 in
theorem ggX5_run_X5_keep : GoodIn wsX5_run wsX5_keep := goodIn_r _ [18, 19, 20, 10, 118, 119, 120, 121, 122, 123, 124, 125, 126] (by decide +kernel) (by decide +kernel)
set_option maxRecDepth 20000 in
theorem gX5_run_X5_keep : GoodIn wsX5_run (wsV RX5 48 RX5 yX5_keep wsX5_keep) := goodIn_app (goodIn_of _ (by decide +kernel)) ggX5_run_X5_keep
set_option maxRecDepth 20000 in
theorem ggX5_run_X5_performMany : GoodIn wsX5_run wsX5_performMany := goodIn_r _ [24, 6, 7, 8, 4, 9, 10, 11, 12, 13, 14, 25, 26, 27, 28, 29, 30, 31, 32, 33, 34, 35, 36, 37, 38, 39, 40, 41, 42, 43, 44, 45, 46, 47, 48, 49, 50, 51, 52, 53, 54, 55, 56, 57, 58, 59, 60, 61, 62, 63, 64, 65, 66, 67, 68, 69, 70, 71, 72, 73, 74, 75, 76, 77, 78, 79, 80, 81, 82, 83, 84, 85, 86, 87, 88, 89, 90, 91, 92, 93, 94, 95, 96, 97, 98, 99, 100, 101, 102, 103, 104, 105, 106, 107, 108, 109, 110, 111, 112, 113, 114, 115, 116, 117, 118, 119, 120, 121, 122, 123, 124, 125, 126] (by decide +kernel) (by decide +kernel)
set_option maxRecDepth 20000 in
theorem gX5_run_X5_performMany : GoodIn wsX5_run (wsV RX5 137 RX5 yX5_performMany wsX5_performMany) := goodIn_app (goodIn_of _ (by decide +kernel)) ggX5_run_X5_performMany
theorem dX5_run_0 : decode cX5_run 0 = .ok (.aload_n 0, 1) := by decide +kernel
theorem dX5_run_1 : decode cX5_run 1 = .ok (.iconst 0, 1) := by decide +kernel
theorem dX5_run_2 : decode cX5_run 2 = .ok (.putfield 32, 3) := by decide +kernel
theorem dX5_run_5 : decode cX5_run 5 = .ok (.iload_n 1, 1) := by decide +kernel
theorem dX5_run_6 : decode cX5_run 6 = .ok (.iconst 1, 1) := by decide +kernel
theorem dX5_run_7 : decode cX5_run 7 = .ok (.bipush 50, 2) := by decide +kernel
theorem dX5_run_9 : decode cX5_run 9 = .ok (.invokestatic 39, 3) := by decide +kernel
theorem dX5_run_12 : decode cX5_run 12 = .ok (.ifCond .ne 5, 3) := by decide +kernel
theorem dX5_run_15 : decode cX5_run 15 = .ok (.iconst (-1), 1) := by decide +kernel
theorem dX5_run_16 : decode cX5_run 16 = .ok (.ireturn, 1) := by decide +kernel
theorem dX5_run_17 : decode cX5_run 17 = .ok (.aload_n 0, 1) := by decide +kernel
theorem dX5_run_18 : decode cX5_run 18 = .ok (.invokevirtual 131, 3) := by decide +kernel
theorem dX5_run_21 : decode cX5_run 21 = .ok (.ifCond .ne 6, 3) := by decide +kernel
theorem dX5_run_24 : decode cX5_run 24 = .ok (.bipush (-2), 2) := by decide +kernel
theorem dX5_run_26 : decode cX5_run 26 = .ok (.ireturn, 1) := by decide +kernel
theorem dX5_run_27 : decode cX5_run 27 = .ok (.aload_n 0, 1) := by decide +kernel
theorem dX5_run_28 : decode cX5_run 28 = .ok (.invokevirtual 48, 3) := by decide +kernel
theorem dX5_run_31 : decode cX5_run 31 = .ok (.aload_n 0, 1) := by decide +kernel
theorem dX5_run_32 : decode cX5_run 32 = .ok (.iload_n 1, 1) := by decide +kernel
theorem dX5_run_33 : decode cX5_run 33 = .ok (.invokevirtual 137, 3) := by decide +kernel
theorem dX5_run_36 : decode cX5_run 36 = .ok (.ireturn, 1) := by decide +kernel
theorem dX5_roundNumber_0 : decode cX5_roundNumber 0 = .ok (.aload_n 0, 1) := by decide +kernel
theorem dX5_roundNumber_1 : decode cX5_roundNumber 1 = .ok (.iconst 0, 1) := by decide +kernel
theorem dX5_roundNumber_2 : decode cX5_roundNumber 2 = .ok (.putfield 32, 3) := by decide +kernel
theorem dX5_roundNumber_5 : decode cX5_roundNumber 5 = .ok (.aload_n 0, 1) := by decide +kernel
theorem dX5_roundNumber_6 : decode cX5_roundNumber 6 = .ok (.getfield 7, 3) := by decide +kernel
theorem dX5_roundNumber_9 : decode cX5_roundNumber 9 = .ok (.bipush 10, 2) := by decide +kernel
theorem dX5_roundNumber_11 : decode cX5_roundNumber 11 = .ok (.iaload, 1) := by decide +kernel
theorem dX5_roundNumber_12 : decode cX5_roundNumber 12 = .ok (.ireturn, 1) := by decide +kernel
theorem dX5_sensorCount_0 : decode cX5_sensorCount 0 = .ok (.aload_n 0, 1) := by decide +kernel
theorem dX5_sensorCount_1 : decode cX5_sensorCount 1 = .ok (.iconst 0, 1) := by decide +kernel
theorem dX5_sensorCount_2 : decode cX5_sensorCount 2 = .ok (.putfield 32, 3) := by decide +kernel
theorem dX5_sensorCount_5 : decode cX5_sensorCount 5 = .ok (.aload_n 0, 1) := by decide +kernel
theorem dX5_sensorCount_6 : decode cX5_sensorCount 6 = .ok (.getfield 7, 3) := by decide +kernel
theorem dX5_sensorCount_9 : decode cX5_sensorCount 9 = .ok (.iconst 0, 1) := by decide +kernel
theorem dX5_sensorCount_10 : decode cX5_sensorCount 10 = .ok (.iaload, 1) := by decide +kernel
theorem dX5_sensorCount_11 : decode cX5_sensorCount 11 = .ok (.ireturn, 1) := by decide +kernel
set_option maxRecDepth 20000 in
theorem ggX5_aliveCount_X5_alive : GoodIn wsX5_aliveCount wsX5_alive := goodIn_r _ [6, 7, 8, 9, 10, 5, 11, 12, 13, 14, 15, 16, 17, 18, 19, 20] (by decide +kernel) (by decide +kernel)
set_option maxRecDepth 20000 in
theorem gX5_aliveCount_X5_alive : GoodIn wsX5_aliveCount (wsV RX5 131 RX5 yX5_alive wsX5_alive) := goodIn_app (goodIn_of _ (by decide +kernel)) ggX5_aliveCount_X5_alive
theorem dX5_aliveCount_0 : decode cX5_aliveCount 0 = .ok (.aload_n 0, 1) := by decide +kernel
theorem dX5_aliveCount_1 : decode cX5_aliveCount 1 = .ok (.iconst 0, 1) := by decide +kernel
theorem dX5_aliveCount_2 : decode cX5_aliveCount 2 = .ok (.putfield 32, 3) := by decide +kernel
theorem dX5_aliveCount_5 : decode cX5_aliveCount 5 = .ok (.aload_n 0, 1) := by decide +kernel
theorem dX5_aliveCount_6 : decode cX5_aliveCount 6 = .ok (.invokevirtual 131, 3) := by decide +kernel
theorem dX5_aliveCount_9 : decode cX5_aliveCount 9 = .ok (.ireturn, 1) := by decide +kernel
set_option maxRecDepth 20000 in
theorem ggX5_value_X5_isSensor : GoodIn wsX5_value wsX5_isSensor := goodIn_r _ [5, 6, 7, 8, 4, 9, 14, 15, 16, 17, 18, 19, 20, 21, 22] (by decide +kernel) (by decide +kernel)
set_option maxRecDepth 20000 in
theorem gX5_value_X5_isSensor : GoodIn wsX5_value (wsV RX5 59 RX5 yX5_isSensor wsX5_isSensor) := goodIn_app (goodIn_of _ (by decide +kernel)) ggX5_value_X5_isSensor
set_option maxRecDepth 20000 in
theorem ggX5_value_X5_of : GoodIn wsX5_value wsX5_of := goodIn_r _ [13, 6, 14, 15, 16, 17, 18, 19, 20, 21, 22] (by decide +kernel) (by decide +kernel)
set_option maxRecDepth 20000 in
theorem gX5_value_X5_of : GoodIn wsX5_value (wsV RX5 43 RX5 yX5_of wsX5_of) := goodIn_app (goodIn_of _ (by decide +kernel)) ggX5_value_X5_of
theorem dX5_value_0 : decode cX5_value 0 = .ok (.aload_n 0, 1) := by decide +kernel
theorem dX5_value_1 : decode cX5_value 1 = .ok (.iload_n 1, 1) := by decide +kernel
theorem dX5_value_2 : decode cX5_value 2 = .ok (.invokevirtual 59, 3) := by decide +kernel
theorem dX5_value_5 : decode cX5_value 5 = .ok (.ifCond .eq 12, 3) := by decide +kernel
theorem dX5_value_8 : decode cX5_value 8 = .ok (.aload_n 0, 1) := by decide +kernel
theorem dX5_value_9 : decode cX5_value 9 = .ok (.iload_n 1, 1) := by decide +kernel
theorem dX5_value_10 : decode cX5_value 10 = .ok (.iload_n 2, 1) := by decide +kernel
theorem dX5_value_11 : decode cX5_value 11 = .ok (.invokevirtual 43, 3) := by decide +kernel
theorem dX5_value_14 : decode cX5_value 14 = .ok (.goto 4, 3) := by decide +kernel
theorem dX5_value_17 : decode cX5_value 17 = .ok (.iconst (-1), 1) := by decide +kernel
theorem dX5_value_18 : decode cX5_value 18 = .ok (.ireturn, 1) := by decide +kernel
set_option maxRecDepth 20000 in
theorem ggX5_isAlive_X5_value : GoodIn wsX5_isAlive wsX5_value := goodIn_r _ [6, 7, 8, 9, 5, 10, 11, 12, 13, 14, 15, 16, 17, 18, 19, 20, 21, 22, 23, 24, 25, 26, 27] (by decide +kernel) (by decide +kernel)
set_option maxRecDepth 20000 in
theorem gX5_isAlive_X5_value : GoodIn wsX5_isAlive (wsV RX5 140 RX5 yX5_value wsX5_value) := goodIn_app (goodIn_of _ (by decide +kernel)) ggX5_isAlive_X5_value
theorem dX5_isAlive_0 : decode cX5_isAlive 0 = .ok (.aload_n 0, 1) := by decide +kernel
theorem dX5_isAlive_1 : decode cX5_isAlive 1 = .ok (.iconst 0, 1) := by decide +kernel
theorem dX5_isAlive_2 : decode cX5_isAlive 2 = .ok (.putfield 32, 3) := by decide +kernel
theorem dX5_isAlive_5 : decode cX5_isAlive 5 = .ok (.aload_n 0, 1) := by decide +kernel
theorem dX5_isAlive_6 : decode cX5_isAlive 6 = .ok (.iload_n 1, 1) := by decide +kernel
theorem dX5_isAlive_7 : decode cX5_isAlive 7 = .ok (.iconst 3, 1) := by decide +kernel
theorem dX5_isAlive_8 : decode cX5_isAlive 8 = .ok (.invokevirtual 140, 3) := by decide +kernel
theorem dX5_isAlive_11 : decode cX5_isAlive 11 = .ok (.ireturn, 1) := by decide +kernel
set_option maxRecDepth 20000 in
theorem ggX5_battery_X5_value : GoodIn wsX5_battery wsX5_value := goodIn_r _ [6, 7, 8, 9, 5, 10, 11, 12, 13, 14, 15, 16, 17, 18, 19, 20, 21, 22, 23, 24, 25, 26, 27] (by decide +kernel) (by decide +kernel)
set_option maxRecDepth 20000 in
theorem gX5_battery_X5_value : GoodIn wsX5_battery (wsV RX5 140 RX5 yX5_value wsX5_value) := goodIn_app (goodIn_of _ (by decide +kernel)) ggX5_battery_X5_value
theorem dX5_battery_0 : decode cX5_battery 0 = .ok (.aload_n 0, 1) := by decide +kernel
theorem dX5_battery_1 : decode cX5_battery 1 = .ok (.iconst 0, 1) := by decide +kernel
theorem dX5_battery_2 : decode cX5_battery 2 = .ok (.putfield 32, 3) := by decide +kernel
theorem dX5_battery_5 : decode cX5_battery 5 = .ok (.aload_n 0, 1) := by decide +kernel
theorem dX5_battery_6 : decode cX5_battery 6 = .ok (.iload_n 1, 1) := by decide +kernel
theorem dX5_battery_7 : decode cX5_battery 7 = .ok (.iconst 2, 1) := by decide +kernel
theorem dX5_battery_8 : decode cX5_battery 8 = .ok (.invokevirtual 140, 3) := by decide +kernel
theorem dX5_battery_11 : decode cX5_battery 11 = .ok (.ireturn, 1) := by decide +kernel
set_option maxRecDepth 20000 in
theorem ggX5_isEligible_X5_isSensor : GoodIn wsX5_isEligible wsX5_isSensor := goodIn_r _ [7, 2, 8, 9, 6, 10, 23, 24, 25, 26, 27, 28, 29, 30, 31] (by decide +kernel) (by decide +kernel)
set_option maxRecDepth 20000 in
theorem gX5_isEligible_X5_isSensor : GoodIn wsX5_isEligible (wsV RX5 59 RX5 yX5_isSensor wsX5_isSensor) := goodIn_app (goodIn_of _ (by decide +kernel)) ggX5_isEligible_X5_isSensor
set_option maxRecDepth 20000 in
theorem ggX5_isEligible_X5_lives : GoodIn wsX5_isEligible wsX5_lives := goodIn_r _ [14, 15, 16, 17, 6, 18, 2, 23, 24, 25, 26, 27, 28, 29, 30, 31] (by decide +kernel) (by decide +kernel)
set_option maxRecDepth 20000 in
theorem gX5_isEligible_X5_lives : GoodIn wsX5_isEligible (wsV RX5 63 RX5 yX5_lives wsX5_lives) := goodIn_app (goodIn_of _ (by decide +kernel)) ggX5_isEligible_X5_lives
set_option maxRecDepth 20000 in
theorem ggX5_isEligible_X5_of : GoodIn wsX5_isEligible wsX5_of := goodIn_r _ [18, 2, 23, 24, 25, 26, 27, 28, 29, 30, 31] (by decide +kernel) (by decide +kernel)
set_option maxRecDepth 20000 in
theorem gX5_isEligible_X5_of : GoodIn wsX5_isEligible (wsV RX5 43 RX5 yX5_of wsX5_of) := goodIn_app (goodIn_of _ (by decide +kernel)) ggX5_isEligible_X5_of
set_option maxRecDepth 20000 in
theorem ggX5_isEligible_X5_setting : GoodIn wsX5_isEligible wsX5_setting := goodIn_r _ [22, 2, 23, 24, 25, 26, 27, 28, 29, 30, 31] (by decide +kernel) (by decide +kernel)
set_option maxRecDepth 20000 in
theorem gX5_isEligible_X5_setting : GoodIn wsX5_isEligible (wsV RX5 71 RX5 yX5_setting wsX5_setting) := goodIn_app (goodIn_of _ (by decide +kernel)) ggX5_isEligible_X5_setting
theorem dX5_isEligible_0 : decode cX5_isEligible 0 = .ok (.aload_n 0, 1) := by decide +kernel
theorem dX5_isEligible_1 : decode cX5_isEligible 1 = .ok (.iconst 0, 1) := by decide +kernel
theorem dX5_isEligible_2 : decode cX5_isEligible 2 = .ok (.putfield 32, 3) := by decide +kernel
theorem dX5_isEligible_5 : decode cX5_isEligible 5 = .ok (.aload_n 0, 1) := by decide +kernel
theorem dX5_isEligible_6 : decode cX5_isEligible 6 = .ok (.iload_n 1, 1) := by decide +kernel
theorem dX5_isEligible_7 : decode cX5_isEligible 7 = .ok (.invokevirtual 59, 3) := by decide +kernel
theorem dX5_isEligible_10 : decode cX5_isEligible 10 = .ok (.ifCond .ne 5, 3) := by decide +kernel
theorem dX5_isEligible_13 : decode cX5_isEligible 13 = .ok (.iconst (-1), 1) := by decide +kernel
theorem dX5_isEligible_14 : decode cX5_isEligible 14 = .ok (.ireturn, 1) := by decide +kernel
theorem dX5_isEligible_15 : decode cX5_isEligible 15 = .ok (.aload_n 0, 1) := by decide +kernel
theorem dX5_isEligible_16 : decode cX5_isEligible 16 = .ok (.iload_n 1, 1) := by decide +kernel
theorem dX5_isEligible_17 : decode cX5_isEligible 17 = .ok (.invokevirtual 63, 3) := by decide +kernel
theorem dX5_isEligible_20 : decode cX5_isEligible 20 = .ok (.ifCond .eq 33, 3) := by decide +kernel
theorem dX5_isEligible_23 : decode cX5_isEligible 23 = .ok (.aload_n 0, 1) := by decide +kernel
theorem dX5_isEligible_24 : decode cX5_isEligible 24 = .ok (.iload_n 1, 1) := by decide +kernel
theorem dX5_isEligible_25 : decode cX5_isEligible 25 = .ok (.iconst 4, 1) := by decide +kernel
theorem dX5_isEligible_26 : decode cX5_isEligible 26 = .ok (.invokevirtual 43, 3) := by decide +kernel
theorem dX5_isEligible_29 : decode cX5_isEligible 29 = .ok (.iconst 1, 1) := by decide +kernel
theorem dX5_isEligible_30 : decode cX5_isEligible 30 = .ok (.if_icmp .eq 19, 3) := by decide +kernel
theorem dX5_isEligible_33 : decode cX5_isEligible 33 = .ok (.aload_n 0, 1) := by decide +kernel
theorem dX5_isEligible_34 : decode cX5_isEligible 34 = .ok (.getfield 7, 3) := by decide +kernel
theorem dX5_isEligible_37 : decode cX5_isEligible 37 = .ok (.bipush 10, 2) := by decide +kernel
theorem dX5_isEligible_39 : decode cX5_isEligible 39 = .ok (.iaload, 1) := by decide +kernel
theorem dX5_isEligible_40 : decode cX5_isEligible 40 = .ok (.aload_n 0, 1) := by decide +kernel
theorem dX5_isEligible_41 : decode cX5_isEligible 41 = .ok (.iconst 0, 1) := by decide +kernel
theorem dX5_isEligible_42 : decode cX5_isEligible 42 = .ok (.invokevirtual 71, 3) := by decide +kernel
theorem dX5_isEligible_45 : decode cX5_isEligible 45 = .ok (.irem, 1) := by decide +kernel
theorem dX5_isEligible_46 : decode cX5_isEligible 46 = .ok (.ifCond .ne 7, 3) := by decide +kernel
theorem dX5_isEligible_49 : decode cX5_isEligible 49 = .ok (.iconst 1, 1) := by decide +kernel
theorem dX5_isEligible_50 : decode cX5_isEligible 50 = .ok (.goto 4, 3) := by decide +kernel
theorem dX5_isEligible_53 : decode cX5_isEligible 53 = .ok (.iconst 0, 1) := by decide +kernel
theorem dX5_isEligible_54 : decode cX5_isEligible 54 = .ok (.istore_n 2, 1) := by decide +kernel
theorem dX5_isEligible_55 : decode cX5_isEligible 55 = .ok (.iload_n 2, 1) := by decide +kernel
theorem dX5_isEligible_56 : decode cX5_isEligible 56 = .ok (.ifCond .eq 7, 3) := by decide +kernel
theorem dX5_isEligible_59 : decode cX5_isEligible 59 = .ok (.iconst 1, 1) := by decide +kernel
theorem dX5_isEligible_60 : decode cX5_isEligible 60 = .ok (.goto 4, 3) := by decide +kernel
theorem dX5_isEligible_63 : decode cX5_isEligible 63 = .ok (.iconst 0, 1) := by decide +kernel
theorem dX5_isEligible_64 : decode cX5_isEligible 64 = .ok (.ireturn, 1) := by decide +kernel
set_option maxRecDepth 20000 in
theorem ggX5_headRounds_X5_value : GoodIn wsX5_headRounds wsX5_value := goodIn_r _ [6, 7, 8, 9, 5, 10, 11, 12, 13, 14, 15, 16, 17, 18, 19, 20, 21, 22, 23, 24, 25, 26, 27] (by decide +kernel) (by decide +kernel)
set_option maxRecDepth 20000 in
theorem gX5_headRounds_X5_value : GoodIn wsX5_headRounds (wsV RX5 140 RX5 yX5_value wsX5_value) := goodIn_app (goodIn_of _ (by decide +kernel)) ggX5_headRounds_X5_value
theorem dX5_headRounds_0 : decode cX5_headRounds 0 = .ok (.aload_n 0, 1) := by decide +kernel
theorem dX5_headRounds_1 : decode cX5_headRounds 1 = .ok (.iconst 0, 1) := by decide +kernel
theorem dX5_headRounds_2 : decode cX5_headRounds 2 = .ok (.putfield 32, 3) := by decide +kernel
theorem dX5_headRounds_5 : decode cX5_headRounds 5 = .ok (.aload_n 0, 1) := by decide +kernel
theorem dX5_headRounds_6 : decode cX5_headRounds 6 = .ok (.iload_n 1, 1) := by decide +kernel
theorem dX5_headRounds_7 : decode cX5_headRounds 7 = .ok (.iconst 5, 1) := by decide +kernel
theorem dX5_headRounds_8 : decode cX5_headRounds 8 = .ok (.invokevirtual 140, 3) := by decide +kernel
theorem dX5_headRounds_11 : decode cX5_headRounds 11 = .ok (.ireturn, 1) := by decide +kernel
set_option maxRecDepth 20000 in
theorem ggX5_deathRound_X5_value : GoodIn wsX5_deathRound wsX5_value := goodIn_r _ [6, 7, 8, 9, 5, 10, 11, 12, 13, 14, 15, 16, 17, 18, 19, 20, 21, 22, 23, 24, 25, 26, 27] (by decide +kernel) (by decide +kernel)
set_option maxRecDepth 20000 in
theorem gX5_deathRound_X5_value : GoodIn wsX5_deathRound (wsV RX5 140 RX5 yX5_value wsX5_value) := goodIn_app (goodIn_of _ (by decide +kernel)) ggX5_deathRound_X5_value
theorem dX5_deathRound_0 : decode cX5_deathRound 0 = .ok (.aload_n 0, 1) := by decide +kernel
theorem dX5_deathRound_1 : decode cX5_deathRound 1 = .ok (.iconst 0, 1) := by decide +kernel
theorem dX5_deathRound_2 : decode cX5_deathRound 2 = .ok (.putfield 32, 3) := by decide +kernel
theorem dX5_deathRound_5 : decode cX5_deathRound 5 = .ok (.aload_n 0, 1) := by decide +kernel
theorem dX5_deathRound_6 : decode cX5_deathRound 6 = .ok (.iload_n 1, 1) := by decide +kernel
theorem dX5_deathRound_7 : decode cX5_deathRound 7 = .ok (.bipush 6, 2) := by decide +kernel
theorem dX5_deathRound_9 : decode cX5_deathRound 9 = .ok (.invokevirtual 140, 3) := by decide +kernel
theorem dX5_deathRound_12 : decode cX5_deathRound 12 = .ok (.ireturn, 1) := by decide +kernel
set_option maxRecDepth 20000 in
theorem ggX5_headOf_X5_value : GoodIn wsX5_headOf wsX5_value := goodIn_r _ [6, 7, 8, 9, 5, 10, 11, 12, 13, 14, 15, 16, 17, 18, 19, 20, 21, 22, 23, 24, 25, 26, 27] (by decide +kernel) (by decide +kernel)
set_option maxRecDepth 20000 in
theorem gX5_headOf_X5_value : GoodIn wsX5_headOf (wsV RX5 140 RX5 yX5_value wsX5_value) := goodIn_app (goodIn_of _ (by decide +kernel)) ggX5_headOf_X5_value
theorem dX5_headOf_0 : decode cX5_headOf 0 = .ok (.aload_n 0, 1) := by decide +kernel
theorem dX5_headOf_1 : decode cX5_headOf 1 = .ok (.iconst 0, 1) := by decide +kernel
theorem dX5_headOf_2 : decode cX5_headOf 2 = .ok (.putfield 32, 3) := by decide +kernel
theorem dX5_headOf_5 : decode cX5_headOf 5 = .ok (.aload_n 0, 1) := by decide +kernel
theorem dX5_headOf_6 : decode cX5_headOf 6 = .ok (.iload_n 1, 1) := by decide +kernel
theorem dX5_headOf_7 : decode cX5_headOf 7 = .ok (.bipush 7, 2) := by decide +kernel
theorem dX5_headOf_9 : decode cX5_headOf 9 = .ok (.invokevirtual 140, 3) := by decide +kernel
theorem dX5_headOf_12 : decode cX5_headOf 12 = .ok (.ireturn, 1) := by decide +kernel
set_option maxRecDepth 20000 in
theorem ggX5_slotOf_X5_value : GoodIn wsX5_slotOf wsX5_value := goodIn_r _ [6, 7, 8, 9, 5, 10, 11, 12, 13, 14, 15, 16, 17, 18, 19, 20, 21, 22, 23, 24, 25, 26, 27] (by decide +kernel) (by decide +kernel)
set_option maxRecDepth 20000 in
theorem gX5_slotOf_X5_value : GoodIn wsX5_slotOf (wsV RX5 140 RX5 yX5_value wsX5_value) := goodIn_app (goodIn_of _ (by decide +kernel)) ggX5_slotOf_X5_value
theorem dX5_slotOf_0 : decode cX5_slotOf 0 = .ok (.aload_n 0, 1) := by decide +kernel
theorem dX5_slotOf_1 : decode cX5_slotOf 1 = .ok (.iconst 0, 1) := by decide +kernel
theorem dX5_slotOf_2 : decode cX5_slotOf 2 = .ok (.putfield 32, 3) := by decide +kernel
theorem dX5_slotOf_5 : decode cX5_slotOf 5 = .ok (.aload_n 0, 1) := by decide +kernel
theorem dX5_slotOf_6 : decode cX5_slotOf 6 = .ok (.iload_n 1, 1) := by decide +kernel
theorem dX5_slotOf_7 : decode cX5_slotOf 7 = .ok (.bipush 8, 2) := by decide +kernel
theorem dX5_slotOf_9 : decode cX5_slotOf 9 = .ok (.invokevirtual 140, 3) := by decide +kernel
theorem dX5_slotOf_12 : decode cX5_slotOf 12 = .ok (.ireturn, 1) := by decide +kernel
theorem dX5_headCount_0 : decode cX5_headCount 0 = .ok (.aload_n 0, 1) := by decide +kernel
theorem dX5_headCount_1 : decode cX5_headCount 1 = .ok (.iconst 0, 1) := by decide +kernel
theorem dX5_headCount_2 : decode cX5_headCount 2 = .ok (.putfield 32, 3) := by decide +kernel
theorem dX5_headCount_5 : decode cX5_headCount 5 = .ok (.aload_n 0, 1) := by decide +kernel
theorem dX5_headCount_6 : decode cX5_headCount 6 = .ok (.getfield 7, 3) := by decide +kernel
theorem dX5_headCount_9 : decode cX5_headCount 9 = .ok (.bipush 11, 2) := by decide +kernel
theorem dX5_headCount_11 : decode cX5_headCount 11 = .ok (.iaload, 1) := by decide +kernel
theorem dX5_headCount_12 : decode cX5_headCount 12 = .ok (.ireturn, 1) := by decide +kernel
theorem dX5_lastDelivered_0 : decode cX5_lastDelivered 0 = .ok (.aload_n 0, 1) := by decide +kernel
theorem dX5_lastDelivered_1 : decode cX5_lastDelivered 1 = .ok (.iconst 0, 1) := by decide +kernel
theorem dX5_lastDelivered_2 : decode cX5_lastDelivered 2 = .ok (.putfield 32, 3) := by decide +kernel
theorem dX5_lastDelivered_5 : decode cX5_lastDelivered 5 = .ok (.aload_n 0, 1) := by decide +kernel
theorem dX5_lastDelivered_6 : decode cX5_lastDelivered 6 = .ok (.getfield 7, 3) := by decide +kernel
theorem dX5_lastDelivered_9 : decode cX5_lastDelivered 9 = .ok (.bipush 12, 2) := by decide +kernel
theorem dX5_lastDelivered_11 : decode cX5_lastDelivered 11 = .ok (.iaload, 1) := by decide +kernel
theorem dX5_lastDelivered_12 : decode cX5_lastDelivered 12 = .ok (.ireturn, 1) := by decide +kernel
theorem dX5_deliveredTotal_0 : decode cX5_deliveredTotal 0 = .ok (.aload_n 0, 1) := by decide +kernel
theorem dX5_deliveredTotal_1 : decode cX5_deliveredTotal 1 = .ok (.iconst 0, 1) := by decide +kernel
theorem dX5_deliveredTotal_2 : decode cX5_deliveredTotal 2 = .ok (.putfield 32, 3) := by decide +kernel
theorem dX5_deliveredTotal_5 : decode cX5_deliveredTotal 5 = .ok (.aload_n 0, 1) := by decide +kernel
theorem dX5_deliveredTotal_6 : decode cX5_deliveredTotal 6 = .ok (.getfield 7, 3) := by decide +kernel
theorem dX5_deliveredTotal_9 : decode cX5_deliveredTotal 9 = .ok (.bipush 13, 2) := by decide +kernel
theorem dX5_deliveredTotal_11 : decode cX5_deliveredTotal 11 = .ok (.iaload, 1) := by decide +kernel
theorem dX5_deliveredTotal_12 : decode cX5_deliveredTotal 12 = .ok (.ireturn, 1) := by decide +kernel
theorem dX5_energyPaid_0 : decode cX5_energyPaid 0 = .ok (.aload_n 0, 1) := by decide +kernel
theorem dX5_energyPaid_1 : decode cX5_energyPaid 1 = .ok (.iconst 0, 1) := by decide +kernel
theorem dX5_energyPaid_2 : decode cX5_energyPaid 2 = .ok (.putfield 32, 3) := by decide +kernel
theorem dX5_energyPaid_5 : decode cX5_energyPaid 5 = .ok (.aload_n 0, 1) := by decide +kernel
theorem dX5_energyPaid_6 : decode cX5_energyPaid 6 = .ok (.getfield 7, 3) := by decide +kernel
theorem dX5_energyPaid_9 : decode cX5_energyPaid 9 = .ok (.bipush 14, 2) := by decide +kernel
theorem dX5_energyPaid_11 : decode cX5_energyPaid 11 = .ok (.iaload, 1) := by decide +kernel
theorem dX5_energyPaid_12 : decode cX5_energyPaid 12 = .ok (.ireturn, 1) := by decide +kernel
set_option maxRecDepth 20000 in
theorem ggX5_sendCost_X5_isSensor : GoodIn wsX5_sendCost wsX5_isSensor := goodIn_r _ [6, 7, 8, 9, 5, 10, 35, 36, 37, 38, 39, 40, 41, 42, 43] (by decide +kernel) (by decide +kernel)
set_option maxRecDepth 20000 in
theorem gX5_sendCost_X5_isSensor : GoodIn wsX5_sendCost (wsV RX5 59 RX5 yX5_isSensor wsX5_isSensor) := goodIn_app (goodIn_of _ (by decide +kernel)) ggX5_sendCost_X5_isSensor
set_option maxRecDepth 20000 in
theorem ggX5_sendCost_X5_distanceToBase : GoodIn wsX5_sendCost wsX5_distanceToBase := goodIn_r _ [14, 7, 15, 16, 17, 5, 18, 19, 20, 21, 22, 35, 36, 37, 38, 39, 40, 41, 42, 43] (by decide +kernel) (by decide +kernel)
set_option maxRecDepth 20000 in
theorem gX5_sendCost_X5_distanceToBase : GoodIn wsX5_sendCost (wsV RX5 100 RX5 yX5_distanceToBase wsX5_distanceToBase) := goodIn_app (goodIn_of _ (by decide +kernel)) ggX5_sendCost_X5_distanceToBase
set_option maxRecDepth 20000 in
theorem ggX5_sendCost_X5_distance : GoodIn wsX5_sendCost wsX5_distance := goodIn_r _ [26, 19, 20, 21, 5, 22, 7, 15, 16, 17, 18, 35, 36, 37, 38, 39, 40, 41, 42, 43] (by decide +kernel) (by decide +kernel)
set_option maxRecDepth 20000 in
theorem gX5_sendCost_X5_distance : GoodIn wsX5_sendCost (wsV RX5 88 RX5 yX5_distance wsX5_distance) := goodIn_app (goodIn_of _ (by decide +kernel)) ggX5_sendCost_X5_distance
set_option maxRecDepth 20000 in
theorem ggX5_sendCost_X5_sendingCost : GoodIn wsX5_sendCost wsX5_sendingCost := goodIn_r _ [30, 31, 32, 33, 5, 34, 7, 35, 36, 37, 38, 39, 40, 41, 42, 43] (by decide +kernel) (by decide +kernel)
set_option maxRecDepth 20000 in
theorem gX5_sendCost_X5_sendingCost : GoodIn wsX5_sendCost (wsV RX5 94 RX5 yX5_sendingCost wsX5_sendingCost) := goodIn_app (goodIn_of _ (by decide +kernel)) ggX5_sendCost_X5_sendingCost
theorem dX5_sendCost_0 : decode cX5_sendCost 0 = .ok (.aload_n 0, 1) := by decide +kernel
theorem dX5_sendCost_1 : decode cX5_sendCost 1 = .ok (.iconst 0, 1) := by decide +kernel
theorem dX5_sendCost_2 : decode cX5_sendCost 2 = .ok (.putfield 32, 3) := by decide +kernel
theorem dX5_sendCost_5 : decode cX5_sendCost 5 = .ok (.aload_n 0, 1) := by decide +kernel
theorem dX5_sendCost_6 : decode cX5_sendCost 6 = .ok (.iload_n 1, 1) := by decide +kernel
theorem dX5_sendCost_7 : decode cX5_sendCost 7 = .ok (.invokevirtual 59, 3) := by decide +kernel
theorem dX5_sendCost_10 : decode cX5_sendCost 10 = .ok (.ifCond .eq 22, 3) := by decide +kernel
theorem dX5_sendCost_13 : decode cX5_sendCost 13 = .ok (.iload_n 2, 1) := by decide +kernel
theorem dX5_sendCost_14 : decode cX5_sendCost 14 = .ok (.bipush (-9), 2) := by decide +kernel
theorem dX5_sendCost_16 : decode cX5_sendCost 16 = .ok (.if_icmp .eq 11, 3) := by decide +kernel
theorem dX5_sendCost_19 : decode cX5_sendCost 19 = .ok (.aload_n 0, 1) := by decide +kernel
theorem dX5_sendCost_20 : decode cX5_sendCost 20 = .ok (.iload_n 2, 1) := by decide +kernel
theorem dX5_sendCost_21 : decode cX5_sendCost 21 = .ok (.invokevirtual 59, 3) := by decide +kernel
theorem dX5_sendCost_24 : decode cX5_sendCost 24 = .ok (.ifCond .eq 8, 3) := by decide +kernel
theorem dX5_sendCost_27 : decode cX5_sendCost 27 = .ok (.iload_n 1, 1) := by decide +kernel
theorem dX5_sendCost_28 : decode cX5_sendCost 28 = .ok (.iload_n 2, 1) := by decide +kernel
theorem dX5_sendCost_29 : decode cX5_sendCost 29 = .ok (.if_icmp .ne 5, 3) := by decide +kernel
theorem dX5_sendCost_32 : decode cX5_sendCost 32 = .ok (.iconst (-1), 1) := by decide +kernel
theorem dX5_sendCost_33 : decode cX5_sendCost 33 = .ok (.ireturn, 1) := by decide +kernel
theorem dX5_sendCost_34 : decode cX5_sendCost 34 = .ok (.aload_n 0, 1) := by decide +kernel
theorem dX5_sendCost_35 : decode cX5_sendCost 35 = .ok (.iload_n 2, 1) := by decide +kernel
theorem dX5_sendCost_36 : decode cX5_sendCost 36 = .ok (.bipush (-9), 2) := by decide +kernel
theorem dX5_sendCost_38 : decode cX5_sendCost 38 = .ok (.if_icmp .ne 11, 3) := by decide +kernel
theorem dX5_sendCost_41 : decode cX5_sendCost 41 = .ok (.aload_n 0, 1) := by decide +kernel
theorem dX5_sendCost_42 : decode cX5_sendCost 42 = .ok (.iload_n 1, 1) := by decide +kernel
theorem dX5_sendCost_43 : decode cX5_sendCost 43 = .ok (.invokevirtual 100, 3) := by decide +kernel
theorem dX5_sendCost_46 : decode cX5_sendCost 46 = .ok (.goto 9, 3) := by decide +kernel
theorem dX5_sendCost_49 : decode cX5_sendCost 49 = .ok (.aload_n 0, 1) := by decide +kernel
theorem dX5_sendCost_50 : decode cX5_sendCost 50 = .ok (.iload_n 1, 1) := by decide +kernel
theorem dX5_sendCost_51 : decode cX5_sendCost 51 = .ok (.iload_n 2, 1) := by decide +kernel
theorem dX5_sendCost_52 : decode cX5_sendCost 52 = .ok (.invokevirtual 88, 3) := by decide +kernel
theorem dX5_sendCost_55 : decode cX5_sendCost 55 = .ok (.invokevirtual 94, 3) := by decide +kernel
theorem dX5_sendCost_58 : decode cX5_sendCost 58 = .ok (.ireturn, 1) := by decide +kernel
theorem dX5_takeCopy_0 : decode cX5_takeCopy 0 = .ok (.iconst 0, 1) := by decide +kernel
theorem dX5_takeCopy_1 : decode cX5_takeCopy 1 = .ok (.istore_n 1, 1) := by decide +kernel
theorem dX5_takeCopy_2 : decode cX5_takeCopy 2 = .ok (.iload_n 1, 1) := by decide +kernel
theorem dX5_takeCopy_3 : decode cX5_takeCopy 3 = .ok (.bipush 123, 2) := by decide +kernel
theorem dX5_takeCopy_5 : decode cX5_takeCopy 5 = .ok (.if_icmp .ge 21, 3) := by decide +kernel
theorem dX5_takeCopy_8 : decode cX5_takeCopy 8 = .ok (.aload_n 0, 1) := by decide +kernel
theorem dX5_takeCopy_9 : decode cX5_takeCopy 9 = .ok (.getfield 13, 3) := by decide +kernel
theorem dX5_takeCopy_12 : decode cX5_takeCopy 12 = .ok (.iload_n 1, 1) := by decide +kernel
theorem dX5_takeCopy_13 : decode cX5_takeCopy 13 = .ok (.aload_n 0, 1) := by decide +kernel
theorem dX5_takeCopy_14 : decode cX5_takeCopy 14 = .ok (.getfield 7, 3) := by decide +kernel
theorem dX5_takeCopy_17 : decode cX5_takeCopy 17 = .ok (.iload_n 1, 1) := by decide +kernel
theorem dX5_takeCopy_18 : decode cX5_takeCopy 18 = .ok (.iaload, 1) := by decide +kernel
theorem dX5_takeCopy_19 : decode cX5_takeCopy 19 = .ok (.iastore, 1) := by decide +kernel
theorem dX5_takeCopy_20 : decode cX5_takeCopy 20 = .ok (.iinc 1 1, 3) := by decide +kernel
theorem dX5_takeCopy_23 : decode cX5_takeCopy 23 = .ok (.goto (-21), 3) := by decide +kernel
theorem dX5_takeCopy_26 : decode cX5_takeCopy 26 = .ok (.return_, 1) := by decide +kernel
theorem dX5_putBack_0 : decode cX5_putBack 0 = .ok (.iconst 0, 1) := by decide +kernel
theorem dX5_putBack_1 : decode cX5_putBack 1 = .ok (.istore_n 1, 1) := by decide +kernel
theorem dX5_putBack_2 : decode cX5_putBack 2 = .ok (.iload_n 1, 1) := by decide +kernel
theorem dX5_putBack_3 : decode cX5_putBack 3 = .ok (.bipush 123, 2) := by decide +kernel
theorem dX5_putBack_5 : decode cX5_putBack 5 = .ok (.if_icmp .ge 21, 3) := by decide +kernel
theorem dX5_putBack_8 : decode cX5_putBack 8 = .ok (.aload_n 0, 1) := by decide +kernel
theorem dX5_putBack_9 : decode cX5_putBack 9 = .ok (.getfield 7, 3) := by decide +kernel
theorem dX5_putBack_12 : decode cX5_putBack 12 = .ok (.iload_n 1, 1) := by decide +kernel
theorem dX5_putBack_13 : decode cX5_putBack 13 = .ok (.aload_n 0, 1) := by decide +kernel
theorem dX5_putBack_14 : decode cX5_putBack 14 = .ok (.getfield 13, 3) := by decide +kernel
theorem dX5_putBack_17 : decode cX5_putBack 17 = .ok (.iload_n 1, 1) := by decide +kernel
theorem dX5_putBack_18 : decode cX5_putBack 18 = .ok (.iaload, 1) := by decide +kernel
theorem dX5_putBack_19 : decode cX5_putBack 19 = .ok (.iastore, 1) := by decide +kernel
theorem dX5_putBack_20 : decode cX5_putBack 20 = .ok (.iinc 1 1, 3) := by decide +kernel
theorem dX5_putBack_23 : decode cX5_putBack 23 = .ok (.goto (-21), 3) := by decide +kernel
theorem dX5_putBack_26 : decode cX5_putBack 26 = .ok (.return_, 1) := by decide +kernel
set_option maxRecDepth 20000 in
theorem ggX5_forecastDeath_X5_isSensor : GoodIn wsX5_forecastDeath wsX5_isSensor := goodIn_r _ [6, 7, 8, 9, 5, 10, 125, 126, 127, 128, 129, 130, 131, 132, 133] (by decide +kernel) (by decide +kernel)
set_option maxRecDepth 20000 in
theorem gX5_forecastDeath_X5_isSensor : GoodIn wsX5_forecastDeath (wsV RX5 59 RX5 yX5_isSensor wsX5_isSensor) := goodIn_app (goodIn_of _ (by decide +kernel)) ggX5_forecastDeath_X5_isSensor
set_option maxRecDepth 20000 in
theorem ggX5_forecastDeath_X5_in : GoodIn wsX5_forecastDeath wsX5_in := goodIn_r _ [10] (by decide +kernel) (by decide +kernel)
set_option maxRecDepth 20000 in
theorem gX5_forecastDeath_X5_in : GoodIn wsX5_forecastDeath (va_wsS RX5 39 yX5_in wsX5_in) := goodIn_app (goodIn_of _ (by decide +kernel)) ggX5_forecastDeath_X5_in
set_option maxRecDepth 20000 in
theorem ggX5_forecastDeath_X5_lives : GoodIn wsX5_forecastDeath wsX5_lives := goodIn_r _ [14, 15, 16, 17, 5, 18, 7, 125, 126, 127, 128, 129, 130, 131, 132, 133] (by decide +kernel) (by decide +kernel)
set_option maxRecDepth 20000 in
theorem gX5_forecastDeath_X5_lives : GoodIn wsX5_forecastDeath (wsV RX5 63 RX5 yX5_lives wsX5_lives) := goodIn_app (goodIn_of _ (by decide +kernel)) ggX5_forecastDeath_X5_lives
set_option maxRecDepth 20000 in
theorem ggX5_forecastDeath_X5_takeCopy : GoodIn wsX5_forecastDeath wsX5_takeCopy := goodIn_r _ [22, 23, 7, 125, 126, 127, 128, 129, 130, 131, 132, 133] (by decide +kernel) (by decide +kernel)
set_option maxRecDepth 20000 in
theorem gX5_forecastDeath_X5_takeCopy : GoodIn wsX5_forecastDeath (wsV RX5 143 RX5 yX5_takeCopy wsX5_takeCopy) := goodIn_app (goodIn_of _ (by decide +kernel)) ggX5_forecastDeath_X5_takeCopy
set_option maxRecDepth 20000 in
theorem ggX5_forecastDeath_X5_performMany : GoodIn wsX5_forecastDeath wsX5_performMany := goodIn_r _ [27, 28, 29, 30, 5, 31, 7, 15, 16, 17, 18, 32, 33, 34, 35, 36, 37, 38, 39, 40, 41, 42, 43, 44, 45, 46, 47, 48, 49, 11, 12, 13, 14, 50, 51, 52, 53, 54, 55, 56, 57, 58, 59, 60, 61, 62, 63, 64, 65, 66, 67, 68, 69, 70, 71, 72, 73, 74, 75, 76, 77, 78, 79, 80, 81, 82, 83, 84, 85, 86, 87, 88, 89, 90, 91, 92, 93, 94, 95, 96, 97, 98, 99, 100, 101, 102, 103, 104, 105, 106, 107, 108, 109, 110, 111, 112, 113, 114, 115, 116, 117, 118, 119, 120, 125, 126, 127, 128, 129, 130, 131, 132, 133] (by decide +kernel) (by decide +kernel)
set_option maxRecDepth 20000 in
theorem gX5_forecastDeath_X5_performMany : GoodIn wsX5_forecastDeath (wsV RX5 137 RX5 yX5_performMany wsX5_performMany) := goodIn_app (goodIn_of _ (by decide +kernel)) ggX5_forecastDeath_X5_performMany
set_option maxRecDepth 20000 in
theorem ggX5_forecastDeath_X5_of : GoodIn wsX5_forecastDeath wsX5_of := goodIn_r _ [18, 7, 125, 126, 127, 128, 129, 130, 131, 132, 133] (by decide +kernel) (by decide +kernel)
set_option maxRecDepth 20000 in
theorem gX5_forecastDeath_X5_of : GoodIn wsX5_forecastDeath (wsV RX5 43 RX5 yX5_of wsX5_of) := goodIn_app (goodIn_of _ (by decide +kernel)) ggX5_forecastDeath_X5_of
set_option maxRecDepth 20000 in
theorem ggX5_forecastDeath_X5_putBack : GoodIn wsX5_forecastDeath wsX5_putBack := goodIn_r _ [124, 7, 23, 125, 126, 127, 128, 129, 130, 131, 132, 133] (by decide +kernel) (by decide +kernel)
set_option maxRecDepth 20000 in
theorem gX5_forecastDeath_X5_putBack : GoodIn wsX5_forecastDeath (wsV RX5 146 RX5 yX5_putBack wsX5_putBack) := goodIn_app (goodIn_of _ (by decide +kernel)) ggX5_forecastDeath_X5_putBack
theorem dX5_forecastDeath_0 : decode cX5_forecastDeath 0 = .ok (.aload_n 0, 1) := by decide +kernel
theorem dX5_forecastDeath_1 : decode cX5_forecastDeath 1 = .ok (.iconst 0, 1) := by decide +kernel
theorem dX5_forecastDeath_2 : decode cX5_forecastDeath 2 = .ok (.putfield 32, 3) := by decide +kernel
theorem dX5_forecastDeath_5 : decode cX5_forecastDeath 5 = .ok (.aload_n 0, 1) := by decide +kernel
theorem dX5_forecastDeath_6 : decode cX5_forecastDeath 6 = .ok (.iload_n 1, 1) := by decide +kernel
theorem dX5_forecastDeath_7 : decode cX5_forecastDeath 7 = .ok (.invokevirtual 59, 3) := by decide +kernel
theorem dX5_forecastDeath_10 : decode cX5_forecastDeath 10 = .ok (.ifCond .eq 14, 3) := by decide +kernel
theorem dX5_forecastDeath_13 : decode cX5_forecastDeath 13 = .ok (.iload_n 2, 1) := by decide +kernel
theorem dX5_forecastDeath_14 : decode cX5_forecastDeath 14 = .ok (.iconst 1, 1) := by decide +kernel
theorem dX5_forecastDeath_15 : decode cX5_forecastDeath 15 = .ok (.sipush 300, 3) := by decide +kernel
theorem dX5_forecastDeath_18 : decode cX5_forecastDeath 18 = .ok (.invokestatic 39, 3) := by decide +kernel
theorem dX5_forecastDeath_21 : decode cX5_forecastDeath 21 = .ok (.ifCond .ne 5, 3) := by decide +kernel
theorem dX5_forecastDeath_24 : decode cX5_forecastDeath 24 = .ok (.iconst (-1), 1) := by decide +kernel
theorem dX5_forecastDeath_25 : decode cX5_forecastDeath 25 = .ok (.ireturn, 1) := by decide +kernel
theorem dX5_forecastDeath_26 : decode cX5_forecastDeath 26 = .ok (.aload_n 0, 1) := by decide +kernel
theorem dX5_forecastDeath_27 : decode cX5_forecastDeath 27 = .ok (.iload_n 1, 1) := by decide +kernel
theorem dX5_forecastDeath_28 : decode cX5_forecastDeath 28 = .ok (.invokevirtual 63, 3) := by decide +kernel
theorem dX5_forecastDeath_31 : decode cX5_forecastDeath 31 = .ok (.ifCond .ne 6, 3) := by decide +kernel
theorem dX5_forecastDeath_34 : decode cX5_forecastDeath 34 = .ok (.bipush (-2), 2) := by decide +kernel
theorem dX5_forecastDeath_36 : decode cX5_forecastDeath 36 = .ok (.ireturn, 1) := by decide +kernel
theorem dX5_forecastDeath_37 : decode cX5_forecastDeath 37 = .ok (.aload_n 0, 1) := by decide +kernel
theorem dX5_forecastDeath_38 : decode cX5_forecastDeath 38 = .ok (.invokevirtual 143, 3) := by decide +kernel
theorem dX5_forecastDeath_41 : decode cX5_forecastDeath 41 = .ok (.aload_n 0, 1) := by decide +kernel
theorem dX5_forecastDeath_42 : decode cX5_forecastDeath 42 = .ok (.iload_n 2, 1) := by decide +kernel
theorem dX5_forecastDeath_43 : decode cX5_forecastDeath 43 = .ok (.invokevirtual 137, 3) := by decide +kernel
theorem dX5_forecastDeath_46 : decode cX5_forecastDeath 46 = .ok (.pop, 1) := by decide +kernel
theorem dX5_forecastDeath_47 : decode cX5_forecastDeath 47 = .ok (.aload_n 0, 1) := by decide +kernel
theorem dX5_forecastDeath_48 : decode cX5_forecastDeath 48 = .ok (.iload_n 1, 1) := by decide +kernel
theorem dX5_forecastDeath_49 : decode cX5_forecastDeath 49 = .ok (.bipush 6, 2) := by decide +kernel
theorem dX5_forecastDeath_51 : decode cX5_forecastDeath 51 = .ok (.invokevirtual 43, 3) := by decide +kernel
theorem dX5_forecastDeath_54 : decode cX5_forecastDeath 54 = .ok (.istore_n 3, 1) := by decide +kernel
theorem dX5_forecastDeath_55 : decode cX5_forecastDeath 55 = .ok (.aload_n 0, 1) := by decide +kernel
theorem dX5_forecastDeath_56 : decode cX5_forecastDeath 56 = .ok (.invokevirtual 146, 3) := by decide +kernel
theorem dX5_forecastDeath_59 : decode cX5_forecastDeath 59 = .ok (.iload_n 3, 1) := by decide +kernel
theorem dX5_forecastDeath_60 : decode cX5_forecastDeath 60 = .ok (.ireturn, 1) := by decide +kernel
set_option maxRecDepth 20000 in
theorem ggX5_forecastDelivered_X5_in : GoodIn wsX5_forecastDelivered wsX5_in := goodIn_r _ [7] (by decide +kernel) (by decide +kernel)
set_option maxRecDepth 20000 in
theorem gX5_forecastDelivered_X5_in : GoodIn wsX5_forecastDelivered (va_wsS RX5 39 yX5_in wsX5_in) := goodIn_app (goodIn_of _ (by decide +kernel)) ggX5_forecastDelivered_X5_in
set_option maxRecDepth 20000 in
theorem ggX5_forecastDelivered_X5_takeCopy : GoodIn wsX5_forecastDelivered wsX5_takeCopy := goodIn_r _ [11, 3, 2, 121, 122, 123, 124, 125, 126, 127, 128, 129] (by decide +kernel) (by decide +kernel)
set_option maxRecDepth 20000 in
theorem gX5_forecastDelivered_X5_takeCopy : GoodIn wsX5_forecastDelivered (wsV RX5 143 RX5 yX5_takeCopy wsX5_takeCopy) := goodIn_app (goodIn_of _ (by decide +kernel)) ggX5_forecastDelivered_X5_takeCopy
set_option maxRecDepth 20000 in
theorem ggX5_forecastDelivered_X5_performMany : GoodIn wsX5_forecastDelivered wsX5_performMany := goodIn_r _ [15, 16, 17, 18, 6, 19, 2, 20, 21, 22, 23, 24, 25, 26, 27, 28, 29, 30, 31, 32, 33, 34, 35, 36, 37, 38, 39, 40, 41, 42, 43, 44, 45, 46, 47, 48, 49, 50, 51, 52, 53, 54, 55, 56, 57, 58, 59, 60, 61, 62, 63, 64, 65, 66, 67, 68, 69, 70, 71, 72, 73, 74, 75, 76, 77, 78, 79, 80, 81, 82, 83, 84, 85, 86, 87, 88, 89, 90, 91, 92, 93, 94, 95, 96, 97, 98, 99, 100, 101, 102, 103, 104, 105, 106, 107, 108, 109, 110, 111, 112, 113, 114, 115, 116, 121, 122, 123, 124, 125, 126, 127, 128, 129] (by decide +kernel) (by decide +kernel)
set_option maxRecDepth 20000 in
theorem gX5_forecastDelivered_X5_performMany : GoodIn wsX5_forecastDelivered (wsV RX5 137 RX5 yX5_performMany wsX5_performMany) := goodIn_app (goodIn_of _ (by decide +kernel)) ggX5_forecastDelivered_X5_performMany
set_option maxRecDepth 20000 in
theorem ggX5_forecastDelivered_X5_putBack : GoodIn wsX5_forecastDelivered wsX5_putBack := goodIn_r _ [120, 2, 3, 121, 122, 123, 124, 125, 126, 127, 128, 129] (by decide +kernel) (by decide +kernel)
set_option maxRecDepth 20000 in
theorem gX5_forecastDelivered_X5_putBack : GoodIn wsX5_forecastDelivered (wsV RX5 146 RX5 yX5_putBack wsX5_putBack) := goodIn_app (goodIn_of _ (by decide +kernel)) ggX5_forecastDelivered_X5_putBack
theorem dX5_forecastDelivered_0 : decode cX5_forecastDelivered 0 = .ok (.aload_n 0, 1) := by decide +kernel
theorem dX5_forecastDelivered_1 : decode cX5_forecastDelivered 1 = .ok (.iconst 0, 1) := by decide +kernel
theorem dX5_forecastDelivered_2 : decode cX5_forecastDelivered 2 = .ok (.putfield 32, 3) := by decide +kernel
theorem dX5_forecastDelivered_5 : decode cX5_forecastDelivered 5 = .ok (.iload_n 1, 1) := by decide +kernel
theorem dX5_forecastDelivered_6 : decode cX5_forecastDelivered 6 = .ok (.iconst 1, 1) := by decide +kernel
theorem dX5_forecastDelivered_7 : decode cX5_forecastDelivered 7 = .ok (.sipush 300, 3) := by decide +kernel
theorem dX5_forecastDelivered_10 : decode cX5_forecastDelivered 10 = .ok (.invokestatic 39, 3) := by decide +kernel
theorem dX5_forecastDelivered_13 : decode cX5_forecastDelivered 13 = .ok (.ifCond .ne 5, 3) := by decide +kernel
theorem dX5_forecastDelivered_16 : decode cX5_forecastDelivered 16 = .ok (.iconst (-1), 1) := by decide +kernel
theorem dX5_forecastDelivered_17 : decode cX5_forecastDelivered 17 = .ok (.ireturn, 1) := by decide +kernel
theorem dX5_forecastDelivered_18 : decode cX5_forecastDelivered 18 = .ok (.aload_n 0, 1) := by decide +kernel
theorem dX5_forecastDelivered_19 : decode cX5_forecastDelivered 19 = .ok (.invokevirtual 143, 3) := by decide +kernel
theorem dX5_forecastDelivered_22 : decode cX5_forecastDelivered 22 = .ok (.aload_n 0, 1) := by decide +kernel
theorem dX5_forecastDelivered_23 : decode cX5_forecastDelivered 23 = .ok (.iload_n 1, 1) := by decide +kernel
theorem dX5_forecastDelivered_24 : decode cX5_forecastDelivered 24 = .ok (.invokevirtual 137, 3) := by decide +kernel
theorem dX5_forecastDelivered_27 : decode cX5_forecastDelivered 27 = .ok (.pop, 1) := by decide +kernel
theorem dX5_forecastDelivered_28 : decode cX5_forecastDelivered 28 = .ok (.aload_n 0, 1) := by decide +kernel
theorem dX5_forecastDelivered_29 : decode cX5_forecastDelivered 29 = .ok (.getfield 7, 3) := by decide +kernel
theorem dX5_forecastDelivered_32 : decode cX5_forecastDelivered 32 = .ok (.bipush 13, 2) := by decide +kernel
theorem dX5_forecastDelivered_34 : decode cX5_forecastDelivered 34 = .ok (.iaload, 1) := by decide +kernel
theorem dX5_forecastDelivered_35 : decode cX5_forecastDelivered 35 = .ok (.aload_n 0, 1) := by decide +kernel
theorem dX5_forecastDelivered_36 : decode cX5_forecastDelivered 36 = .ok (.getfield 13, 3) := by decide +kernel
theorem dX5_forecastDelivered_39 : decode cX5_forecastDelivered 39 = .ok (.bipush 13, 2) := by decide +kernel
theorem dX5_forecastDelivered_41 : decode cX5_forecastDelivered 41 = .ok (.iaload, 1) := by decide +kernel
theorem dX5_forecastDelivered_42 : decode cX5_forecastDelivered 42 = .ok (.isub, 1) := by decide +kernel
theorem dX5_forecastDelivered_43 : decode cX5_forecastDelivered 43 = .ok (.istore_n 2, 1) := by decide +kernel
theorem dX5_forecastDelivered_44 : decode cX5_forecastDelivered 44 = .ok (.aload_n 0, 1) := by decide +kernel
theorem dX5_forecastDelivered_45 : decode cX5_forecastDelivered 45 = .ok (.invokevirtual 146, 3) := by decide +kernel
theorem dX5_forecastDelivered_48 : decode cX5_forecastDelivered 48 = .ok (.iload_n 2, 1) := by decide +kernel
theorem dX5_forecastDelivered_49 : decode cX5_forecastDelivered 49 = .ok (.ireturn, 1) := by decide +kernel
theorem dX5_undo_0 : decode cX5_undo 0 = .ok (.aload_n 0, 1) := by decide +kernel
theorem dX5_undo_1 : decode cX5_undo 1 = .ok (.iconst 0, 1) := by decide +kernel
theorem dX5_undo_2 : decode cX5_undo 2 = .ok (.putfield 32, 3) := by decide +kernel
theorem dX5_undo_5 : decode cX5_undo 5 = .ok (.aload_n 0, 1) := by decide +kernel
theorem dX5_undo_6 : decode cX5_undo 6 = .ok (.getfield 36, 3) := by decide +kernel
theorem dX5_undo_9 : decode cX5_undo 9 = .ok (.ifCond .ne 6, 3) := by decide +kernel
theorem dX5_undo_12 : decode cX5_undo 12 = .ok (.bipush (-2), 2) := by decide +kernel
theorem dX5_undo_14 : decode cX5_undo 14 = .ok (.ireturn, 1) := by decide +kernel
theorem dX5_undo_15 : decode cX5_undo 15 = .ok (.aload_n 0, 1) := by decide +kernel
theorem dX5_undo_16 : decode cX5_undo 16 = .ok (.dup, 1) := by decide +kernel
theorem dX5_undo_17 : decode cX5_undo 17 = .ok (.getfield 36, 3) := by decide +kernel
theorem dX5_undo_20 : decode cX5_undo 20 = .ok (.iconst 1, 1) := by decide +kernel
theorem dX5_undo_21 : decode cX5_undo 21 = .ok (.isub, 1) := by decide +kernel
theorem dX5_undo_22 : decode cX5_undo 22 = .ok (.putfield 36, 3) := by decide +kernel
theorem dX5_undo_25 : decode cX5_undo 25 = .ok (.iconst 0, 1) := by decide +kernel
theorem dX5_undo_26 : decode cX5_undo 26 = .ok (.istore_n 1, 1) := by decide +kernel
theorem dX5_undo_27 : decode cX5_undo 27 = .ok (.iload_n 1, 1) := by decide +kernel
theorem dX5_undo_28 : decode cX5_undo 28 = .ok (.bipush 123, 2) := by decide +kernel
theorem dX5_undo_30 : decode cX5_undo 30 = .ok (.if_icmp .ge 29, 3) := by decide +kernel
theorem dX5_undo_33 : decode cX5_undo 33 = .ok (.aload_n 0, 1) := by decide +kernel
theorem dX5_undo_34 : decode cX5_undo 34 = .ok (.getfield 7, 3) := by decide +kernel
theorem dX5_undo_37 : decode cX5_undo 37 = .ok (.iload_n 1, 1) := by decide +kernel
theorem dX5_undo_38 : decode cX5_undo 38 = .ok (.aload_n 0, 1) := by decide +kernel
theorem dX5_undo_39 : decode cX5_undo 39 = .ok (.getfield 16, 3) := by decide +kernel
theorem dX5_undo_42 : decode cX5_undo 42 = .ok (.bipush 123, 2) := by decide +kernel
theorem dX5_undo_44 : decode cX5_undo 44 = .ok (.aload_n 0, 1) := by decide +kernel
theorem dX5_undo_45 : decode cX5_undo 45 = .ok (.getfield 36, 3) := by decide +kernel
theorem dX5_undo_48 : decode cX5_undo 48 = .ok (.imul, 1) := by decide +kernel
theorem dX5_undo_49 : decode cX5_undo 49 = .ok (.iload_n 1, 1) := by decide +kernel
theorem dX5_undo_50 : decode cX5_undo 50 = .ok (.iadd, 1) := by decide +kernel
theorem dX5_undo_51 : decode cX5_undo 51 = .ok (.iaload, 1) := by decide +kernel
theorem dX5_undo_52 : decode cX5_undo 52 = .ok (.iastore, 1) := by decide +kernel
theorem dX5_undo_53 : decode cX5_undo 53 = .ok (.iinc 1 1, 3) := by decide +kernel
theorem dX5_undo_56 : decode cX5_undo 56 = .ok (.goto (-29), 3) := by decide +kernel
theorem dX5_undo_59 : decode cX5_undo 59 = .ok (.aload_n 0, 1) := by decide +kernel
theorem dX5_undo_60 : decode cX5_undo 60 = .ok (.getfield 36, 3) := by decide +kernel
theorem dX5_undo_63 : decode cX5_undo 63 = .ok (.ireturn, 1) := by decide +kernel
theorem dX5_undoDepth_0 : decode cX5_undoDepth 0 = .ok (.aload_n 0, 1) := by decide +kernel
theorem dX5_undoDepth_1 : decode cX5_undoDepth 1 = .ok (.iconst 0, 1) := by decide +kernel
theorem dX5_undoDepth_2 : decode cX5_undoDepth 2 = .ok (.putfield 32, 3) := by decide +kernel
theorem dX5_undoDepth_5 : decode cX5_undoDepth 5 = .ok (.aload_n 0, 1) := by decide +kernel
theorem dX5_undoDepth_6 : decode cX5_undoDepth 6 = .ok (.getfield 36, 3) := by decide +kernel
theorem dX5_undoDepth_9 : decode cX5_undoDepth 9 = .ok (.ireturn, 1) := by decide +kernel
set_option maxRecDepth 20000 in
theorem ggX5_save_X5_in : GoodIn wsX5_save wsX5_in := goodIn_r _ [8] (by decide +kernel) (by decide +kernel)
set_option maxRecDepth 20000 in
theorem gX5_save_X5_in : GoodIn wsX5_save (va_wsS RX5 39 yX5_in wsX5_in) := goodIn_app (goodIn_of _ (by decide +kernel)) ggX5_save_X5_in
theorem dX5_save_0 : decode cX5_save 0 = .ok (.aload_n 0, 1) := by decide +kernel
theorem dX5_save_1 : decode cX5_save 1 = .ok (.iconst 0, 1) := by decide +kernel
theorem dX5_save_2 : decode cX5_save 2 = .ok (.putfield 32, 3) := by decide +kernel
theorem dX5_save_5 : decode cX5_save 5 = .ok (.iload_n 1, 1) := by decide +kernel
theorem dX5_save_6 : decode cX5_save 6 = .ok (.iconst 0, 1) := by decide +kernel
theorem dX5_save_7 : decode cX5_save 7 = .ok (.iconst 1, 1) := by decide +kernel
theorem dX5_save_8 : decode cX5_save 8 = .ok (.invokestatic 39, 3) := by decide +kernel
theorem dX5_save_11 : decode cX5_save 11 = .ok (.ifCond .ne 5, 3) := by decide +kernel
theorem dX5_save_14 : decode cX5_save 14 = .ok (.iconst (-1), 1) := by decide +kernel
theorem dX5_save_15 : decode cX5_save 15 = .ok (.ireturn, 1) := by decide +kernel
theorem dX5_save_16 : decode cX5_save 16 = .ok (.iconst 0, 1) := by decide +kernel
theorem dX5_save_17 : decode cX5_save 17 = .ok (.istore_n 2, 1) := by decide +kernel
theorem dX5_save_18 : decode cX5_save 18 = .ok (.iload_n 2, 1) := by decide +kernel
theorem dX5_save_19 : decode cX5_save 19 = .ok (.bipush 123, 2) := by decide +kernel
theorem dX5_save_21 : decode cX5_save 21 = .ok (.if_icmp .ge 26, 3) := by decide +kernel
theorem dX5_save_24 : decode cX5_save 24 = .ok (.aload_n 0, 1) := by decide +kernel
theorem dX5_save_25 : decode cX5_save 25 = .ok (.getfield 19, 3) := by decide +kernel
theorem dX5_save_28 : decode cX5_save 28 = .ok (.bipush 123, 2) := by decide +kernel
theorem dX5_save_30 : decode cX5_save 30 = .ok (.iload_n 1, 1) := by decide +kernel
theorem dX5_save_31 : decode cX5_save 31 = .ok (.imul, 1) := by decide +kernel
theorem dX5_save_32 : decode cX5_save 32 = .ok (.iload_n 2, 1) := by decide +kernel
theorem dX5_save_33 : decode cX5_save 33 = .ok (.iadd, 1) := by decide +kernel
theorem dX5_save_34 : decode cX5_save 34 = .ok (.aload_n 0, 1) := by decide +kernel
theorem dX5_save_35 : decode cX5_save 35 = .ok (.getfield 7, 3) := by decide +kernel
theorem dX5_save_38 : decode cX5_save 38 = .ok (.iload_n 2, 1) := by decide +kernel
theorem dX5_save_39 : decode cX5_save 39 = .ok (.iaload, 1) := by decide +kernel
theorem dX5_save_40 : decode cX5_save 40 = .ok (.iastore, 1) := by decide +kernel
theorem dX5_save_41 : decode cX5_save 41 = .ok (.iinc 2 1, 3) := by decide +kernel
theorem dX5_save_44 : decode cX5_save 44 = .ok (.goto (-26), 3) := by decide +kernel
theorem dX5_save_47 : decode cX5_save 47 = .ok (.aload_n 0, 1) := by decide +kernel
theorem dX5_save_48 : decode cX5_save 48 = .ok (.getfield 22, 3) := by decide +kernel
theorem dX5_save_51 : decode cX5_save 51 = .ok (.iload_n 1, 1) := by decide +kernel
theorem dX5_save_52 : decode cX5_save 52 = .ok (.iconst 1, 1) := by decide +kernel
theorem dX5_save_53 : decode cX5_save 53 = .ok (.bastore, 1) := by decide +kernel
theorem dX5_save_54 : decode cX5_save 54 = .ok (.aload_n 0, 1) := by decide +kernel
theorem dX5_save_55 : decode cX5_save 55 = .ok (.getfield 7, 3) := by decide +kernel
theorem dX5_save_58 : decode cX5_save 58 = .ok (.iconst 0, 1) := by decide +kernel
theorem dX5_save_59 : decode cX5_save 59 = .ok (.iaload, 1) := by decide +kernel
theorem dX5_save_60 : decode cX5_save 60 = .ok (.ireturn, 1) := by decide +kernel
set_option maxRecDepth 20000 in
theorem ggX5_restore_X5_in : GoodIn wsX5_restore wsX5_in := goodIn_r _ [9] (by decide +kernel) (by decide +kernel)
set_option maxRecDepth 20000 in
theorem gX5_restore_X5_in : GoodIn wsX5_restore (va_wsS RX5 39 yX5_in wsX5_in) := goodIn_app (goodIn_of _ (by decide +kernel)) ggX5_restore_X5_in
theorem dX5_restore_0 : decode cX5_restore 0 = .ok (.aload_n 0, 1) := by decide +kernel
theorem dX5_restore_1 : decode cX5_restore 1 = .ok (.iconst 0, 1) := by decide +kernel
theorem dX5_restore_2 : decode cX5_restore 2 = .ok (.putfield 32, 3) := by decide +kernel
theorem dX5_restore_5 : decode cX5_restore 5 = .ok (.iload_n 1, 1) := by decide +kernel
theorem dX5_restore_6 : decode cX5_restore 6 = .ok (.iconst 0, 1) := by decide +kernel
theorem dX5_restore_7 : decode cX5_restore 7 = .ok (.iconst 1, 1) := by decide +kernel
theorem dX5_restore_8 : decode cX5_restore 8 = .ok (.invokestatic 39, 3) := by decide +kernel
theorem dX5_restore_11 : decode cX5_restore 11 = .ok (.ifCond .ne 5, 3) := by decide +kernel
theorem dX5_restore_14 : decode cX5_restore 14 = .ok (.iconst (-1), 1) := by decide +kernel
theorem dX5_restore_15 : decode cX5_restore 15 = .ok (.ireturn, 1) := by decide +kernel
theorem dX5_restore_16 : decode cX5_restore 16 = .ok (.aload_n 0, 1) := by decide +kernel
theorem dX5_restore_17 : decode cX5_restore 17 = .ok (.getfield 22, 3) := by decide +kernel
theorem dX5_restore_20 : decode cX5_restore 20 = .ok (.iload_n 1, 1) := by decide +kernel
theorem dX5_restore_21 : decode cX5_restore 21 = .ok (.baload, 1) := by decide +kernel
theorem dX5_restore_22 : decode cX5_restore 22 = .ok (.ifCond .ne 6, 3) := by decide +kernel
theorem dX5_restore_25 : decode cX5_restore 25 = .ok (.bipush (-2), 2) := by decide +kernel
theorem dX5_restore_27 : decode cX5_restore 27 = .ok (.ireturn, 1) := by decide +kernel
theorem dX5_restore_28 : decode cX5_restore 28 = .ok (.iconst 0, 1) := by decide +kernel
theorem dX5_restore_29 : decode cX5_restore 29 = .ok (.istore_n 2, 1) := by decide +kernel
theorem dX5_restore_30 : decode cX5_restore 30 = .ok (.iload_n 2, 1) := by decide +kernel
theorem dX5_restore_31 : decode cX5_restore 31 = .ok (.bipush 123, 2) := by decide +kernel
theorem dX5_restore_33 : decode cX5_restore 33 = .ok (.if_icmp .ge 26, 3) := by decide +kernel
theorem dX5_restore_36 : decode cX5_restore 36 = .ok (.aload_n 0, 1) := by decide +kernel
theorem dX5_restore_37 : decode cX5_restore 37 = .ok (.getfield 7, 3) := by decide +kernel
theorem dX5_restore_40 : decode cX5_restore 40 = .ok (.iload_n 2, 1) := by decide +kernel
theorem dX5_restore_41 : decode cX5_restore 41 = .ok (.aload_n 0, 1) := by decide +kernel
theorem dX5_restore_42 : decode cX5_restore 42 = .ok (.getfield 19, 3) := by decide +kernel
theorem dX5_restore_45 : decode cX5_restore 45 = .ok (.bipush 123, 2) := by decide +kernel
theorem dX5_restore_47 : decode cX5_restore 47 = .ok (.iload_n 1, 1) := by decide +kernel
theorem dX5_restore_48 : decode cX5_restore 48 = .ok (.imul, 1) := by decide +kernel
theorem dX5_restore_49 : decode cX5_restore 49 = .ok (.iload_n 2, 1) := by decide +kernel
theorem dX5_restore_50 : decode cX5_restore 50 = .ok (.iadd, 1) := by decide +kernel
theorem dX5_restore_51 : decode cX5_restore 51 = .ok (.iaload, 1) := by decide +kernel
theorem dX5_restore_52 : decode cX5_restore 52 = .ok (.iastore, 1) := by decide +kernel
theorem dX5_restore_53 : decode cX5_restore 53 = .ok (.iinc 2 1, 3) := by decide +kernel
theorem dX5_restore_56 : decode cX5_restore 56 = .ok (.goto (-26), 3) := by decide +kernel
theorem dX5_restore_59 : decode cX5_restore 59 = .ok (.aload_n 0, 1) := by decide +kernel
theorem dX5_restore_60 : decode cX5_restore 60 = .ok (.iconst 0, 1) := by decide +kernel
theorem dX5_restore_61 : decode cX5_restore 61 = .ok (.putfield 36, 3) := by decide +kernel
theorem dX5_restore_64 : decode cX5_restore 64 = .ok (.aload_n 0, 1) := by decide +kernel
theorem dX5_restore_65 : decode cX5_restore 65 = .ok (.getfield 7, 3) := by decide +kernel
theorem dX5_restore_68 : decode cX5_restore 68 = .ok (.iconst 0, 1) := by decide +kernel
theorem dX5_restore_69 : decode cX5_restore 69 = .ok (.iaload, 1) := by decide +kernel
theorem dX5_restore_70 : decode cX5_restore 70 = .ok (.ireturn, 1) := by decide +kernel
set_option maxRecDepth 20000 in
theorem ggL_law_X4_init : GoodIn wsL_law wsX4_init := goodIn_r _ [8, 9, 10, 11, 12, 13, 14, 15, 16, 17, 18, 19, 20, 21, 22, 23, 24, 25, 26, 27, 28, 29, 30, 31, 32, 33, 34, 35, 36, 37, 38, 39, 40, 41, 42, 43, 44, 45, 46, 47, 48, 49, 50, 51, 52, 53, 54, 55, 56, 57, 58, 59, 60, 61, 654, 655, 656, 657, 658, 659, 660, 661, 662, 663, 664, 638, 639, 640, 641, 642, 643, 644, 665, 666, 667, 668, 669, 670, 671, 672, 673, 674, 675, 676, 677, 678] (by decide +kernel) (by decide +kernel)
set_option maxRecDepth 20000 in
theorem gL_law_X4_init : GoodIn wsL_law (wsX4_init) := ggL_law_X4_init
set_option maxRecDepth 20000 in
theorem ggL_law_X5_init : GoodIn wsL_law wsX5_init := goodIn_r _ [64, 65, 10, 11, 35, 66, 67, 68, 69, 27, 70, 71, 72, 645, 646, 647, 648, 649, 650, 651, 652, 653] (by decide +kernel) (by decide +kernel)
set_option maxRecDepth 20000 in
theorem gL_law_X5_init : GoodIn wsL_law (wsX5_init) := ggL_law_X5_init
set_option maxRecDepth 20000 in
theorem ggL_law_X4_addSensor : GoodIn wsL_law wsX4_addSensor := goodIn_r _ [76, 77, 15, 78, 25, 79, 80, 81, 2, 82, 83, 84, 85, 24, 86, 87, 60, 88, 89, 90, 91, 92, 93, 94, 14, 95, 96, 34, 36, 43, 44, 45, 46, 37, 38, 39, 97, 98, 99, 100, 101, 102, 103, 104, 41, 105, 106, 107, 108, 109, 110, 111, 112, 113, 114, 115, 116, 117, 118, 119, 120, 121, 122, 123, 124, 638, 639, 640, 641, 642, 643, 644, 654, 655, 656, 657, 658, 659, 660, 661, 662, 663, 664, 666, 667, 668, 669, 670, 671, 672, 673, 674, 675, 676, 677, 678] (by decide +kernel) (by decide +kernel)
set_option maxRecDepth 20000 in
theorem gL_law_X4_addSensor : GoodIn wsL_law (wsV RL 13 RX4 yX4_addSensor wsX4_addSensor) := goodIn_app (goodIn_of _ (by decide +kernel)) ggL_law_X4_addSensor
set_option maxRecDepth 20000 in
theorem ggL_law_X5_addSensor : GoodIn wsL_law wsX5_addSensor := goodIn_r _ [128, 129, 130, 66, 131, 132, 5, 133, 134, 135, 136, 137, 138, 68, 139, 140, 141, 142, 645, 646, 647, 648, 649, 650, 651, 652, 653] (by decide +kernel) (by decide +kernel)
set_option maxRecDepth 20000 in
theorem gL_law_X5_addSensor : GoodIn wsL_law (wsV RL 17 RX5 yX5_addSensor wsX5_addSensor) := goodIn_app (goodIn_of _ (by decide +kernel)) ggL_law_X5_addSensor
set_option maxRecDepth 20000 in
theorem ggL_law_X4_moveBase : GoodIn wsL_law wsX4_moveBase := goodIn_r _ [146, 25, 15, 147, 148, 80, 81, 2, 82, 83, 84, 85, 24, 86, 87, 60, 88, 89, 90, 91, 92, 93, 94, 14, 95, 96, 34, 36, 43, 44, 45, 46, 37, 38, 39, 97, 98, 99, 100, 101, 102, 103, 104, 41, 105, 106, 107, 108, 109, 110, 111, 112, 113, 114, 638, 639, 640, 641, 642, 643, 644, 654, 655, 656, 657, 658, 659, 660, 661, 662, 663, 664, 666, 667, 668, 669, 670, 671, 672, 673, 674, 675, 676, 677, 678] (by decide +kernel) (by decide +kernel)
set_option maxRecDepth 20000 in
theorem gL_law_X4_moveBase : GoodIn wsL_law (wsV RL 18 RX4 yX4_moveBase wsX4_moveBase) := goodIn_app (goodIn_of _ (by decide +kernel)) ggL_law_X4_moveBase
set_option maxRecDepth 20000 in
theorem ggL_law_X5_moveBase : GoodIn wsL_law wsX5_moveBase := goodIn_r _ [152, 129, 66, 131, 132, 5, 133, 134, 135, 136, 137, 138, 68, 645, 646, 647, 648, 649, 650, 651, 652, 653] (by decide +kernel) (by decide +kernel)
set_option maxRecDepth 20000 in
theorem gL_law_X5_moveBase : GoodIn wsL_law (wsV RL 22 RX5 yX5_moveBase wsX5_moveBase) := goodIn_app (goodIn_of _ (by decide +kernel)) ggL_law_X5_moveBase
set_option maxRecDepth 20000 in
theorem ggL_law_X4_setSetting : GoodIn wsL_law wsX4_setSetting := goodIn_r _ [156, 157, 158, 15, 159, 25, 80, 81, 2, 82, 83, 84, 85, 24, 86, 87, 60, 88, 89, 90, 91, 92, 93, 94, 14, 95, 96, 34, 36, 43, 44, 45, 46, 37, 38, 39, 97, 98, 99, 100, 101, 102, 103, 104, 41, 105, 106, 107, 108, 109, 110, 111, 112, 113, 114, 638, 639, 640, 641, 642, 643, 644, 654, 655, 656, 657, 658, 659, 660, 661, 662, 663, 664, 666, 667, 668, 669, 670, 671, 672, 673, 674, 675, 676, 677, 678] (by decide +kernel) (by decide +kernel)
set_option maxRecDepth 20000 in
theorem gL_law_X4_setSetting : GoodIn wsL_law (wsV RL 23 RX4 yX4_setSetting wsX4_setSetting) := goodIn_app (goodIn_of _ (by decide +kernel)) ggL_law_X4_setSetting
set_option maxRecDepth 20000 in
theorem ggL_law_X5_setSetting : GoodIn wsL_law wsX5_setSetting := goodIn_r _ [163, 129, 66, 164, 165, 5, 166, 131, 132, 133, 134, 135, 136, 137, 138, 68, 645, 646, 647, 648, 649, 650, 651, 652, 653] (by decide +kernel) (by decide +kernel)
set_option maxRecDepth 20000 in
theorem gL_law_X5_setSetting : GoodIn wsL_law (wsV RL 26 RX5 yX5_setSetting wsX5_setSetting) := goodIn_app (goodIn_of _ (by decide +kernel)) ggL_law_X5_setSetting
set_option maxRecDepth 20000 in
theorem ggL_law_X4_setGenerator : GoodIn wsL_law wsX4_setGenerator := goodIn_r _ [170, 25, 15, 171, 172, 83, 84, 85, 24, 86, 87, 60, 88, 89, 90, 91, 92, 93, 94, 14, 95, 96, 34, 36, 43, 44, 45, 46, 37, 38, 39, 97, 98, 99, 100, 101, 102, 103, 104, 41, 105, 106, 107, 108, 109, 110, 111, 112, 113, 114, 638, 639, 640, 641, 642, 643, 644, 654, 655, 656, 657, 658, 659, 660, 661, 662, 663, 664, 666, 667, 668, 669, 670, 671, 672, 673, 674, 675, 676, 677, 678] (by decide +kernel) (by decide +kernel)
set_option maxRecDepth 20000 in
theorem gL_law_X4_setGenerator : GoodIn wsL_law (wsV RL 27 RX4 yX4_setGenerator wsX4_setGenerator) := goodIn_app (goodIn_of _ (by decide +kernel)) ggL_law_X4_setGenerator
set_option maxRecDepth 20000 in
theorem ggL_law_X5_setGenerator : GoodIn wsL_law wsX5_setGenerator := goodIn_r _ [176, 129, 66, 134, 135, 136, 5, 137, 138, 68, 645, 646, 647, 648, 649, 650, 651, 652, 653] (by decide +kernel) (by decide +kernel)
set_option maxRecDepth 20000 in
theorem gL_law_X5_setGenerator : GoodIn wsL_law (wsV RL 31 RX5 yX5_setGenerator wsX5_setGenerator) := goodIn_app (goodIn_of _ (by decide +kernel)) ggL_law_X5_setGenerator
set_option maxRecDepth 20000 in
theorem ggL_law_X4_charge : GoodIn wsL_law wsX4_charge := goodIn_r _ [180, 15, 77, 79, 181, 182, 183, 25, 184, 185, 186, 14, 187, 96, 80, 81, 2, 82, 83, 84, 85, 24, 86, 87, 60, 88, 89, 90, 91, 92, 93, 94, 95, 34, 36, 43, 44, 45, 46, 37, 38, 39, 97, 98, 99, 100, 101, 102, 103, 104, 41, 105, 106, 107, 108, 109, 110, 111, 112, 113, 114, 638, 639, 640, 641, 642, 643, 644, 654, 655, 656, 657, 658, 659, 660, 661, 662, 663, 664, 668, 669, 670, 671, 672, 673, 674, 675, 676, 677, 678, 666, 667] (by decide +kernel) (by decide +kernel)
set_option maxRecDepth 20000 in
theorem gL_law_X4_charge : GoodIn wsL_law (wsV RL 32 RX4 yX4_charge wsX4_charge) := goodIn_app (goodIn_of _ (by decide +kernel)) ggL_law_X4_charge
set_option maxRecDepth 20000 in
theorem ggL_law_X5_charge : GoodIn wsL_law wsX5_charge := goodIn_r _ [191, 129, 130, 192, 193, 194, 195, 5, 196, 66, 131, 132, 133, 197, 198, 199, 200, 201, 202, 203, 204, 134, 135, 136, 137, 138, 68, 139, 140, 141, 142, 645, 646, 647, 648, 649, 650, 651, 652, 653] (by decide +kernel) (by decide +kernel)
set_option maxRecDepth 20000 in
theorem gL_law_X5_charge : GoodIn wsL_law (wsV RL 35 RX5 yX5_charge wsX5_charge) := goodIn_app (goodIn_of _ (by decide +kernel)) ggL_law_X5_charge
set_option maxRecDepth 20000 in
theorem ggL_law_X4_run : GoodIn wsL_law wsX4_run := goodIn_r _ [208, 15, 25, 19, 80, 81, 2, 82, 209, 210, 211, 14, 212, 96, 34, 213, 83, 84, 85, 24, 86, 87, 60, 88, 89, 90, 91, 92, 93, 94, 95, 36, 43, 44, 45, 46, 37, 38, 39, 97, 98, 99, 100, 101, 102, 103, 104, 41, 105, 106, 107, 108, 109, 110, 111, 112, 113, 114, 214, 215, 216, 18, 217, 54, 218, 219, 220, 221, 222, 223, 224, 225, 226, 227, 228, 229, 230, 231, 232, 233, 234, 235, 236, 237, 238, 120, 121, 122, 123, 124, 239, 240, 241, 242, 243, 244, 245, 246, 247, 248, 249, 250, 251, 252, 253, 254, 255, 256, 257, 258, 259, 260, 261, 262, 263, 264, 265, 266, 267, 268, 269, 270, 271, 272, 273, 274, 275, 276, 277, 278, 279, 280, 281, 282, 283, 284, 285, 286, 287, 288, 289, 290, 291, 292, 293, 294, 295, 296, 297, 298, 299, 300, 301, 302, 303, 304, 305, 306, 307, 308, 309, 310, 311, 312, 313, 314, 315, 316, 317, 318, 319, 320, 321, 322, 323, 324, 325, 326, 327, 328, 329, 330, 331, 332, 333, 334, 335, 336, 337, 338, 185, 186, 187, 339, 340, 341, 342, 638, 639, 640, 641, 642, 643, 644, 654, 655, 656, 657, 658, 659, 660, 661, 662, 663, 664, 668, 669, 670, 671, 672, 673, 674, 675, 676, 677, 678, 666, 667, 665] (by decide +kernel) (by decide +kernel)
set_option maxRecDepth 20000 in
theorem gL_law_X4_run : GoodIn wsL_law (wsV RL 36 RX4 yX4_run wsX4_run) := goodIn_app (goodIn_of _ (by decide +kernel)) ggL_law_X4_run
set_option maxRecDepth 20000 in
theorem ggL_law_X5_run : GoodIn wsL_law wsX5_run := goodIn_r _ [346, 129, 131, 132, 5, 133, 347, 348, 349, 350, 66, 201, 202, 203, 204, 134, 135, 136, 137, 138, 68, 351, 352, 353, 354, 355, 356, 357, 358, 359, 360, 361, 362, 72, 71, 363, 364, 365, 366, 139, 140, 141, 142, 197, 198, 199, 200, 367, 368, 369, 370, 371, 372, 373, 374, 375, 376, 377, 378, 379, 380, 381, 382, 383, 384, 385, 386, 387, 388, 389, 390, 391, 392, 393, 394, 395, 396, 397, 398, 399, 400, 401, 402, 403, 404, 405, 406, 407, 408, 409, 410, 411, 412, 413, 414, 415, 416, 417, 418, 419, 420, 421, 422, 423, 424, 425, 426, 427, 428, 429, 430, 431, 432, 433, 434, 435, 436, 437, 645, 646, 647, 648, 649, 650, 651, 652, 653] (by decide +kernel) (by decide +kernel)
set_option maxRecDepth 20000 in
theorem gL_law_X5_run : GoodIn wsL_law (wsV RL 39 RX5 yX5_run wsX5_run) := goodIn_app (goodIn_of _ (by decide +kernel)) ggL_law_X5_run
set_option maxRecDepth 20000 in
theorem ggL_law_X4_roundNumber : GoodIn wsL_law wsX4_roundNumber := goodIn_r _ [441, 15, 172, 638, 639, 640, 641, 642, 643, 644, 654, 655, 656, 657, 658, 659, 660, 661, 662, 663, 664] (by decide +kernel) (by decide +kernel)
set_option maxRecDepth 20000 in
theorem gL_law_X4_roundNumber : GoodIn wsL_law (wsV RL 40 RX4 yX4_roundNumber wsX4_roundNumber) := goodIn_app (goodIn_of _ (by decide +kernel)) ggL_law_X4_roundNumber
set_option maxRecDepth 20000 in
theorem ggL_law_X5_roundNumber : GoodIn wsL_law wsX5_roundNumber := goodIn_r _ [445, 129, 66, 645, 646, 647, 648, 649, 650, 651, 652, 653] (by decide +kernel) (by decide +kernel)
set_option maxRecDepth 20000 in
theorem gL_law_X5_roundNumber : GoodIn wsL_law (wsV RL 44 RX5 yX5_roundNumber wsX5_roundNumber) := goodIn_app (goodIn_of _ (by decide +kernel)) ggL_law_X5_roundNumber
set_option maxRecDepth 20000 in
theorem ggL_law_X4_sensorCount : GoodIn wsL_law wsX4_sensorCount := goodIn_r _ [449, 15, 78, 638, 639, 640, 641, 642, 643, 644, 654, 655, 656, 657, 658, 659, 660, 661, 662, 663, 664] (by decide +kernel) (by decide +kernel)
set_option maxRecDepth 20000 in
theorem gL_law_X4_sensorCount : GoodIn wsL_law (wsV RL 45 RX4 yX4_sensorCount wsX4_sensorCount) := goodIn_app (goodIn_of _ (by decide +kernel)) ggL_law_X4_sensorCount
set_option maxRecDepth 20000 in
theorem ggL_law_X5_sensorCount : GoodIn wsL_law wsX5_sensorCount := goodIn_r _ [453, 129, 66, 645, 646, 647, 648, 649, 650, 651, 652, 653] (by decide +kernel) (by decide +kernel)
set_option maxRecDepth 20000 in
theorem gL_law_X5_sensorCount : GoodIn wsL_law (wsV RL 48 RX5 yX5_sensorCount wsX5_sensorCount) := goodIn_app (goodIn_of _ (by decide +kernel)) ggL_law_X5_sensorCount
set_option maxRecDepth 20000 in
theorem ggL_law_X4_aliveCount : GoodIn wsL_law wsX4_aliveCount := goodIn_r _ [457, 15, 209, 210, 211, 14, 212, 96, 34, 213, 638, 639, 640, 641, 642, 643, 644, 654, 655, 656, 657, 658, 659, 660, 661, 662, 663, 664, 668, 669, 670, 671, 672, 673, 674, 675, 676, 677, 678] (by decide +kernel) (by decide +kernel)
set_option maxRecDepth 20000 in
theorem gL_law_X4_aliveCount : GoodIn wsL_law (wsV RL 49 RX4 yX4_aliveCount wsX4_aliveCount) := goodIn_app (goodIn_of _ (by decide +kernel)) ggL_law_X4_aliveCount
set_option maxRecDepth 20000 in
theorem ggL_law_X5_aliveCount : GoodIn wsL_law wsX5_aliveCount := goodIn_r _ [461, 129, 347, 348, 349, 5, 350, 66, 201, 202, 203, 204, 645, 646, 647, 648, 649, 650, 651, 652, 653] (by decide +kernel) (by decide +kernel)
set_option maxRecDepth 20000 in
theorem gL_law_X5_aliveCount : GoodIn wsL_law (wsV RL 52 RX5 yX5_aliveCount wsX5_aliveCount) := goodIn_app (goodIn_of _ (by decide +kernel)) ggL_law_X5_aliveCount
set_option maxRecDepth 20000 in
theorem ggL_law_X4_isAlive : GoodIn wsL_law wsX4_isAlive := goodIn_r _ [465, 15, 79, 181, 184, 185, 186, 14, 187, 96, 638, 639, 640, 641, 642, 643, 644, 654, 655, 656, 657, 658, 659, 660, 661, 662, 663, 664, 668, 669, 670, 671, 672, 673, 674, 675, 676, 677, 678] (by decide +kernel) (by decide +kernel)
set_option maxRecDepth 20000 in
theorem gL_law_X4_isAlive : GoodIn wsL_law (wsV RL 53 RX4 yX4_isAlive wsX4_isAlive) := goodIn_app (goodIn_of _ (by decide +kernel)) ggL_law_X4_isAlive
set_option maxRecDepth 20000 in
theorem ggL_law_X5_isAlive : GoodIn wsL_law wsX5_isAlive := goodIn_r _ [469, 129, 470, 471, 472, 5, 473, 193, 194, 195, 196, 66, 131, 132, 133, 201, 202, 203, 204, 645, 646, 647, 648, 649, 650, 651, 652, 653] (by decide +kernel) (by decide +kernel)
set_option maxRecDepth 20000 in
theorem gL_law_X5_isAlive : GoodIn wsL_law (wsV RL 56 RX5 yX5_isAlive wsX5_isAlive) := goodIn_app (goodIn_of _ (by decide +kernel)) ggL_law_X5_isAlive
set_option maxRecDepth 20000 in
theorem ggL_law_X4_battery : GoodIn wsL_law wsX4_battery := goodIn_r _ [477, 15, 79, 182, 184, 185, 186, 14, 187, 96, 638, 639, 640, 641, 642, 643, 644, 654, 655, 656, 657, 658, 659, 660, 661, 662, 663, 664, 668, 669, 670, 671, 672, 673, 674, 675, 676, 677, 678] (by decide +kernel) (by decide +kernel)
set_option maxRecDepth 20000 in
theorem gL_law_X4_battery : GoodIn wsL_law (wsV RL 57 RX4 yX4_battery wsX4_battery) := goodIn_app (goodIn_of _ (by decide +kernel)) ggL_law_X4_battery
set_option maxRecDepth 20000 in
theorem ggL_law_X5_battery : GoodIn wsL_law wsX5_battery := goodIn_r _ [481, 129, 470, 471, 472, 5, 473, 193, 194, 195, 196, 66, 131, 132, 133, 201, 202, 203, 204, 645, 646, 647, 648, 649, 650, 651, 652, 653] (by decide +kernel) (by decide +kernel)
set_option maxRecDepth 20000 in
theorem gL_law_X5_battery : GoodIn wsL_law (wsV RL 60 RX5 yX5_battery wsX5_battery) := goodIn_app (goodIn_of _ (by decide +kernel)) ggL_law_X5_battery
set_option maxRecDepth 20000 in
theorem ggL_law_X4_isEligible : GoodIn wsL_law wsX4_isEligible := goodIn_r _ [485, 15, 79, 181, 486, 184, 185, 186, 14, 187, 96, 487, 235, 236, 237, 36, 97, 638, 639, 640, 641, 642, 643, 644, 654, 655, 656, 657, 658, 659, 660, 661, 662, 663, 664, 668, 669, 670, 671, 672, 673, 674, 675, 676, 677, 678] (by decide +kernel) (by decide +kernel)
set_option maxRecDepth 20000 in
theorem gL_law_X4_isEligible : GoodIn wsL_law (wsV RL 61 RX4 yX4_isEligible wsX4_isEligible) := goodIn_app (goodIn_of _ (by decide +kernel)) ggL_law_X4_isEligible
set_option maxRecDepth 20000 in
theorem ggL_law_X5_isEligible : GoodIn wsL_law wsX5_isEligible := goodIn_r _ [491, 129, 66, 193, 194, 195, 5, 196, 131, 132, 133, 197, 198, 199, 200, 201, 202, 203, 204, 363, 364, 365, 366, 645, 646, 647, 648, 649, 650, 651, 652, 653] (by decide +kernel) (by decide +kernel)
set_option maxRecDepth 20000 in
theorem gL_law_X5_isEligible : GoodIn wsL_law (wsV RL 64 RX5 yX5_isEligible wsX5_isEligible) := goodIn_app (goodIn_of _ (by decide +kernel)) ggL_law_X5_isEligible
set_option maxRecDepth 20000 in
theorem ggL_law_X4_headRounds : GoodIn wsL_law wsX4_headRounds := goodIn_r _ [495, 15, 79, 496, 184, 185, 186, 14, 187, 96, 638, 639, 640, 641, 642, 643, 644, 654, 655, 656, 657, 658, 659, 660, 661, 662, 663, 664, 668, 669, 670, 671, 672, 673, 674, 675, 676, 677, 678] (by decide +kernel) (by decide +kernel)
set_option maxRecDepth 20000 in
theorem gL_law_X4_headRounds : GoodIn wsL_law (wsV RL 65 RX4 yX4_headRounds wsX4_headRounds) := goodIn_app (goodIn_of _ (by decide +kernel)) ggL_law_X4_headRounds
set_option maxRecDepth 20000 in
theorem ggL_law_X5_headRounds : GoodIn wsL_law wsX5_headRounds := goodIn_r _ [500, 129, 470, 471, 472, 5, 473, 193, 194, 195, 196, 66, 131, 132, 133, 201, 202, 203, 204, 645, 646, 647, 648, 649, 650, 651, 652, 653] (by decide +kernel) (by decide +kernel)
set_option maxRecDepth 20000 in
theorem gL_law_X5_headRounds : GoodIn wsL_law (wsV RL 68 RX5 yX5_headRounds wsX5_headRounds) := goodIn_app (goodIn_of _ (by decide +kernel)) ggL_law_X5_headRounds
set_option maxRecDepth 20000 in
theorem ggL_law_X4_deathRound : GoodIn wsL_law wsX4_deathRound := goodIn_r _ [504, 15, 79, 505, 184, 185, 186, 14, 187, 96, 638, 639, 640, 641, 642, 643, 644, 654, 655, 656, 657, 658, 659, 660, 661, 662, 663, 664, 668, 669, 670, 671, 672, 673, 674, 675, 676, 677, 678] (by decide +kernel) (by decide +kernel)
set_option maxRecDepth 20000 in
theorem gL_law_X4_deathRound : GoodIn wsL_law (wsV RL 69 RX4 yX4_deathRound wsX4_deathRound) := goodIn_app (goodIn_of _ (by decide +kernel)) ggL_law_X4_deathRound
set_option maxRecDepth 20000 in
theorem ggL_law_X5_deathRound : GoodIn wsL_law wsX5_deathRound := goodIn_r _ [509, 129, 470, 471, 472, 5, 473, 193, 194, 195, 196, 66, 131, 132, 133, 201, 202, 203, 204, 645, 646, 647, 648, 649, 650, 651, 652, 653] (by decide +kernel) (by decide +kernel)
set_option maxRecDepth 20000 in
theorem gL_law_X5_deathRound : GoodIn wsL_law (wsV RL 72 RX5 yX5_deathRound wsX5_deathRound) := goodIn_app (goodIn_of _ (by decide +kernel)) ggL_law_X5_deathRound
set_option maxRecDepth 20000 in
theorem ggL_law_X4_headOf : GoodIn wsL_law wsX4_headOf := goodIn_r _ [513, 15, 79, 514, 184, 185, 186, 14, 187, 96, 638, 639, 640, 641, 642, 643, 644, 654, 655, 656, 657, 658, 659, 660, 661, 662, 663, 664, 668, 669, 670, 671, 672, 673, 674, 675, 676, 677, 678] (by decide +kernel) (by decide +kernel)
set_option maxRecDepth 20000 in
theorem gL_law_X4_headOf : GoodIn wsL_law (wsV RL 73 RX4 yX4_headOf wsX4_headOf) := goodIn_app (goodIn_of _ (by decide +kernel)) ggL_law_X4_headOf
set_option maxRecDepth 20000 in
theorem ggL_law_X5_headOf : GoodIn wsL_law wsX5_headOf := goodIn_r _ [518, 129, 470, 471, 472, 5, 473, 193, 194, 195, 196, 66, 131, 132, 133, 201, 202, 203, 204, 645, 646, 647, 648, 649, 650, 651, 652, 653] (by decide +kernel) (by decide +kernel)
set_option maxRecDepth 20000 in
theorem gL_law_X5_headOf : GoodIn wsL_law (wsV RL 76 RX5 yX5_headOf wsX5_headOf) := goodIn_app (goodIn_of _ (by decide +kernel)) ggL_law_X5_headOf
set_option maxRecDepth 20000 in
theorem ggL_law_X4_slotOf : GoodIn wsL_law wsX4_slotOf := goodIn_r _ [522, 15, 79, 523, 184, 185, 186, 14, 187, 96, 638, 639, 640, 641, 642, 643, 644, 654, 655, 656, 657, 658, 659, 660, 661, 662, 663, 664, 668, 669, 670, 671, 672, 673, 674, 675, 676, 677, 678] (by decide +kernel) (by decide +kernel)
set_option maxRecDepth 20000 in
theorem gL_law_X4_slotOf : GoodIn wsL_law (wsV RL 77 RX4 yX4_slotOf wsX4_slotOf) := goodIn_app (goodIn_of _ (by decide +kernel)) ggL_law_X4_slotOf
set_option maxRecDepth 20000 in
theorem ggL_law_X5_slotOf : GoodIn wsL_law wsX5_slotOf := goodIn_r _ [527, 129, 470, 471, 472, 5, 473, 193, 194, 195, 196, 66, 131, 132, 133, 201, 202, 203, 204, 645, 646, 647, 648, 649, 650, 651, 652, 653] (by decide +kernel) (by decide +kernel)
set_option maxRecDepth 20000 in
theorem gL_law_X5_slotOf : GoodIn wsL_law (wsV RL 80 RX5 yX5_slotOf wsX5_slotOf) := goodIn_app (goodIn_of _ (by decide +kernel)) ggL_law_X5_slotOf
set_option maxRecDepth 20000 in
theorem ggL_law_X4_headCount : GoodIn wsL_law wsX4_headCount := goodIn_r _ [531, 15, 532, 638, 639, 640, 641, 642, 643, 644, 654, 655, 656, 657, 658, 659, 660, 661, 662, 663, 664] (by decide +kernel) (by decide +kernel)
set_option maxRecDepth 20000 in
theorem gL_law_X4_headCount : GoodIn wsL_law (wsV RL 81 RX4 yX4_headCount wsX4_headCount) := goodIn_app (goodIn_of _ (by decide +kernel)) ggL_law_X4_headCount
set_option maxRecDepth 20000 in
theorem ggL_law_X5_headCount : GoodIn wsL_law wsX5_headCount := goodIn_r _ [536, 129, 66, 645, 646, 647, 648, 649, 650, 651, 652, 653] (by decide +kernel) (by decide +kernel)
set_option maxRecDepth 20000 in
theorem gL_law_X5_headCount : GoodIn wsL_law (wsV RL 84 RX5 yX5_headCount wsX5_headCount) := goodIn_app (goodIn_of _ (by decide +kernel)) ggL_law_X5_headCount
set_option maxRecDepth 20000 in
theorem ggL_law_X4_lastDelivered : GoodIn wsL_law wsX4_lastDelivered := goodIn_r _ [540, 15, 541, 638, 639, 640, 641, 642, 643, 644, 654, 655, 656, 657, 658, 659, 660, 661, 662, 663, 664] (by decide +kernel) (by decide +kernel)
set_option maxRecDepth 20000 in
theorem gL_law_X4_lastDelivered : GoodIn wsL_law (wsV RL 85 RX4 yX4_lastDelivered wsX4_lastDelivered) := goodIn_app (goodIn_of _ (by decide +kernel)) ggL_law_X4_lastDelivered
set_option maxRecDepth 20000 in
theorem ggL_law_X5_lastDelivered : GoodIn wsL_law wsX5_lastDelivered := goodIn_r _ [545, 129, 66, 645, 646, 647, 648, 649, 650, 651, 652, 653] (by decide +kernel) (by decide +kernel)
set_option maxRecDepth 20000 in
theorem gL_law_X5_lastDelivered : GoodIn wsL_law (wsV RL 88 RX5 yX5_lastDelivered wsX5_lastDelivered) := goodIn_app (goodIn_of _ (by decide +kernel)) ggL_law_X5_lastDelivered
set_option maxRecDepth 20000 in
theorem ggL_law_X4_deliveredTotal : GoodIn wsL_law wsX4_deliveredTotal := goodIn_r _ [549, 15, 550, 638, 639, 640, 641, 642, 643, 644, 654, 655, 656, 657, 658, 659, 660, 661, 662, 663, 664] (by decide +kernel) (by decide +kernel)
set_option maxRecDepth 20000 in
theorem gL_law_X4_deliveredTotal : GoodIn wsL_law (wsV RL 89 RX4 yX4_deliveredTotal wsX4_deliveredTotal) := goodIn_app (goodIn_of _ (by decide +kernel)) ggL_law_X4_deliveredTotal
set_option maxRecDepth 20000 in
theorem ggL_law_X5_deliveredTotal : GoodIn wsL_law wsX5_deliveredTotal := goodIn_r _ [554, 129, 66, 645, 646, 647, 648, 649, 650, 651, 652, 653] (by decide +kernel) (by decide +kernel)
set_option maxRecDepth 20000 in
theorem gL_law_X5_deliveredTotal : GoodIn wsL_law (wsV RL 92 RX5 yX5_deliveredTotal wsX5_deliveredTotal) := goodIn_app (goodIn_of _ (by decide +kernel)) ggL_law_X5_deliveredTotal
set_option maxRecDepth 20000 in
theorem ggL_law_X4_energyPaid : GoodIn wsL_law wsX4_energyPaid := goodIn_r _ [558, 15, 559, 638, 639, 640, 641, 642, 643, 644, 654, 655, 656, 657, 658, 659, 660, 661, 662, 663, 664] (by decide +kernel) (by decide +kernel)
set_option maxRecDepth 20000 in
theorem gL_law_X4_energyPaid : GoodIn wsL_law (wsV RL 93 RX4 yX4_energyPaid wsX4_energyPaid) := goodIn_app (goodIn_of _ (by decide +kernel)) ggL_law_X4_energyPaid
set_option maxRecDepth 20000 in
theorem ggL_law_X5_energyPaid : GoodIn wsL_law wsX5_energyPaid := goodIn_r _ [563, 129, 66, 645, 646, 647, 648, 649, 650, 651, 652, 653] (by decide +kernel) (by decide +kernel)
set_option maxRecDepth 20000 in
theorem gL_law_X5_energyPaid : GoodIn wsL_law (wsV RL 96 RX5 yX5_energyPaid wsX5_energyPaid) := goodIn_app (goodIn_of _ (by decide +kernel)) ggL_law_X5_energyPaid
set_option maxRecDepth 20000 in
theorem ggL_law_X4_sendCost : GoodIn wsL_law wsX4_sendCost := goodIn_r _ [567, 15, 79, 147, 148, 568, 569, 184, 185, 186, 14, 187, 96, 570, 279, 280, 41, 281, 106, 107, 571, 283, 284, 285, 36, 638, 639, 640, 641, 642, 643, 644, 654, 655, 656, 657, 658, 659, 660, 661, 662, 663, 664, 668, 669, 670, 671, 672, 673, 674, 675, 676, 677, 678] (by decide +kernel) (by decide +kernel)
set_option maxRecDepth 20000 in
theorem gL_law_X4_sendCost : GoodIn wsL_law (wsV RL 97 RX4 yX4_sendCost wsX4_sendCost) := goodIn_app (goodIn_of _ (by decide +kernel)) ggL_law_X4_sendCost
set_option maxRecDepth 20000 in
theorem ggL_law_X5_sendCost : GoodIn wsL_law wsX5_sendCost := goodIn_r _ [575, 129, 193, 194, 195, 5, 196, 66, 131, 132, 133, 410, 411, 412, 413, 398, 399, 400, 401, 201, 202, 203, 204, 394, 395, 396, 397, 414, 415, 416, 417, 363, 364, 365, 366, 645, 646, 647, 648, 649, 650, 651, 652, 653] (by decide +kernel) (by decide +kernel)
set_option maxRecDepth 20000 in
theorem gL_law_X5_sendCost : GoodIn wsL_law (wsV RL 100 RX5 yX5_sendCost wsX5_sendCost) := goodIn_app (goodIn_of _ (by decide +kernel)) ggL_law_X5_sendCost
set_option maxRecDepth 20000 in
theorem ggL_law_X4_forecastDeath : GoodIn wsL_law wsX4_forecastDeath := goodIn_r _ [579, 15, 79, 181, 20, 21, 505, 184, 185, 186, 14, 187, 96, 80, 81, 2, 82, 580, 93, 94, 95, 34, 36, 43, 44, 45, 46, 37, 38, 39, 97, 98, 99, 100, 101, 102, 103, 104, 41, 105, 106, 107, 108, 109, 110, 111, 112, 113, 114, 214, 215, 216, 18, 217, 54, 218, 210, 211, 212, 213, 219, 220, 221, 222, 223, 224, 225, 226, 227, 228, 229, 230, 231, 232, 233, 234, 235, 236, 237, 238, 120, 121, 122, 123, 124, 239, 240, 241, 242, 243, 244, 245, 246, 247, 248, 249, 250, 251, 252, 253, 254, 255, 256, 257, 258, 259, 260, 261, 262, 263, 264, 265, 266, 267, 268, 269, 270, 271, 272, 273, 274, 275, 276, 277, 278, 279, 280, 281, 282, 283, 284, 285, 286, 287, 288, 289, 290, 291, 292, 293, 294, 295, 296, 297, 298, 299, 300, 301, 302, 303, 304, 305, 306, 307, 308, 309, 310, 311, 312, 313, 314, 315, 316, 317, 318, 319, 320, 321, 322, 323, 324, 325, 326, 327, 328, 329, 330, 331, 332, 333, 334, 335, 336, 337, 338, 339, 340, 341, 342, 638, 639, 640, 641, 642, 643, 644, 654, 655, 656, 657, 658, 659, 660, 661, 662, 663, 664, 668, 669, 670, 671, 672, 673, 674, 675, 676, 677, 678, 665] (by decide +kernel) (by decide +kernel)
set_option maxRecDepth 20000 in
theorem gL_law_X4_forecastDeath : GoodIn wsL_law (wsV RL 101 RX4 yX4_forecastDeath wsX4_forecastDeath) := goodIn_app (goodIn_of _ (by decide +kernel)) ggL_law_X4_forecastDeath
set_option maxRecDepth 20000 in
theorem ggL_law_X5_forecastDeath : GoodIn wsL_law wsX5_forecastDeath := goodIn_r _ [584, 129, 193, 194, 195, 5, 196, 66, 131, 132, 133, 197, 198, 199, 200, 201, 202, 203, 204, 585, 586, 587, 588, 67, 351, 352, 353, 354, 347, 348, 349, 350, 355, 356, 357, 358, 359, 360, 361, 362, 72, 71, 363, 364, 365, 366, 139, 140, 141, 142, 367, 368, 369, 370, 371, 372, 373, 374, 375, 376, 377, 378, 379, 380, 381, 382, 383, 384, 385, 386, 387, 388, 389, 390, 391, 392, 393, 394, 395, 396, 397, 398, 399, 400, 401, 402, 403, 404, 405, 406, 407, 408, 409, 410, 411, 412, 413, 414, 415, 416, 417, 418, 419, 420, 421, 422, 423, 424, 425, 426, 427, 428, 429, 430, 431, 432, 433, 434, 435, 436, 437, 589, 590, 591, 592, 645, 646, 647, 648, 649, 650, 651, 652, 653] (by decide +kernel) (by decide +kernel)
set_option maxRecDepth 20000 in
theorem gL_law_X5_forecastDeath : GoodIn wsL_law (wsV RL 104 RX5 yX5_forecastDeath wsX5_forecastDeath) := goodIn_app (goodIn_of _ (by decide +kernel)) ggL_law_X5_forecastDeath
set_option maxRecDepth 20000 in
theorem ggL_law_X4_forecastDelivered : GoodIn wsL_law wsX4_forecastDelivered := goodIn_r _ [596, 20, 15, 21, 550, 80, 81, 2, 82, 580, 93, 94, 14, 95, 96, 34, 36, 43, 44, 45, 46, 37, 38, 39, 97, 98, 99, 100, 101, 102, 103, 104, 41, 105, 106, 107, 108, 109, 110, 111, 112, 113, 114, 214, 215, 216, 18, 217, 54, 218, 210, 211, 212, 213, 219, 220, 221, 222, 223, 224, 225, 226, 227, 228, 229, 230, 231, 232, 233, 234, 235, 236, 237, 238, 120, 121, 122, 123, 124, 239, 240, 241, 242, 243, 244, 245, 246, 247, 248, 249, 250, 251, 252, 253, 254, 255, 256, 257, 258, 259, 260, 261, 262, 263, 264, 265, 266, 267, 268, 269, 270, 271, 272, 273, 274, 275, 276, 277, 278, 279, 280, 281, 282, 283, 284, 285, 286, 287, 288, 289, 290, 291, 292, 293, 294, 295, 296, 297, 298, 299, 300, 301, 302, 303, 304, 305, 306, 307, 308, 309, 310, 311, 312, 313, 314, 315, 316, 317, 318, 319, 320, 321, 322, 323, 324, 325, 326, 327, 328, 329, 330, 331, 332, 333, 334, 335, 336, 337, 338, 185, 186, 187, 339, 340, 341, 342, 638, 639, 640, 641, 642, 643, 644, 654, 655, 656, 657, 658, 659, 660, 661, 662, 663, 664, 668, 669, 670, 671, 672, 673, 674, 675, 676, 677, 678, 665] (by decide +kernel) (by decide +kernel)
set_option maxRecDepth 20000 in
theorem gL_law_X4_forecastDelivered : GoodIn wsL_law (wsV RL 105 RX4 yX4_forecastDelivered wsX4_forecastDelivered) := goodIn_app (goodIn_of _ (by decide +kernel)) ggL_law_X4_forecastDelivered
set_option maxRecDepth 20000 in
theorem ggL_law_X5_forecastDelivered : GoodIn wsL_law wsX5_forecastDelivered := goodIn_r _ [600, 129, 66, 67, 131, 132, 5, 133, 585, 586, 587, 588, 351, 352, 353, 354, 347, 348, 349, 350, 201, 202, 203, 204, 355, 356, 357, 358, 359, 360, 361, 362, 72, 71, 363, 364, 365, 366, 139, 140, 141, 142, 197, 198, 199, 200, 367, 368, 369, 370, 371, 372, 373, 374, 375, 376, 377, 378, 379, 380, 381, 382, 383, 384, 385, 386, 387, 388, 389, 390, 391, 392, 393, 394, 395, 396, 397, 398, 399, 400, 401, 402, 403, 404, 405, 406, 407, 408, 409, 410, 411, 412, 413, 414, 415, 416, 417, 418, 419, 420, 421, 422, 423, 424, 425, 426, 427, 428, 429, 430, 431, 432, 433, 434, 435, 436, 437, 589, 590, 591, 592, 645, 646, 647, 648, 649, 650, 651, 652, 653] (by decide +kernel) (by decide +kernel)
set_option maxRecDepth 20000 in
theorem gL_law_X5_forecastDelivered : GoodIn wsL_law (wsV RL 108 RX5 yX5_forecastDelivered wsX5_forecastDelivered) := goodIn_app (goodIn_of _ (by decide +kernel)) ggL_law_X5_forecastDelivered
set_option maxRecDepth 20000 in
theorem ggL_law_X4_undo : GoodIn wsL_law wsX4_undo := goodIn_r _ [604, 25, 605, 15, 606, 607, 608, 24, 609, 87, 60, 92, 93, 94, 14, 95, 96, 34, 36, 43, 44, 45, 46, 37, 38, 39, 97, 98, 99, 100, 101, 102, 103, 104, 41, 105, 106, 107, 108, 109, 110, 111, 112, 113, 114, 638, 639, 640, 641, 642, 643, 644, 666, 667, 654, 655, 656, 657, 658, 659, 660, 661, 662, 663, 664, 668, 669, 670, 671, 672, 673, 674, 675, 676, 677, 678] (by decide +kernel) (by decide +kernel)
set_option maxRecDepth 20000 in
theorem gL_law_X4_undo : GoodIn wsL_law (wsV RL 109 RX4 yX4_undo wsX4_undo) := goodIn_app (goodIn_of _ (by decide +kernel)) ggL_law_X4_undo
set_option maxRecDepth 20000 in
theorem ggL_law_X5_undo : GoodIn wsL_law wsX5_undo := goodIn_r _ [613, 129, 138, 66, 68, 645, 646, 647, 648, 649, 650, 651, 652, 653] (by decide +kernel) (by decide +kernel)
set_option maxRecDepth 20000 in
theorem gL_law_X5_undo : GoodIn wsL_law (wsV RL 112 RX5 yX5_undo wsX5_undo) := goodIn_app (goodIn_of _ (by decide +kernel)) ggL_law_X5_undo
set_option maxRecDepth 20000 in
theorem ggL_law_X4_undoDepth : GoodIn wsL_law wsX4_undoDepth := goodIn_r _ [617, 25, 605, 638, 639, 640, 641, 642, 643, 644, 666, 667] (by decide +kernel) (by decide +kernel)
set_option maxRecDepth 20000 in
theorem gL_law_X4_undoDepth : GoodIn wsL_law (wsV RL 113 RX4 yX4_undoDepth wsX4_undoDepth) := goodIn_app (goodIn_of _ (by decide +kernel)) ggL_law_X4_undoDepth
set_option maxRecDepth 20000 in
theorem ggL_law_X5_undoDepth : GoodIn wsL_law wsX5_undoDepth := goodIn_r _ [621, 129, 138, 645, 646, 647, 648, 649, 650, 651, 652, 653] (by decide +kernel) (by decide +kernel)
set_option maxRecDepth 20000 in
theorem gL_law_X5_undoDepth : GoodIn wsL_law (wsV RL 116 RX5 yX5_undoDepth wsX5_undoDepth) := goodIn_app (goodIn_of _ (by decide +kernel)) ggL_law_X5_undoDepth
set_option maxRecDepth 20000 in
theorem ggL_law_X4_save : GoodIn wsL_law wsX4_save := goodIn_r _ [625, 26, 15, 28, 78, 80, 81, 2, 82, 580, 93, 94, 14, 95, 96, 34, 36, 43, 44, 45, 46, 37, 38, 39, 97, 98, 99, 100, 101, 102, 103, 104, 41, 105, 106, 107, 108, 109, 110, 111, 112, 113, 114, 638, 639, 640, 641, 642, 643, 644, 654, 655, 656, 657, 658, 659, 660, 661, 662, 663, 664, 668, 669, 670, 671, 672, 673, 674, 675, 676, 677, 678] (by decide +kernel) (by decide +kernel)
set_option maxRecDepth 20000 in
theorem gL_law_X4_save : GoodIn wsL_law (wsV RL 117 RX4 yX4_save wsX4_save) := goodIn_app (goodIn_of _ (by decide +kernel)) ggL_law_X4_save
set_option maxRecDepth 20000 in
theorem ggL_law_X5_save : GoodIn wsL_law wsX5_save := goodIn_r _ [629, 129, 69, 66, 70, 131, 132, 5, 133, 645, 646, 647, 648, 649, 650, 651, 652, 653] (by decide +kernel) (by decide +kernel)
set_option maxRecDepth 20000 in
theorem gL_law_X5_save : GoodIn wsL_law (wsV RL 120 RX5 yX5_save wsX5_save) := goodIn_app (goodIn_of _ (by decide +kernel)) ggL_law_X5_save
set_option maxRecDepth 20000 in
theorem ggL_law_X4_restore : GoodIn wsL_law wsX4_restore := goodIn_r _ [633, 28, 15, 26, 25, 605, 78, 80, 81, 2, 82, 580, 93, 94, 14, 95, 96, 34, 36, 43, 44, 45, 46, 37, 38, 39, 97, 98, 99, 100, 101, 102, 103, 104, 41, 105, 106, 107, 108, 109, 110, 111, 112, 113, 114, 638, 639, 640, 641, 642, 643, 644, 666, 667, 654, 655, 656, 657, 658, 659, 660, 661, 662, 663, 664, 668, 669, 670, 671, 672, 673, 674, 675, 676, 677, 678] (by decide +kernel) (by decide +kernel)
set_option maxRecDepth 20000 in
theorem gL_law_X4_restore : GoodIn wsL_law (wsV RL 121 RX4 yX4_restore wsX4_restore) := goodIn_app (goodIn_of _ (by decide +kernel)) ggL_law_X4_restore
set_option maxRecDepth 20000 in
theorem ggL_law_X5_restore : GoodIn wsL_law wsX5_restore := goodIn_r _ [637, 129, 70, 66, 69, 138, 131, 132, 5, 133, 645, 646, 647, 648, 649, 650, 651, 652, 653] (by decide +kernel) (by decide +kernel)
set_option maxRecDepth 20000 in
theorem gL_law_X5_restore : GoodIn wsL_law (wsV RL 124 RX5 yX5_restore wsX5_restore) := goodIn_app (goodIn_of _ (by decide +kernel)) ggL_law_X5_restore
theorem dL_law_0 : decode cL_law 0 = .ok (.new 7, 3) := by decide +kernel
theorem dL_law_3 : decode cL_law 3 = .ok (.dup, 1) := by decide +kernel
theorem dL_law_4 : decode cL_law 4 = .ok (.invokespecial 9, 3) := by decide +kernel
theorem dL_law_7 : decode cL_law 7 = .ok (.astore_n 1, 1) := by decide +kernel
theorem dL_law_8 : decode cL_law 8 = .ok (.new 10, 3) := by decide +kernel
theorem dL_law_11 : decode cL_law 11 = .ok (.dup, 1) := by decide +kernel
theorem dL_law_12 : decode cL_law 12 = .ok (.invokespecial 12, 3) := by decide +kernel
theorem dL_law_15 : decode cL_law 15 = .ok (.astore_n 2, 1) := by decide +kernel
theorem dL_law_16 : decode cL_law 16 = .ok (.iconst 0, 1) := by decide +kernel
theorem dL_law_17 : decode cL_law 17 = .ok (.istore_n 3, 1) := by decide +kernel
theorem dL_law_18 : decode cL_law 18 = .ok (.iload_n 3, 1) := by decide +kernel
theorem dL_law_19 : decode cL_law 19 = .ok (.aload_n 0, 1) := by decide +kernel
theorem dL_law_20 : decode cL_law 20 = .ok (.arraylength, 1) := by decide +kernel
theorem dL_law_21 : decode cL_law 21 = .ok (.iconst 4, 1) := by decide +kernel
theorem dL_law_22 : decode cL_law 22 = .ok (.isub, 1) := by decide +kernel
theorem dL_law_23 : decode cL_law 23 = .ok (.if_icmp .gt 740, 3) := by decide +kernel
theorem dL_law_26 : decode cL_law 26 = .ok (.aload_n 0, 1) := by decide +kernel
theorem dL_law_27 : decode cL_law 27 = .ok (.iload_n 3, 1) := by decide +kernel
theorem dL_law_28 : decode cL_law 28 = .ok (.iaload, 1) := by decide +kernel
theorem dL_law_29 : decode cL_law 29 = .ok (.bipush 31, 2) := by decide +kernel
theorem dL_law_31 : decode cL_law 31 = .ok (.iand, 1) := by decide +kernel
theorem dL_law_32 : decode cL_law 32 = .ok (.tableswitch 725 0 26 #[124, 167, 200, 233, 256, 289, 312, 325, 338, 351, 374, 397, 420, 443, 466, 489, 512, 525, 538, 551, 564, 597, 630, 653, 666, 679, 702], 124) := by decide +kernel
theorem dL_law_156 : decode cL_law 156 = .ok (.aload_n 1, 1) := by decide +kernel
theorem dL_law_157 : decode cL_law 157 = .ok (.aload_n 0, 1) := by decide +kernel
theorem dL_law_158 : decode cL_law 158 = .ok (.iload_n 3, 1) := by decide +kernel
theorem dL_law_159 : decode cL_law 159 = .ok (.iconst 1, 1) := by decide +kernel
theorem dL_law_160 : decode cL_law 160 = .ok (.iadd, 1) := by decide +kernel
theorem dL_law_161 : decode cL_law 161 = .ok (.iaload, 1) := by decide +kernel
theorem dL_law_162 : decode cL_law 162 = .ok (.aload_n 0, 1) := by decide +kernel
theorem dL_law_163 : decode cL_law 163 = .ok (.iload_n 3, 1) := by decide +kernel
theorem dL_law_164 : decode cL_law 164 = .ok (.iconst 2, 1) := by decide +kernel
theorem dL_law_165 : decode cL_law 165 = .ok (.iadd, 1) := by decide +kernel
theorem dL_law_166 : decode cL_law 166 = .ok (.iaload, 1) := by decide +kernel
theorem dL_law_167 : decode cL_law 167 = .ok (.aload_n 0, 1) := by decide +kernel
theorem dL_law_168 : decode cL_law 168 = .ok (.iload_n 3, 1) := by decide +kernel
theorem dL_law_169 : decode cL_law 169 = .ok (.iconst 3, 1) := by decide +kernel
theorem dL_law_170 : decode cL_law 170 = .ok (.iadd, 1) := by decide +kernel
theorem dL_law_171 : decode cL_law 171 = .ok (.iaload, 1) := by decide +kernel
theorem dL_law_172 : decode cL_law 172 = .ok (.invokevirtual 13, 3) := by decide +kernel
theorem dL_law_175 : decode cL_law 175 = .ok (.aload_n 2, 1) := by decide +kernel
theorem dL_law_176 : decode cL_law 176 = .ok (.aload_n 0, 1) := by decide +kernel
theorem dL_law_177 : decode cL_law 177 = .ok (.iload_n 3, 1) := by decide +kernel
theorem dL_law_178 : decode cL_law 178 = .ok (.iconst 1, 1) := by decide +kernel
theorem dL_law_179 : decode cL_law 179 = .ok (.iadd, 1) := by decide +kernel
theorem dL_law_180 : decode cL_law 180 = .ok (.iaload, 1) := by decide +kernel
theorem dL_law_181 : decode cL_law 181 = .ok (.aload_n 0, 1) := by decide +kernel
theorem dL_law_182 : decode cL_law 182 = .ok (.iload_n 3, 1) := by decide +kernel
theorem dL_law_183 : decode cL_law 183 = .ok (.iconst 2, 1) := by decide +kernel
theorem dL_law_184 : decode cL_law 184 = .ok (.iadd, 1) := by decide +kernel
theorem dL_law_185 : decode cL_law 185 = .ok (.iaload, 1) := by decide +kernel
theorem dL_law_186 : decode cL_law 186 = .ok (.aload_n 0, 1) := by decide +kernel
theorem dL_law_187 : decode cL_law 187 = .ok (.iload_n 3, 1) := by decide +kernel
theorem dL_law_188 : decode cL_law 188 = .ok (.iconst 3, 1) := by decide +kernel
theorem dL_law_189 : decode cL_law 189 = .ok (.iadd, 1) := by decide +kernel
theorem dL_law_190 : decode cL_law 190 = .ok (.iaload, 1) := by decide +kernel
theorem dL_law_191 : decode cL_law 191 = .ok (.invokevirtual 17, 3) := by decide +kernel
theorem dL_law_194 : decode cL_law 194 = .ok (.if_icmp .eq 563, 3) := by decide +kernel
theorem dL_law_197 : decode cL_law 197 = .ok (.iconst 0, 1) := by decide +kernel
theorem dL_law_198 : decode cL_law 198 = .ok (.ireturn, 1) := by decide +kernel
theorem dL_law_199 : decode cL_law 199 = .ok (.aload_n 1, 1) := by decide +kernel
theorem dL_law_200 : decode cL_law 200 = .ok (.aload_n 0, 1) := by decide +kernel
theorem dL_law_201 : decode cL_law 201 = .ok (.iload_n 3, 1) := by decide +kernel
theorem dL_law_202 : decode cL_law 202 = .ok (.iconst 1, 1) := by decide +kernel
theorem dL_law_203 : decode cL_law 203 = .ok (.iadd, 1) := by decide +kernel
theorem dL_law_204 : decode cL_law 204 = .ok (.iaload, 1) := by decide +kernel
theorem dL_law_205 : decode cL_law 205 = .ok (.aload_n 0, 1) := by decide +kernel
theorem dL_law_206 : decode cL_law 206 = .ok (.iload_n 3, 1) := by decide +kernel
theorem dL_law_207 : decode cL_law 207 = .ok (.iconst 2, 1) := by decide +kernel
theorem dL_law_208 : decode cL_law 208 = .ok (.iadd, 1) := by decide +kernel
theorem dL_law_209 : decode cL_law 209 = .ok (.iaload, 1) := by decide +kernel
theorem dL_law_210 : decode cL_law 210 = .ok (.invokevirtual 18, 3) := by decide +kernel
theorem dL_law_213 : decode cL_law 213 = .ok (.aload_n 2, 1) := by decide +kernel
theorem dL_law_214 : decode cL_law 214 = .ok (.aload_n 0, 1) := by decide +kernel
theorem dL_law_215 : decode cL_law 215 = .ok (.iload_n 3, 1) := by decide +kernel
theorem dL_law_216 : decode cL_law 216 = .ok (.iconst 1, 1) := by decide +kernel
theorem dL_law_217 : decode cL_law 217 = .ok (.iadd, 1) := by decide +kernel
theorem dL_law_218 : decode cL_law 218 = .ok (.iaload, 1) := by decide +kernel
theorem dL_law_219 : decode cL_law 219 = .ok (.aload_n 0, 1) := by decide +kernel
theorem dL_law_220 : decode cL_law 220 = .ok (.iload_n 3, 1) := by decide +kernel
theorem dL_law_221 : decode cL_law 221 = .ok (.iconst 2, 1) := by decide +kernel
theorem dL_law_222 : decode cL_law 222 = .ok (.iadd, 1) := by decide +kernel
theorem dL_law_223 : decode cL_law 223 = .ok (.iaload, 1) := by decide +kernel
theorem dL_law_224 : decode cL_law 224 = .ok (.invokevirtual 22, 3) := by decide +kernel
theorem dL_law_227 : decode cL_law 227 = .ok (.if_icmp .eq 530, 3) := by decide +kernel
theorem dL_law_230 : decode cL_law 230 = .ok (.iconst 0, 1) := by decide +kernel
theorem dL_law_231 : decode cL_law 231 = .ok (.ireturn, 1) := by decide +kernel
theorem dL_law_232 : decode cL_law 232 = .ok (.aload_n 1, 1) := by decide +kernel
theorem dL_law_233 : decode cL_law 233 = .ok (.aload_n 0, 1) := by decide +kernel
theorem dL_law_234 : decode cL_law 234 = .ok (.iload_n 3, 1) := by decide +kernel
theorem dL_law_235 : decode cL_law 235 = .ok (.iconst 1, 1) := by decide +kernel
theorem dL_law_236 : decode cL_law 236 = .ok (.iadd, 1) := by decide +kernel
theorem dL_law_237 : decode cL_law 237 = .ok (.iaload, 1) := by decide +kernel
theorem dL_law_238 : decode cL_law 238 = .ok (.aload_n 0, 1) := by decide +kernel
theorem dL_law_239 : decode cL_law 239 = .ok (.iload_n 3, 1) := by decide +kernel
theorem dL_law_240 : decode cL_law 240 = .ok (.iconst 2, 1) := by decide +kernel
theorem dL_law_241 : decode cL_law 241 = .ok (.iadd, 1) := by decide +kernel
theorem dL_law_242 : decode cL_law 242 = .ok (.iaload, 1) := by decide +kernel
theorem dL_law_243 : decode cL_law 243 = .ok (.invokevirtual 23, 3) := by decide +kernel
theorem dL_law_246 : decode cL_law 246 = .ok (.aload_n 2, 1) := by decide +kernel
theorem dL_law_247 : decode cL_law 247 = .ok (.aload_n 0, 1) := by decide +kernel
theorem dL_law_248 : decode cL_law 248 = .ok (.iload_n 3, 1) := by decide +kernel
theorem dL_law_249 : decode cL_law 249 = .ok (.iconst 1, 1) := by decide +kernel
theorem dL_law_250 : decode cL_law 250 = .ok (.iadd, 1) := by decide +kernel
theorem dL_law_251 : decode cL_law 251 = .ok (.iaload, 1) := by decide +kernel
theorem dL_law_252 : decode cL_law 252 = .ok (.aload_n 0, 1) := by decide +kernel
theorem dL_law_253 : decode cL_law 253 = .ok (.iload_n 3, 1) := by decide +kernel
theorem dL_law_254 : decode cL_law 254 = .ok (.iconst 2, 1) := by decide +kernel
theorem dL_law_255 : decode cL_law 255 = .ok (.iadd, 1) := by decide +kernel
theorem dL_law_256 : decode cL_law 256 = .ok (.iaload, 1) := by decide +kernel
theorem dL_law_257 : decode cL_law 257 = .ok (.invokevirtual 26, 3) := by decide +kernel
theorem dL_law_260 : decode cL_law 260 = .ok (.if_icmp .eq 497, 3) := by decide +kernel
theorem dL_law_263 : decode cL_law 263 = .ok (.iconst 0, 1) := by decide +kernel
theorem dL_law_264 : decode cL_law 264 = .ok (.ireturn, 1) := by decide +kernel
theorem dL_law_265 : decode cL_law 265 = .ok (.aload_n 1, 1) := by decide +kernel
theorem dL_law_266 : decode cL_law 266 = .ok (.aload_n 0, 1) := by decide +kernel
theorem dL_law_267 : decode cL_law 267 = .ok (.iload_n 3, 1) := by decide +kernel
theorem dL_law_268 : decode cL_law 268 = .ok (.iconst 1, 1) := by decide +kernel
theorem dL_law_269 : decode cL_law 269 = .ok (.iadd, 1) := by decide +kernel
theorem dL_law_270 : decode cL_law 270 = .ok (.iaload, 1) := by decide +kernel
theorem dL_law_271 : decode cL_law 271 = .ok (.invokevirtual 27, 3) := by decide +kernel
theorem dL_law_274 : decode cL_law 274 = .ok (.aload_n 2, 1) := by decide +kernel
theorem dL_law_275 : decode cL_law 275 = .ok (.aload_n 0, 1) := by decide +kernel
theorem dL_law_276 : decode cL_law 276 = .ok (.iload_n 3, 1) := by decide +kernel
theorem dL_law_277 : decode cL_law 277 = .ok (.iconst 1, 1) := by decide +kernel
theorem dL_law_278 : decode cL_law 278 = .ok (.iadd, 1) := by decide +kernel
theorem dL_law_279 : decode cL_law 279 = .ok (.iaload, 1) := by decide +kernel
theorem dL_law_280 : decode cL_law 280 = .ok (.invokevirtual 31, 3) := by decide +kernel
theorem dL_law_283 : decode cL_law 283 = .ok (.if_icmp .eq 474, 3) := by decide +kernel
theorem dL_law_286 : decode cL_law 286 = .ok (.iconst 0, 1) := by decide +kernel
theorem dL_law_287 : decode cL_law 287 = .ok (.ireturn, 1) := by decide +kernel
theorem dL_law_288 : decode cL_law 288 = .ok (.aload_n 1, 1) := by decide +kernel
theorem dL_law_289 : decode cL_law 289 = .ok (.aload_n 0, 1) := by decide +kernel
theorem dL_law_290 : decode cL_law 290 = .ok (.iload_n 3, 1) := by decide +kernel
theorem dL_law_291 : decode cL_law 291 = .ok (.iconst 1, 1) := by decide +kernel
theorem dL_law_292 : decode cL_law 292 = .ok (.iadd, 1) := by decide +kernel
theorem dL_law_293 : decode cL_law 293 = .ok (.iaload, 1) := by decide +kernel
theorem dL_law_294 : decode cL_law 294 = .ok (.aload_n 0, 1) := by decide +kernel
theorem dL_law_295 : decode cL_law 295 = .ok (.iload_n 3, 1) := by decide +kernel
theorem dL_law_296 : decode cL_law 296 = .ok (.iconst 2, 1) := by decide +kernel
theorem dL_law_297 : decode cL_law 297 = .ok (.iadd, 1) := by decide +kernel
theorem dL_law_298 : decode cL_law 298 = .ok (.iaload, 1) := by decide +kernel
theorem dL_law_299 : decode cL_law 299 = .ok (.invokevirtual 32, 3) := by decide +kernel
theorem dL_law_302 : decode cL_law 302 = .ok (.aload_n 2, 1) := by decide +kernel
theorem dL_law_303 : decode cL_law 303 = .ok (.aload_n 0, 1) := by decide +kernel
theorem dL_law_304 : decode cL_law 304 = .ok (.iload_n 3, 1) := by decide +kernel
theorem dL_law_305 : decode cL_law 305 = .ok (.iconst 1, 1) := by decide +kernel
theorem dL_law_306 : decode cL_law 306 = .ok (.iadd, 1) := by decide +kernel
theorem dL_law_307 : decode cL_law 307 = .ok (.iaload, 1) := by decide +kernel
theorem dL_law_308 : decode cL_law 308 = .ok (.aload_n 0, 1) := by decide +kernel
theorem dL_law_309 : decode cL_law 309 = .ok (.iload_n 3, 1) := by decide +kernel
theorem dL_law_310 : decode cL_law 310 = .ok (.iconst 2, 1) := by decide +kernel
theorem dL_law_311 : decode cL_law 311 = .ok (.iadd, 1) := by decide +kernel
theorem dL_law_312 : decode cL_law 312 = .ok (.iaload, 1) := by decide +kernel
theorem dL_law_313 : decode cL_law 313 = .ok (.invokevirtual 35, 3) := by decide +kernel
theorem dL_law_316 : decode cL_law 316 = .ok (.if_icmp .eq 441, 3) := by decide +kernel
theorem dL_law_319 : decode cL_law 319 = .ok (.iconst 0, 1) := by decide +kernel
theorem dL_law_320 : decode cL_law 320 = .ok (.ireturn, 1) := by decide +kernel
theorem dL_law_321 : decode cL_law 321 = .ok (.aload_n 1, 1) := by decide +kernel
theorem dL_law_322 : decode cL_law 322 = .ok (.aload_n 0, 1) := by decide +kernel
theorem dL_law_323 : decode cL_law 323 = .ok (.iload_n 3, 1) := by decide +kernel
theorem dL_law_324 : decode cL_law 324 = .ok (.iconst 1, 1) := by decide +kernel
theorem dL_law_325 : decode cL_law 325 = .ok (.iadd, 1) := by decide +kernel
theorem dL_law_326 : decode cL_law 326 = .ok (.iaload, 1) := by decide +kernel
theorem dL_law_327 : decode cL_law 327 = .ok (.invokevirtual 36, 3) := by decide +kernel
theorem dL_law_330 : decode cL_law 330 = .ok (.aload_n 2, 1) := by decide +kernel
theorem dL_law_331 : decode cL_law 331 = .ok (.aload_n 0, 1) := by decide +kernel
theorem dL_law_332 : decode cL_law 332 = .ok (.iload_n 3, 1) := by decide +kernel
theorem dL_law_333 : decode cL_law 333 = .ok (.iconst 1, 1) := by decide +kernel
theorem dL_law_334 : decode cL_law 334 = .ok (.iadd, 1) := by decide +kernel
theorem dL_law_335 : decode cL_law 335 = .ok (.iaload, 1) := by decide +kernel
theorem dL_law_336 : decode cL_law 336 = .ok (.invokevirtual 39, 3) := by decide +kernel
theorem dL_law_339 : decode cL_law 339 = .ok (.if_icmp .eq 418, 3) := by decide +kernel
theorem dL_law_342 : decode cL_law 342 = .ok (.iconst 0, 1) := by decide +kernel
theorem dL_law_343 : decode cL_law 343 = .ok (.ireturn, 1) := by decide +kernel
theorem dL_law_344 : decode cL_law 344 = .ok (.aload_n 1, 1) := by decide +kernel
theorem dL_law_345 : decode cL_law 345 = .ok (.invokevirtual 40, 3) := by decide +kernel
theorem dL_law_348 : decode cL_law 348 = .ok (.aload_n 2, 1) := by decide +kernel
theorem dL_law_349 : decode cL_law 349 = .ok (.invokevirtual 44, 3) := by decide +kernel
theorem dL_law_352 : decode cL_law 352 = .ok (.if_icmp .eq 405, 3) := by decide +kernel
theorem dL_law_355 : decode cL_law 355 = .ok (.iconst 0, 1) := by decide +kernel
theorem dL_law_356 : decode cL_law 356 = .ok (.ireturn, 1) := by decide +kernel
theorem dL_law_357 : decode cL_law 357 = .ok (.aload_n 1, 1) := by decide +kernel
theorem dL_law_358 : decode cL_law 358 = .ok (.invokevirtual 45, 3) := by decide +kernel
theorem dL_law_361 : decode cL_law 361 = .ok (.aload_n 2, 1) := by decide +kernel
theorem dL_law_362 : decode cL_law 362 = .ok (.invokevirtual 48, 3) := by decide +kernel
theorem dL_law_365 : decode cL_law 365 = .ok (.if_icmp .eq 392, 3) := by decide +kernel
theorem dL_law_368 : decode cL_law 368 = .ok (.iconst 0, 1) := by decide +kernel
theorem dL_law_369 : decode cL_law 369 = .ok (.ireturn, 1) := by decide +kernel
theorem dL_law_370 : decode cL_law 370 = .ok (.aload_n 1, 1) := by decide +kernel
theorem dL_law_371 : decode cL_law 371 = .ok (.invokevirtual 49, 3) := by decide +kernel
theorem dL_law_374 : decode cL_law 374 = .ok (.aload_n 2, 1) := by decide +kernel
theorem dL_law_375 : decode cL_law 375 = .ok (.invokevirtual 52, 3) := by decide +kernel
theorem dL_law_378 : decode cL_law 378 = .ok (.if_icmp .eq 379, 3) := by decide +kernel
theorem dL_law_381 : decode cL_law 381 = .ok (.iconst 0, 1) := by decide +kernel
theorem dL_law_382 : decode cL_law 382 = .ok (.ireturn, 1) := by decide +kernel
theorem dL_law_383 : decode cL_law 383 = .ok (.aload_n 1, 1) := by decide +kernel
theorem dL_law_384 : decode cL_law 384 = .ok (.aload_n 0, 1) := by decide +kernel
theorem dL_law_385 : decode cL_law 385 = .ok (.iload_n 3, 1) := by decide +kernel
theorem dL_law_386 : decode cL_law 386 = .ok (.iconst 1, 1) := by decide +kernel
theorem dL_law_387 : decode cL_law 387 = .ok (.iadd, 1) := by decide +kernel
theorem dL_law_388 : decode cL_law 388 = .ok (.iaload, 1) := by decide +kernel
theorem dL_law_389 : decode cL_law 389 = .ok (.invokevirtual 53, 3) := by decide +kernel
theorem dL_law_392 : decode cL_law 392 = .ok (.aload_n 2, 1) := by decide +kernel
theorem dL_law_393 : decode cL_law 393 = .ok (.aload_n 0, 1) := by decide +kernel
theorem dL_law_394 : decode cL_law 394 = .ok (.iload_n 3, 1) := by decide +kernel
theorem dL_law_395 : decode cL_law 395 = .ok (.iconst 1, 1) := by decide +kernel
theorem dL_law_396 : decode cL_law 396 = .ok (.iadd, 1) := by decide +kernel
theorem dL_law_397 : decode cL_law 397 = .ok (.iaload, 1) := by decide +kernel
theorem dL_law_398 : decode cL_law 398 = .ok (.invokevirtual 56, 3) := by decide +kernel
theorem dL_law_401 : decode cL_law 401 = .ok (.if_icmp .eq 356, 3) := by decide +kernel
theorem dL_law_404 : decode cL_law 404 = .ok (.iconst 0, 1) := by decide +kernel
theorem dL_law_405 : decode cL_law 405 = .ok (.ireturn, 1) := by decide +kernel
theorem dL_law_406 : decode cL_law 406 = .ok (.aload_n 1, 1) := by decide +kernel
theorem dL_law_407 : decode cL_law 407 = .ok (.aload_n 0, 1) := by decide +kernel
theorem dL_law_408 : decode cL_law 408 = .ok (.iload_n 3, 1) := by decide +kernel
theorem dL_law_409 : decode cL_law 409 = .ok (.iconst 1, 1) := by decide +kernel
theorem dL_law_410 : decode cL_law 410 = .ok (.iadd, 1) := by decide +kernel
theorem dL_law_411 : decode cL_law 411 = .ok (.iaload, 1) := by decide +kernel
theorem dL_law_412 : decode cL_law 412 = .ok (.invokevirtual 57, 3) := by decide +kernel
theorem dL_law_415 : decode cL_law 415 = .ok (.aload_n 2, 1) := by decide +kernel
theorem dL_law_416 : decode cL_law 416 = .ok (.aload_n 0, 1) := by decide +kernel
theorem dL_law_417 : decode cL_law 417 = .ok (.iload_n 3, 1) := by decide +kernel
theorem dL_law_418 : decode cL_law 418 = .ok (.iconst 1, 1) := by decide +kernel
theorem dL_law_419 : decode cL_law 419 = .ok (.iadd, 1) := by decide +kernel
theorem dL_law_420 : decode cL_law 420 = .ok (.iaload, 1) := by decide +kernel
theorem dL_law_421 : decode cL_law 421 = .ok (.invokevirtual 60, 3) := by decide +kernel
theorem dL_law_424 : decode cL_law 424 = .ok (.if_icmp .eq 333, 3) := by decide +kernel
theorem dL_law_427 : decode cL_law 427 = .ok (.iconst 0, 1) := by decide +kernel
theorem dL_law_428 : decode cL_law 428 = .ok (.ireturn, 1) := by decide +kernel
theorem dL_law_429 : decode cL_law 429 = .ok (.aload_n 1, 1) := by decide +kernel
theorem dL_law_430 : decode cL_law 430 = .ok (.aload_n 0, 1) := by decide +kernel
theorem dL_law_431 : decode cL_law 431 = .ok (.iload_n 3, 1) := by decide +kernel
theorem dL_law_432 : decode cL_law 432 = .ok (.iconst 1, 1) := by decide +kernel
theorem dL_law_433 : decode cL_law 433 = .ok (.iadd, 1) := by decide +kernel
theorem dL_law_434 : decode cL_law 434 = .ok (.iaload, 1) := by decide +kernel
theorem dL_law_435 : decode cL_law 435 = .ok (.invokevirtual 61, 3) := by decide +kernel
theorem dL_law_438 : decode cL_law 438 = .ok (.aload_n 2, 1) := by decide +kernel
theorem dL_law_439 : decode cL_law 439 = .ok (.aload_n 0, 1) := by decide +kernel
theorem dL_law_440 : decode cL_law 440 = .ok (.iload_n 3, 1) := by decide +kernel
theorem dL_law_441 : decode cL_law 441 = .ok (.iconst 1, 1) := by decide +kernel
theorem dL_law_442 : decode cL_law 442 = .ok (.iadd, 1) := by decide +kernel
theorem dL_law_443 : decode cL_law 443 = .ok (.iaload, 1) := by decide +kernel
theorem dL_law_444 : decode cL_law 444 = .ok (.invokevirtual 64, 3) := by decide +kernel
theorem dL_law_447 : decode cL_law 447 = .ok (.if_icmp .eq 310, 3) := by decide +kernel
theorem dL_law_450 : decode cL_law 450 = .ok (.iconst 0, 1) := by decide +kernel
theorem dL_law_451 : decode cL_law 451 = .ok (.ireturn, 1) := by decide +kernel
theorem dL_law_452 : decode cL_law 452 = .ok (.aload_n 1, 1) := by decide +kernel
theorem dL_law_453 : decode cL_law 453 = .ok (.aload_n 0, 1) := by decide +kernel
theorem dL_law_454 : decode cL_law 454 = .ok (.iload_n 3, 1) := by decide +kernel
theorem dL_law_455 : decode cL_law 455 = .ok (.iconst 1, 1) := by decide +kernel
theorem dL_law_456 : decode cL_law 456 = .ok (.iadd, 1) := by decide +kernel
theorem dL_law_457 : decode cL_law 457 = .ok (.iaload, 1) := by decide +kernel
theorem dL_law_458 : decode cL_law 458 = .ok (.invokevirtual 65, 3) := by decide +kernel
theorem dL_law_461 : decode cL_law 461 = .ok (.aload_n 2, 1) := by decide +kernel
theorem dL_law_462 : decode cL_law 462 = .ok (.aload_n 0, 1) := by decide +kernel
theorem dL_law_463 : decode cL_law 463 = .ok (.iload_n 3, 1) := by decide +kernel
theorem dL_law_464 : decode cL_law 464 = .ok (.iconst 1, 1) := by decide +kernel
theorem dL_law_465 : decode cL_law 465 = .ok (.iadd, 1) := by decide +kernel
theorem dL_law_466 : decode cL_law 466 = .ok (.iaload, 1) := by decide +kernel
theorem dL_law_467 : decode cL_law 467 = .ok (.invokevirtual 68, 3) := by decide +kernel
theorem dL_law_470 : decode cL_law 470 = .ok (.if_icmp .eq 287, 3) := by decide +kernel
theorem dL_law_473 : decode cL_law 473 = .ok (.iconst 0, 1) := by decide +kernel
theorem dL_law_474 : decode cL_law 474 = .ok (.ireturn, 1) := by decide +kernel
theorem dL_law_475 : decode cL_law 475 = .ok (.aload_n 1, 1) := by decide +kernel
theorem dL_law_476 : decode cL_law 476 = .ok (.aload_n 0, 1) := by decide +kernel
theorem dL_law_477 : decode cL_law 477 = .ok (.iload_n 3, 1) := by decide +kernel
theorem dL_law_478 : decode cL_law 478 = .ok (.iconst 1, 1) := by decide +kernel
theorem dL_law_479 : decode cL_law 479 = .ok (.iadd, 1) := by decide +kernel
theorem dL_law_480 : decode cL_law 480 = .ok (.iaload, 1) := by decide +kernel
theorem dL_law_481 : decode cL_law 481 = .ok (.invokevirtual 69, 3) := by decide +kernel
theorem dL_law_484 : decode cL_law 484 = .ok (.aload_n 2, 1) := by decide +kernel
theorem dL_law_485 : decode cL_law 485 = .ok (.aload_n 0, 1) := by decide +kernel
theorem dL_law_486 : decode cL_law 486 = .ok (.iload_n 3, 1) := by decide +kernel
theorem dL_law_487 : decode cL_law 487 = .ok (.iconst 1, 1) := by decide +kernel
theorem dL_law_488 : decode cL_law 488 = .ok (.iadd, 1) := by decide +kernel
theorem dL_law_489 : decode cL_law 489 = .ok (.iaload, 1) := by decide +kernel
theorem dL_law_490 : decode cL_law 490 = .ok (.invokevirtual 72, 3) := by decide +kernel
theorem dL_law_493 : decode cL_law 493 = .ok (.if_icmp .eq 264, 3) := by decide +kernel
theorem dL_law_496 : decode cL_law 496 = .ok (.iconst 0, 1) := by decide +kernel
theorem dL_law_497 : decode cL_law 497 = .ok (.ireturn, 1) := by decide +kernel
theorem dL_law_498 : decode cL_law 498 = .ok (.aload_n 1, 1) := by decide +kernel
theorem dL_law_499 : decode cL_law 499 = .ok (.aload_n 0, 1) := by decide +kernel
theorem dL_law_500 : decode cL_law 500 = .ok (.iload_n 3, 1) := by decide +kernel
theorem dL_law_501 : decode cL_law 501 = .ok (.iconst 1, 1) := by decide +kernel
theorem dL_law_502 : decode cL_law 502 = .ok (.iadd, 1) := by decide +kernel
theorem dL_law_503 : decode cL_law 503 = .ok (.iaload, 1) := by decide +kernel
theorem dL_law_504 : decode cL_law 504 = .ok (.invokevirtual 73, 3) := by decide +kernel
theorem dL_law_507 : decode cL_law 507 = .ok (.aload_n 2, 1) := by decide +kernel
theorem dL_law_508 : decode cL_law 508 = .ok (.aload_n 0, 1) := by decide +kernel
theorem dL_law_509 : decode cL_law 509 = .ok (.iload_n 3, 1) := by decide +kernel
theorem dL_law_510 : decode cL_law 510 = .ok (.iconst 1, 1) := by decide +kernel
theorem dL_law_511 : decode cL_law 511 = .ok (.iadd, 1) := by decide +kernel
theorem dL_law_512 : decode cL_law 512 = .ok (.iaload, 1) := by decide +kernel
theorem dL_law_513 : decode cL_law 513 = .ok (.invokevirtual 76, 3) := by decide +kernel
theorem dL_law_516 : decode cL_law 516 = .ok (.if_icmp .eq 241, 3) := by decide +kernel
theorem dL_law_519 : decode cL_law 519 = .ok (.iconst 0, 1) := by decide +kernel
theorem dL_law_520 : decode cL_law 520 = .ok (.ireturn, 1) := by decide +kernel
theorem dL_law_521 : decode cL_law 521 = .ok (.aload_n 1, 1) := by decide +kernel
theorem dL_law_522 : decode cL_law 522 = .ok (.aload_n 0, 1) := by decide +kernel
theorem dL_law_523 : decode cL_law 523 = .ok (.iload_n 3, 1) := by decide +kernel
theorem dL_law_524 : decode cL_law 524 = .ok (.iconst 1, 1) := by decide +kernel
theorem dL_law_525 : decode cL_law 525 = .ok (.iadd, 1) := by decide +kernel
theorem dL_law_526 : decode cL_law 526 = .ok (.iaload, 1) := by decide +kernel
theorem dL_law_527 : decode cL_law 527 = .ok (.invokevirtual 77, 3) := by decide +kernel
theorem dL_law_530 : decode cL_law 530 = .ok (.aload_n 2, 1) := by decide +kernel
theorem dL_law_531 : decode cL_law 531 = .ok (.aload_n 0, 1) := by decide +kernel
theorem dL_law_532 : decode cL_law 532 = .ok (.iload_n 3, 1) := by decide +kernel
theorem dL_law_533 : decode cL_law 533 = .ok (.iconst 1, 1) := by decide +kernel
theorem dL_law_534 : decode cL_law 534 = .ok (.iadd, 1) := by decide +kernel
theorem dL_law_535 : decode cL_law 535 = .ok (.iaload, 1) := by decide +kernel
theorem dL_law_536 : decode cL_law 536 = .ok (.invokevirtual 80, 3) := by decide +kernel
theorem dL_law_539 : decode cL_law 539 = .ok (.if_icmp .eq 218, 3) := by decide +kernel
theorem dL_law_542 : decode cL_law 542 = .ok (.iconst 0, 1) := by decide +kernel
theorem dL_law_543 : decode cL_law 543 = .ok (.ireturn, 1) := by decide +kernel
theorem dL_law_544 : decode cL_law 544 = .ok (.aload_n 1, 1) := by decide +kernel
theorem dL_law_545 : decode cL_law 545 = .ok (.invokevirtual 81, 3) := by decide +kernel
theorem dL_law_548 : decode cL_law 548 = .ok (.aload_n 2, 1) := by decide +kernel
theorem dL_law_549 : decode cL_law 549 = .ok (.invokevirtual 84, 3) := by decide +kernel
theorem dL_law_552 : decode cL_law 552 = .ok (.if_icmp .eq 205, 3) := by decide +kernel
theorem dL_law_555 : decode cL_law 555 = .ok (.iconst 0, 1) := by decide +kernel
theorem dL_law_556 : decode cL_law 556 = .ok (.ireturn, 1) := by decide +kernel
theorem dL_law_557 : decode cL_law 557 = .ok (.aload_n 1, 1) := by decide +kernel
theorem dL_law_558 : decode cL_law 558 = .ok (.invokevirtual 85, 3) := by decide +kernel
theorem dL_law_561 : decode cL_law 561 = .ok (.aload_n 2, 1) := by decide +kernel
theorem dL_law_562 : decode cL_law 562 = .ok (.invokevirtual 88, 3) := by decide +kernel
theorem dL_law_565 : decode cL_law 565 = .ok (.if_icmp .eq 192, 3) := by decide +kernel
theorem dL_law_568 : decode cL_law 568 = .ok (.iconst 0, 1) := by decide +kernel
theorem dL_law_569 : decode cL_law 569 = .ok (.ireturn, 1) := by decide +kernel
theorem dL_law_570 : decode cL_law 570 = .ok (.aload_n 1, 1) := by decide +kernel
theorem dL_law_571 : decode cL_law 571 = .ok (.invokevirtual 89, 3) := by decide +kernel
theorem dL_law_574 : decode cL_law 574 = .ok (.aload_n 2, 1) := by decide +kernel
theorem dL_law_575 : decode cL_law 575 = .ok (.invokevirtual 92, 3) := by decide +kernel
theorem dL_law_578 : decode cL_law 578 = .ok (.if_icmp .eq 179, 3) := by decide +kernel
theorem dL_law_581 : decode cL_law 581 = .ok (.iconst 0, 1) := by decide +kernel
theorem dL_law_582 : decode cL_law 582 = .ok (.ireturn, 1) := by decide +kernel
theorem dL_law_583 : decode cL_law 583 = .ok (.aload_n 1, 1) := by decide +kernel
theorem dL_law_584 : decode cL_law 584 = .ok (.invokevirtual 93, 3) := by decide +kernel
theorem dL_law_587 : decode cL_law 587 = .ok (.aload_n 2, 1) := by decide +kernel
theorem dL_law_588 : decode cL_law 588 = .ok (.invokevirtual 96, 3) := by decide +kernel
theorem dL_law_591 : decode cL_law 591 = .ok (.if_icmp .eq 166, 3) := by decide +kernel
theorem dL_law_594 : decode cL_law 594 = .ok (.iconst 0, 1) := by decide +kernel
theorem dL_law_595 : decode cL_law 595 = .ok (.ireturn, 1) := by decide +kernel
theorem dL_law_596 : decode cL_law 596 = .ok (.aload_n 1, 1) := by decide +kernel
theorem dL_law_597 : decode cL_law 597 = .ok (.aload_n 0, 1) := by decide +kernel
theorem dL_law_598 : decode cL_law 598 = .ok (.iload_n 3, 1) := by decide +kernel
theorem dL_law_599 : decode cL_law 599 = .ok (.iconst 1, 1) := by decide +kernel
theorem dL_law_600 : decode cL_law 600 = .ok (.iadd, 1) := by decide +kernel
theorem dL_law_601 : decode cL_law 601 = .ok (.iaload, 1) := by decide +kernel
theorem dL_law_602 : decode cL_law 602 = .ok (.aload_n 0, 1) := by decide +kernel
theorem dL_law_603 : decode cL_law 603 = .ok (.iload_n 3, 1) := by decide +kernel
theorem dL_law_604 : decode cL_law 604 = .ok (.iconst 2, 1) := by decide +kernel
theorem dL_law_605 : decode cL_law 605 = .ok (.iadd, 1) := by decide +kernel
theorem dL_law_606 : decode cL_law 606 = .ok (.iaload, 1) := by decide +kernel
theorem dL_law_607 : decode cL_law 607 = .ok (.invokevirtual 97, 3) := by decide +kernel
theorem dL_law_610 : decode cL_law 610 = .ok (.aload_n 2, 1) := by decide +kernel
theorem dL_law_611 : decode cL_law 611 = .ok (.aload_n 0, 1) := by decide +kernel
theorem dL_law_612 : decode cL_law 612 = .ok (.iload_n 3, 1) := by decide +kernel
theorem dL_law_613 : decode cL_law 613 = .ok (.iconst 1, 1) := by decide +kernel
theorem dL_law_614 : decode cL_law 614 = .ok (.iadd, 1) := by decide +kernel
theorem dL_law_615 : decode cL_law 615 = .ok (.iaload, 1) := by decide +kernel
theorem dL_law_616 : decode cL_law 616 = .ok (.aload_n 0, 1) := by decide +kernel
theorem dL_law_617 : decode cL_law 617 = .ok (.iload_n 3, 1) := by decide +kernel
theorem dL_law_618 : decode cL_law 618 = .ok (.iconst 2, 1) := by decide +kernel
theorem dL_law_619 : decode cL_law 619 = .ok (.iadd, 1) := by decide +kernel
theorem dL_law_620 : decode cL_law 620 = .ok (.iaload, 1) := by decide +kernel
theorem dL_law_621 : decode cL_law 621 = .ok (.invokevirtual 100, 3) := by decide +kernel
theorem dL_law_624 : decode cL_law 624 = .ok (.if_icmp .eq 133, 3) := by decide +kernel
theorem dL_law_627 : decode cL_law 627 = .ok (.iconst 0, 1) := by decide +kernel
theorem dL_law_628 : decode cL_law 628 = .ok (.ireturn, 1) := by decide +kernel
theorem dL_law_629 : decode cL_law 629 = .ok (.aload_n 1, 1) := by decide +kernel
theorem dL_law_630 : decode cL_law 630 = .ok (.aload_n 0, 1) := by decide +kernel
theorem dL_law_631 : decode cL_law 631 = .ok (.iload_n 3, 1) := by decide +kernel
theorem dL_law_632 : decode cL_law 632 = .ok (.iconst 1, 1) := by decide +kernel
theorem dL_law_633 : decode cL_law 633 = .ok (.iadd, 1) := by decide +kernel
theorem dL_law_634 : decode cL_law 634 = .ok (.iaload, 1) := by decide +kernel
theorem dL_law_635 : decode cL_law 635 = .ok (.aload_n 0, 1) := by decide +kernel
theorem dL_law_636 : decode cL_law 636 = .ok (.iload_n 3, 1) := by decide +kernel
theorem dL_law_637 : decode cL_law 637 = .ok (.iconst 2, 1) := by decide +kernel
theorem dL_law_638 : decode cL_law 638 = .ok (.iadd, 1) := by decide +kernel
theorem dL_law_639 : decode cL_law 639 = .ok (.iaload, 1) := by decide +kernel
theorem dL_law_640 : decode cL_law 640 = .ok (.invokevirtual 101, 3) := by decide +kernel
theorem dL_law_643 : decode cL_law 643 = .ok (.aload_n 2, 1) := by decide +kernel
theorem dL_law_644 : decode cL_law 644 = .ok (.aload_n 0, 1) := by decide +kernel
theorem dL_law_645 : decode cL_law 645 = .ok (.iload_n 3, 1) := by decide +kernel
theorem dL_law_646 : decode cL_law 646 = .ok (.iconst 1, 1) := by decide +kernel
theorem dL_law_647 : decode cL_law 647 = .ok (.iadd, 1) := by decide +kernel
theorem dL_law_648 : decode cL_law 648 = .ok (.iaload, 1) := by decide +kernel
theorem dL_law_649 : decode cL_law 649 = .ok (.aload_n 0, 1) := by decide +kernel
theorem dL_law_650 : decode cL_law 650 = .ok (.iload_n 3, 1) := by decide +kernel
theorem dL_law_651 : decode cL_law 651 = .ok (.iconst 2, 1) := by decide +kernel
theorem dL_law_652 : decode cL_law 652 = .ok (.iadd, 1) := by decide +kernel
theorem dL_law_653 : decode cL_law 653 = .ok (.iaload, 1) := by decide +kernel
theorem dL_law_654 : decode cL_law 654 = .ok (.invokevirtual 104, 3) := by decide +kernel
theorem dL_law_657 : decode cL_law 657 = .ok (.if_icmp .eq 100, 3) := by decide +kernel
theorem dL_law_660 : decode cL_law 660 = .ok (.iconst 0, 1) := by decide +kernel
theorem dL_law_661 : decode cL_law 661 = .ok (.ireturn, 1) := by decide +kernel
theorem dL_law_662 : decode cL_law 662 = .ok (.aload_n 1, 1) := by decide +kernel
theorem dL_law_663 : decode cL_law 663 = .ok (.aload_n 0, 1) := by decide +kernel
theorem dL_law_664 : decode cL_law 664 = .ok (.iload_n 3, 1) := by decide +kernel
theorem dL_law_665 : decode cL_law 665 = .ok (.iconst 1, 1) := by decide +kernel
theorem dL_law_666 : decode cL_law 666 = .ok (.iadd, 1) := by decide +kernel
theorem dL_law_667 : decode cL_law 667 = .ok (.iaload, 1) := by decide +kernel
theorem dL_law_668 : decode cL_law 668 = .ok (.invokevirtual 105, 3) := by decide +kernel
theorem dL_law_671 : decode cL_law 671 = .ok (.aload_n 2, 1) := by decide +kernel
theorem dL_law_672 : decode cL_law 672 = .ok (.aload_n 0, 1) := by decide +kernel
theorem dL_law_673 : decode cL_law 673 = .ok (.iload_n 3, 1) := by decide +kernel
theorem dL_law_674 : decode cL_law 674 = .ok (.iconst 1, 1) := by decide +kernel
theorem dL_law_675 : decode cL_law 675 = .ok (.iadd, 1) := by decide +kernel
theorem dL_law_676 : decode cL_law 676 = .ok (.iaload, 1) := by decide +kernel
theorem dL_law_677 : decode cL_law 677 = .ok (.invokevirtual 108, 3) := by decide +kernel
theorem dL_law_680 : decode cL_law 680 = .ok (.if_icmp .eq 77, 3) := by decide +kernel
theorem dL_law_683 : decode cL_law 683 = .ok (.iconst 0, 1) := by decide +kernel
theorem dL_law_684 : decode cL_law 684 = .ok (.ireturn, 1) := by decide +kernel
theorem dL_law_685 : decode cL_law 685 = .ok (.aload_n 1, 1) := by decide +kernel
theorem dL_law_686 : decode cL_law 686 = .ok (.invokevirtual 109, 3) := by decide +kernel
theorem dL_law_689 : decode cL_law 689 = .ok (.aload_n 2, 1) := by decide +kernel
theorem dL_law_690 : decode cL_law 690 = .ok (.invokevirtual 112, 3) := by decide +kernel
theorem dL_law_693 : decode cL_law 693 = .ok (.if_icmp .eq 64, 3) := by decide +kernel
theorem dL_law_696 : decode cL_law 696 = .ok (.iconst 0, 1) := by decide +kernel
theorem dL_law_697 : decode cL_law 697 = .ok (.ireturn, 1) := by decide +kernel
theorem dL_law_698 : decode cL_law 698 = .ok (.aload_n 1, 1) := by decide +kernel
theorem dL_law_699 : decode cL_law 699 = .ok (.invokevirtual 113, 3) := by decide +kernel
theorem dL_law_702 : decode cL_law 702 = .ok (.aload_n 2, 1) := by decide +kernel
theorem dL_law_703 : decode cL_law 703 = .ok (.invokevirtual 116, 3) := by decide +kernel
theorem dL_law_706 : decode cL_law 706 = .ok (.if_icmp .eq 51, 3) := by decide +kernel
theorem dL_law_709 : decode cL_law 709 = .ok (.iconst 0, 1) := by decide +kernel
theorem dL_law_710 : decode cL_law 710 = .ok (.ireturn, 1) := by decide +kernel
theorem dL_law_711 : decode cL_law 711 = .ok (.aload_n 1, 1) := by decide +kernel
theorem dL_law_712 : decode cL_law 712 = .ok (.aload_n 0, 1) := by decide +kernel
theorem dL_law_713 : decode cL_law 713 = .ok (.iload_n 3, 1) := by decide +kernel
theorem dL_law_714 : decode cL_law 714 = .ok (.iconst 1, 1) := by decide +kernel
theorem dL_law_715 : decode cL_law 715 = .ok (.iadd, 1) := by decide +kernel
theorem dL_law_716 : decode cL_law 716 = .ok (.iaload, 1) := by decide +kernel
theorem dL_law_717 : decode cL_law 717 = .ok (.invokevirtual 117, 3) := by decide +kernel
theorem dL_law_720 : decode cL_law 720 = .ok (.aload_n 2, 1) := by decide +kernel
theorem dL_law_721 : decode cL_law 721 = .ok (.aload_n 0, 1) := by decide +kernel
theorem dL_law_722 : decode cL_law 722 = .ok (.iload_n 3, 1) := by decide +kernel
theorem dL_law_723 : decode cL_law 723 = .ok (.iconst 1, 1) := by decide +kernel
theorem dL_law_724 : decode cL_law 724 = .ok (.iadd, 1) := by decide +kernel
theorem dL_law_725 : decode cL_law 725 = .ok (.iaload, 1) := by decide +kernel
theorem dL_law_726 : decode cL_law 726 = .ok (.invokevirtual 120, 3) := by decide +kernel
theorem dL_law_729 : decode cL_law 729 = .ok (.if_icmp .eq 28, 3) := by decide +kernel
theorem dL_law_732 : decode cL_law 732 = .ok (.iconst 0, 1) := by decide +kernel
theorem dL_law_733 : decode cL_law 733 = .ok (.ireturn, 1) := by decide +kernel
theorem dL_law_734 : decode cL_law 734 = .ok (.aload_n 1, 1) := by decide +kernel
theorem dL_law_735 : decode cL_law 735 = .ok (.aload_n 0, 1) := by decide +kernel
theorem dL_law_736 : decode cL_law 736 = .ok (.iload_n 3, 1) := by decide +kernel
theorem dL_law_737 : decode cL_law 737 = .ok (.iconst 1, 1) := by decide +kernel
theorem dL_law_738 : decode cL_law 738 = .ok (.iadd, 1) := by decide +kernel
theorem dL_law_739 : decode cL_law 739 = .ok (.iaload, 1) := by decide +kernel
theorem dL_law_740 : decode cL_law 740 = .ok (.invokevirtual 121, 3) := by decide +kernel
theorem dL_law_743 : decode cL_law 743 = .ok (.aload_n 2, 1) := by decide +kernel
theorem dL_law_744 : decode cL_law 744 = .ok (.aload_n 0, 1) := by decide +kernel
theorem dL_law_745 : decode cL_law 745 = .ok (.iload_n 3, 1) := by decide +kernel
theorem dL_law_746 : decode cL_law 746 = .ok (.iconst 1, 1) := by decide +kernel
theorem dL_law_747 : decode cL_law 747 = .ok (.iadd, 1) := by decide +kernel
theorem dL_law_748 : decode cL_law 748 = .ok (.iaload, 1) := by decide +kernel
theorem dL_law_749 : decode cL_law 749 = .ok (.invokevirtual 124, 3) := by decide +kernel
theorem dL_law_752 : decode cL_law 752 = .ok (.if_icmp .eq 5, 3) := by decide +kernel
theorem dL_law_755 : decode cL_law 755 = .ok (.iconst 0, 1) := by decide +kernel
theorem dL_law_756 : decode cL_law 756 = .ok (.ireturn, 1) := by decide +kernel
theorem dL_law_757 : decode cL_law 757 = .ok (.iinc 3 4, 3) := by decide +kernel
theorem dL_law_760 : decode cL_law 760 = .ok (.goto (-742), 3) := by decide +kernel
theorem dL_law_763 : decode cL_law 763 = .ok (.iconst 1, 1) := by decide +kernel
theorem dL_law_764 : decode cL_law 764 = .ok (.ireturn, 1) := by decide +kernel
abbrev vwCl : List vw_C := [(RX0, TX0, 2), (RX1, TX1, 11), (RX2, TX2, 1), (RX3, TX3, 11), (RX4, TX4, 7), (RX5, TX5, 9)]
/-! ===== END printed: names ===== -/
end
