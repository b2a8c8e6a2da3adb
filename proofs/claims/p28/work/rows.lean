section
-- ===== PART A: goes FIRST, ahead of the names: the tables' words, and 'selects' of the private methods out of them =====
/-- a private method of a class that the tables say can be made, by its rows of tables_1 -/
def lw_okq (q : MethodName × Nat) : Prop := (q.1.cls ≠ "java/lang/invoke/MethodHandle" ∧ q.1.cls ≠ "java/lang/invoke/VarHandle") ∧ Cond.instantiable q.1.cls q.2 ∈ tables_1 ∧ Cond.privateMethod q.1 ∈ tables_1 ∧ Cond.instanceMethod q.1 ∈ tables_1
theorem lw_p0 : lw_okq (⟨"BusSilences$Bus", "loseChargeAbove", "(I)V"⟩, 8) := ⟨⟨by decide +kernel, by decide +kernel⟩, List.mem_of_getElem? (i := 21) (by decide +kernel), List.mem_of_getElem? (i := 295) (by decide +kernel), List.mem_of_getElem? (i := 296) (by decide +kernel)⟩
theorem lw_p1 : lw_okq (⟨"BusSilences$Bus", "giveUp", "(LBusSilences$Station;)V"⟩, 8) := ⟨⟨by decide +kernel, by decide +kernel⟩, List.mem_of_getElem? (i := 21) (by decide +kernel), List.mem_of_getElem? (i := 384) (by decide +kernel), List.mem_of_getElem? (i := 385) (by decide +kernel)⟩
theorem lw_p2 : lw_okq (⟨"BusSilences$Bus", "beginWords", "(I)V"⟩, 8) := ⟨⟨by decide +kernel, by decide +kernel⟩, List.mem_of_getElem? (i := 21) (by decide +kernel), List.mem_of_getElem? (i := 417) (by decide +kernel), List.mem_of_getElem? (i := 418) (by decide +kernel)⟩
theorem lw_p3 : lw_okq (⟨"BusSilences$Bus", "pulledWires", "()I"⟩, 8) := ⟨⟨by decide +kernel, by decide +kernel⟩, List.mem_of_getElem? (i := 21) (by decide +kernel), List.mem_of_getElem? (i := 434) (by decide +kernel), List.mem_of_getElem? (i := 435) (by decide +kernel)⟩
theorem lw_p4 : lw_okq (⟨"BusSilences$Bus", "goOnSpeaking", "(II)I"⟩, 8) := ⟨⟨by decide +kernel, by decide +kernel⟩, List.mem_of_getElem? (i := 21) (by decide +kernel), List.mem_of_getElem? (i := 442) (by decide +kernel), List.mem_of_getElem? (i := 443) (by decide +kernel)⟩
theorem lw_p5 : lw_okq (⟨"BusSilences$Bus", "beHeard", "(LBusSilences$Station;)V"⟩, 8) := ⟨⟨by decide +kernel, by decide +kernel⟩, List.mem_of_getElem? (i := 21) (by decide +kernel), List.mem_of_getElem? (i := 446) (by decide +kernel), List.mem_of_getElem? (i := 447) (by decide +kernel)⟩
theorem lw_p6 : lw_okq (⟨"BusSilences$Bus", "changeCharges", "(I)V"⟩, 8) := ⟨⟨by decide +kernel, by decide +kernel⟩, List.mem_of_getElem? (i := 21) (by decide +kernel), List.mem_of_getElem? (i := 456) (by decide +kernel), List.mem_of_getElem? (i := 457) (by decide +kernel)⟩
theorem lw_p7 : lw_okq (⟨"BusSilences$Bus", "restWires", "(I)V"⟩, 8) := ⟨⟨by decide +kernel, by decide +kernel⟩, List.mem_of_getElem? (i := 21) (by decide +kernel), List.mem_of_getElem? (i := 469) (by decide +kernel), List.mem_of_getElem? (i := 470) (by decide +kernel)⟩
theorem lw_p8 : lw_okq (⟨"BusSilences", "heardWithRest", "(II)I"⟩, 6) := ⟨⟨by decide +kernel, by decide +kernel⟩, List.mem_of_getElem? (i := 13) (by decide +kernel), List.mem_of_getElem? (i := 607) (by decide +kernel), List.mem_of_getElem? (i := 608) (by decide +kernel)⟩
def lw_privs_1 : List (MethodName × Nat) := [(⟨"BusSilences$Bus", "loseChargeAbove", "(I)V"⟩, 8), (⟨"BusSilences$Bus", "giveUp", "(LBusSilences$Station;)V"⟩, 8), (⟨"BusSilences$Bus", "beginWords", "(I)V"⟩, 8), (⟨"BusSilences$Bus", "pulledWires", "()I"⟩, 8), (⟨"BusSilences$Bus", "goOnSpeaking", "(II)I"⟩, 8), (⟨"BusSilences$Bus", "beHeard", "(LBusSilences$Station;)V"⟩, 8), (⟨"BusSilences$Bus", "changeCharges", "(I)V"⟩, 8), (⟨"BusSilences$Bus", "restWires", "(I)V"⟩, 8), (⟨"BusSilences", "heardWithRest", "(II)I"⟩, 6)]
theorem lw_r1 : ∀ q ∈ lw_privs_1, lw_okq q := List.forall_mem_cons.mpr ⟨lw_p0, List.forall_mem_cons.mpr ⟨lw_p1, List.forall_mem_cons.mpr ⟨lw_p2, List.forall_mem_cons.mpr ⟨lw_p3, List.forall_mem_cons.mpr ⟨lw_p4, List.forall_mem_cons.mpr ⟨lw_p5, List.forall_mem_cons.mpr ⟨lw_p6, List.forall_mem_cons.mpr ⟨lw_p7, List.forall_mem_cons.mpr ⟨lw_p8, fun _ h => absurd h List.not_mem_nil⟩⟩⟩⟩⟩⟩⟩⟩⟩
def lw_privs : List (MethodName × Nat) := lw_privs_1
def lw_tbl : List Cond := k2_sels lw_privs ++ tables_1
theorem lw_privs_ok : ∀ q ∈ lw_privs, lw_okq q := lw_r1
end
section
def RX0 : String := "BusSilences$Bus"
def TX0 : u_T := fun k => match k with
  | 0 => ("BusSilences$Bus", "settings", "[I", true)
  | 1 => ("BusSilences$Bus", "highFor", "[I", true)
  | 2 => ("BusSilences$Bus", "heardOn", "[I", true)
  | 3 => ("BusSilences$Bus", "lostOn", "[I", true)
  | 4 => ("BusSilences$Bus", "stations", "[LBusSilences$Station;", true)
  | 5 => ("BusSilences$Bus", "arrived", "I", false)
  | 6 => ("BusSilences$Bus", "faults", "I", false)
  | _ => ("BusSilences$Bus", "beats", "I", false)
def tyX0 : Nat → FieldType := fun k => match k with
  | 0 => .array .int
  | 1 => .array .int
  | 2 => .array .int
  | 3 => .array .int
  | 4 => .array (.object "BusSilences$Station")
  | 5 => .int
  | 6 => .int
  | _ => .int
theorem nmX0 : ∀ a, a < 8 → ∀ b, b < 8 → a ≠ b → (TX0 a).2.1 ≠ (TX0 b).2.1 := by decide +kernel
theorem tyX0_ok : ∀ k, k < 8 → parseFieldDescriptor (TX0 k).2.2.1 = some (tyX0 k) := by decide +kernel
abbrev cX0_init : ByteArray := prog_2_method_1_code
def yX0_init : MethodName := ⟨RX0, "<init>", "()V"⟩
abbrev cX0_copyFrom : ByteArray := prog_2_method_2_code
def yX0_copyFrom : MethodName := ⟨RX0, "copyFrom", "(LBusSilences$Bus;)V"⟩
abbrev cX0_find : ByteArray := prog_2_method_3_code
def yX0_find : MethodName := ⟨RX0, "find", "(I)LBusSilences$Station;"⟩
abbrev cX0_changeSetting : ByteArray := prog_2_method_4_code
def yX0_changeSetting : MethodName := ⟨RX0, "changeSetting", "(II)I"⟩
abbrev cX0_loseChargeAbove : ByteArray := prog_2_method_5_code
def yX0_loseChargeAbove : MethodName := ⟨RX0, "loseChargeAbove", "(I)V"⟩
abbrev cX0_addStation : ByteArray := prog_2_method_6_code
def yX0_addStation : MethodName := ⟨RX0, "addStation", "(I)I"⟩
abbrev cX0_addWord : ByteArray := prog_2_method_7_code
def yX0_addWord : MethodName := ⟨RX0, "addWord", "(III)I"⟩
abbrev cX0_forgetWord : ByteArray := prog_2_method_8_code
def yX0_forgetWord : MethodName := ⟨RX0, "forgetWord", "(I)I"⟩
abbrev cX0_toggleFault : ByteArray := prog_2_method_9_code
def yX0_toggleFault : MethodName := ⟨RX0, "toggleFault", "(I)I"⟩
abbrev cX0_toggleDoze : ByteArray := prog_2_method_10_code
def yX0_toggleDoze : MethodName := ⟨RX0, "toggleDoze", "(I)I"⟩
abbrev cX0_passBeats : ByteArray := prog_2_method_11_code
def yX0_passBeats : MethodName := ⟨RX0, "passBeats", "(I)I"⟩
abbrev cX0_passBeat : ByteArray := prog_2_method_12_code
def yX0_passBeat : MethodName := ⟨RX0, "passBeat", "()I"⟩
abbrev cX0_beginWords : ByteArray := prog_2_method_13_code
def yX0_beginWords : MethodName := ⟨RX0, "beginWords", "(I)V"⟩
abbrev cX0_pulledWires : ByteArray := prog_2_method_14_code
def yX0_pulledWires : MethodName := ⟨RX0, "pulledWires", "()I"⟩
abbrev cX0_goOnSpeaking : ByteArray := prog_2_method_15_code
def yX0_goOnSpeaking : MethodName := ⟨RX0, "goOnSpeaking", "(II)I"⟩
abbrev cX0_beHeard : ByteArray := prog_2_method_16_code
def yX0_beHeard : MethodName := ⟨RX0, "beHeard", "(LBusSilences$Station;)V"⟩
abbrev cX0_giveUp : ByteArray := prog_2_method_17_code
def yX0_giveUp : MethodName := ⟨RX0, "giveUp", "(LBusSilences$Station;)V"⟩
abbrev cX0_changeCharges : ByteArray := prog_2_method_18_code
def yX0_changeCharges : MethodName := ⟨RX0, "changeCharges", "(I)V"⟩
abbrev cX0_restWires : ByteArray := prog_2_method_19_code
def yX0_restWires : MethodName := ⟨RX0, "restWires", "(I)V"⟩
abbrev cX0_isRested : ByteArray := prog_2_method_20_code
def yX0_isRested : MethodName := ⟨RX0, "isRested", "(I)Z"⟩
abbrev cX0_hasFault : ByteArray := prog_2_method_21_code
def yX0_hasFault : MethodName := ⟨RX0, "hasFault", "(I)Z"⟩
abbrev cX0_stationsAt : ByteArray := prog_2_method_22_code
def yX0_stationsAt : MethodName := ⟨RX0, "stationsAt", "(I)I"⟩
abbrev cX0_speakersOn : ByteArray := prog_2_method_23_code
def yX0_speakersOn : MethodName := ⟨RX0, "speakersOn", "(I)I"⟩
abbrev cX0_awakeStations : ByteArray := prog_2_method_24_code
def yX0_awakeStations : MethodName := ⟨RX0, "awakeStations", "()I"⟩
abbrev cX0_hasWords : ByteArray := prog_2_method_25_code
def yX0_hasWords : MethodName := ⟨RX0, "hasWords", "()Z"⟩
abbrev cX0_waitingFor : ByteArray := prog_2_method_26_code
def yX0_waitingFor : MethodName := ⟨RX0, "waitingFor", "(I)I"⟩
abbrev cX0_sumOf : ByteArray := prog_2_method_27_code
def yX0_sumOf : MethodName := ⟨RX0, "sumOf", "(I)I"⟩
def RX1 : String := "BusSilences$History"
def TX1 : u_T := fun k => match k with
  | 0 => ("BusSilences$History", "states", "[LBusSilences$Bus;", true)
  | 1 => ("BusSilences$History", "next", "I", false)
  | _ => ("BusSilences$History", "length", "I", false)
def tyX1 : Nat → FieldType := fun k => match k with
  | 0 => .array (.object "BusSilences$Bus")
  | 1 => .int
  | _ => .int
theorem nmX1 : ∀ a, a < 3 → ∀ b, b < 3 → a ≠ b → (TX1 a).2.1 ≠ (TX1 b).2.1 := by decide +kernel
theorem tyX1_ok : ∀ k, k < 3 → parseFieldDescriptor (TX1 k).2.2.1 = some (tyX1 k) := by decide +kernel
abbrev cX1_init : ByteArray := prog_3_method_1_code
def yX1_init : MethodName := ⟨RX1, "<init>", "()V"⟩
abbrev cX1_prepare : ByteArray := prog_3_method_2_code
def yX1_prepare : MethodName := ⟨RX1, "prepare", "(LBusSilences$Bus;)V"⟩
abbrev cX1_keep : ByteArray := prog_3_method_3_code
def yX1_keep : MethodName := ⟨RX1, "keep", "(I)I"⟩
def RX2 : String := "BusSilences$Latest"
def TX2 : u_T := fun k => match k with
  | 0 => ("BusSilences$Latest", "facts", "[I", true)
  | _ => ("BusSilences$Latest", "length", "I", false)
def tyX2 : Nat → FieldType := fun k => match k with
  | 0 => .array .int
  | _ => .int
theorem nmX2 : ∀ a, a < 2 → ∀ b, b < 2 → a ≠ b → (TX2 a).2.1 ≠ (TX2 b).2.1 := by decide +kernel
theorem tyX2_ok : ∀ k, k < 2 → parseFieldDescriptor (TX2 k).2.2.1 = some (tyX2 k) := by decide +kernel
abbrev cX2_init : ByteArray := prog_4_method_1_code
def yX2_init : MethodName := ⟨RX2, "<init>", "()V"⟩
abbrev cX2_copyFrom : ByteArray := prog_4_method_2_code
def yX2_copyFrom : MethodName := ⟨RX2, "copyFrom", "(LBusSilences$Latest;)V"⟩
abbrev cX2_has : ByteArray := prog_4_method_3_code
def yX2_has : MethodName := ⟨RX2, "has", "(I)Z"⟩
abbrev cX2_fact : ByteArray := prog_4_method_4_code
def yX2_fact : MethodName := ⟨RX2, "fact", "(II)I"⟩
abbrev cX2_add : ByteArray := prog_4_method_5_code
def yX2_add : MethodName := ⟨RX2, "add", "(IIII)V"⟩
def RX3 : String := "BusSilences$Pad"
def TX3 : u_T := fun k => match k with
  | 0 => ("BusSilences$Pad", "text", "[C", true)
  | _ => ("BusSilences$Pad", "length", "I", false)
def tyX3 : Nat → FieldType := fun k => match k with
  | 0 => .array .char
  | _ => .int
theorem nmX3 : ∀ a, a < 2 → ∀ b, b < 2 → a ≠ b → (TX3 a).2.1 ≠ (TX3 b).2.1 := by decide +kernel
theorem tyX3_ok : ∀ k, k < 2 → parseFieldDescriptor (TX3 k).2.2.1 = some (tyX3 k) := by decide +kernel
abbrev cX3_init : ByteArray := prog_5_method_1_code
def yX3_init : MethodName := ⟨RX3, "<init>", "()V"⟩
def RX4 : String := "BusSilences$Reader"
def TX4 : u_T := fun k => match k with
  | 0 => ("BusSilences$Reader", "pad", "LBusSilences$Pad;", true)
  | 1 => ("BusSilences$Reader", "at", "I", false)
  | 2 => ("BusSilences$Reader", "kind", "I", false)
  | 3 => ("BusSilences$Reader", "station", "I", false)
  | 4 => ("BusSilences$Reader", "wire", "I", false)
  | 5 => ("BusSilences$Reader", "wires", "I", false)
  | _ => ("BusSilences$Reader", "number", "I", false)
def tyX4 : Nat → FieldType := fun k => match k with
  | 0 => .object "BusSilences$Pad"
  | 1 => .int
  | 2 => .int
  | 3 => .int
  | 4 => .int
  | 5 => .int
  | _ => .int
theorem nmX4 : ∀ a, a < 7 → ∀ b, b < 7 → a ≠ b → (TX4 a).2.1 ≠ (TX4 b).2.1 := by decide +kernel
theorem tyX4_ok : ∀ k, k < 7 → parseFieldDescriptor (TX4 k).2.2.1 = some (tyX4 k) := by decide +kernel
abbrev cX4_init : ByteArray := prog_6_method_1_code
def yX4_init : MethodName := ⟨RX4, "<init>", "(LBusSilences$Pad;)V"⟩
def RX5 : String := "BusSilences$Row"
def TX5 : u_T := fun k => match k with
  | 0 => ("BusSilences$Row", "numbers", "[I", true)
  | 1 => ("BusSilences$Row", "wires", "[I", true)
  | 2 => ("BusSilences$Row", "tries", "[I", true)
  | _ => ("BusSilences$Row", "length", "I", false)
def tyX5 : Nat → FieldType := fun k => match k with
  | 0 => .array .int
  | 1 => .array .int
  | 2 => .array .int
  | _ => .int
theorem nmX5 : ∀ a, a < 4 → ∀ b, b < 4 → a ≠ b → (TX5 a).2.1 ≠ (TX5 b).2.1 := by decide +kernel
theorem tyX5_ok : ∀ k, k < 4 → parseFieldDescriptor (TX5 k).2.2.1 = some (tyX5 k) := by decide +kernel
abbrev cX5_init : ByteArray := prog_7_method_1_code
def yX5_init : MethodName := ⟨RX5, "<init>", "()V"⟩
abbrev cX5_copyFrom : ByteArray := prog_7_method_2_code
def yX5_copyFrom : MethodName := ⟨RX5, "copyFrom", "(LBusSilences$Row;)V"⟩
abbrev cX5_has : ByteArray := prog_7_method_3_code
def yX5_has : MethodName := ⟨RX5, "has", "(I)Z"⟩
abbrev cX5_numberAt : ByteArray := prog_7_method_4_code
def yX5_numberAt : MethodName := ⟨RX5, "numberAt", "(I)I"⟩
abbrev cX5_wireAt : ByteArray := prog_7_method_5_code
def yX5_wireAt : MethodName := ⟨RX5, "wireAt", "(I)I"⟩
abbrev cX5_triesAt : ByteArray := prog_7_method_6_code
def yX5_triesAt : MethodName := ⟨RX5, "triesAt", "(I)I"⟩
abbrev cX5_countFor : ByteArray := prog_7_method_7_code
def yX5_countFor : MethodName := ⟨RX5, "countFor", "(I)I"⟩
abbrev cX5_add : ByteArray := prog_7_method_8_code
def yX5_add : MethodName := ⟨RX5, "add", "(II)V"⟩
abbrev cX5_tryFirst : ByteArray := prog_7_method_9_code
def yX5_tryFirst : MethodName := ⟨RX5, "tryFirst", "()I"⟩
abbrev cX5_dropFirst : ByteArray := prog_7_method_10_code
def yX5_dropFirst : MethodName := ⟨RX5, "dropFirst", "()V"⟩
def RX6 : String := "BusSilences$Station"
def TX6 : u_T := fun k => match k with
  | 0 => ("BusSilences$Station", "name", "I", true)
  | 1 => ("BusSilences$Station", "row", "LBusSilences$Row;", true)
  | 2 => ("BusSilences$Station", "latest", "LBusSilences$Latest;", true)
  | 3 => ("BusSilences$Station", "wires", "I", false)
  | 4 => ("BusSilences$Station", "charge", "I", false)
  | 5 => ("BusSilences$Station", "asleep", "Z", false)
  | 6 => ("BusSilences$Station", "dozing", "Z", false)
  | 7 => ("BusSilences$Station", "nextBeat", "I", false)
  | 8 => ("BusSilences$Station", "wireSpokenOn", "I", false)
  | 9 => ("BusSilences$Station", "spokenBits", "I", false)
  | 10 => ("BusSilences$Station", "listeners", "I", false)
  | 11 => ("BusSilences$Station", "wordsHeard", "I", false)
  | 12 => ("BusSilences$Station", "wordsLost", "I", false)
  | 13 => ("BusSilences$Station", "hearings", "I", false)
  | _ => ("BusSilences$Station", "timesGivenUp", "I", false)
def tyX6 : Nat → FieldType := fun k => match k with
  | 0 => .int
  | 1 => .object "BusSilences$Row"
  | 2 => .object "BusSilences$Latest"
  | 3 => .int
  | 4 => .int
  | 5 => .boolean
  | 6 => .boolean
  | 7 => .int
  | 8 => .int
  | 9 => .int
  | 10 => .int
  | 11 => .int
  | 12 => .int
  | 13 => .int
  | _ => .int
theorem nmX6 : ∀ a, a < 15 → ∀ b, b < 15 → a ≠ b → (TX6 a).2.1 ≠ (TX6 b).2.1 := by decide +kernel
theorem tyX6_ok : ∀ k, k < 15 → parseFieldDescriptor (TX6 k).2.2.1 = some (tyX6 k) := by decide +kernel
abbrev cX6_init : ByteArray := prog_8_method_1_code
def yX6_init : MethodName := ⟨RX6, "<init>", "(I)V"⟩
abbrev cX6_copyFrom : ByteArray := prog_8_method_2_code
def yX6_copyFrom : MethodName := ⟨RX6, "copyFrom", "(LBusSilences$Station;)V"⟩
abbrev cX6_isAt : ByteArray := prog_8_method_3_code
def yX6_isAt : MethodName := ⟨RX6, "isAt", "(I)Z"⟩
abbrev cX6_isAwake : ByteArray := prog_8_method_4_code
def yX6_isAwake : MethodName := ⟨RX6, "isAwake", "()Z"⟩
abbrev cX6_isSpeaking : ByteArray := prog_8_method_5_code
def yX6_isSpeaking : MethodName := ⟨RX6, "isSpeaking", "()Z"⟩
abbrev cX6_letsGo : ByteArray := prog_8_method_6_code
def yX6_letsGo : MethodName := ⟨RX6, "letsGo", "()Z"⟩
abbrev cX6_begin : ByteArray := prog_8_method_7_code
def yX6_begin : MethodName := ⟨RX6, "begin", "(II)V"⟩
abbrev cX6_fallSilent : ByteArray := prog_8_method_8_code
def yX6_fallSilent : MethodName := ⟨RX6, "fallSilent", "()V"⟩
abbrev cX6_fact : ByteArray := prog_8_method_9_code
def yX6_fact : MethodName := ⟨RX6, "fact", "(I)I"⟩
def RX7 : String := "BusSilences"
def TX7 : u_T := fun k => match k with
  | 0 => ("BusSilences", "now", "LBusSilences$Bus;", true)
  | 1 => ("BusSilences", "trial", "LBusSilences$Bus;", true)
  | 2 => ("BusSilences", "history", "LBusSilences$History;", true)
  | 3 => ("BusSilences", "slots", "[LBusSilences$Bus;", true)
  | 4 => ("BusSilences", "pad", "LBusSilences$Pad;", true)
  | _ => ("BusSilences", "reader", "LBusSilences$Reader;", true)
def tyX7 : Nat → FieldType := fun k => match k with
  | 0 => .object "BusSilences$Bus"
  | 1 => .object "BusSilences$Bus"
  | 2 => .object "BusSilences$History"
  | 3 => .array (.object "BusSilences$Bus")
  | 4 => .object "BusSilences$Pad"
  | _ => .object "BusSilences$Reader"
theorem nmX7 : ∀ a, a < 6 → ∀ b, b < 6 → a ≠ b → (TX7 a).2.1 ≠ (TX7 b).2.1 := by decide +kernel
theorem tyX7_ok : ∀ k, k < 6 → parseFieldDescriptor (TX7 k).2.2.1 = some (tyX7 k) := by decide +kernel
abbrev cX7_init : ByteArray := prog_1_method_1_code
def yX7_init : MethodName := ⟨RX7, "<init>", "()V"⟩
abbrev cX7_set : ByteArray := prog_1_method_2_code
def yX7_set : MethodName := ⟨RX7, "set", "(II)I"⟩
abbrev cX7_station : ByteArray := prog_1_method_3_code
def yX7_station : MethodName := ⟨RX7, "station", "(I)I"⟩
abbrev cX7_word : ByteArray := prog_1_method_4_code
def yX7_word : MethodName := ⟨RX7, "word", "(III)I"⟩
abbrev cX7_forget : ByteArray := prog_1_method_5_code
def yX7_forget : MethodName := ⟨RX7, "forget", "(I)I"⟩
abbrev cX7_stick : ByteArray := prog_1_method_6_code
def yX7_stick : MethodName := ⟨RX7, "stick", "(I)I"⟩
abbrev cX7_doze : ByteArray := prog_1_method_7_code
def yX7_doze : MethodName := ⟨RX7, "doze", "(I)I"⟩
abbrev cX7_pass : ByteArray := prog_1_method_8_code
def yX7_pass : MethodName := ⟨RX7, "pass", "(I)I"⟩
abbrev cX7_ofWire : ByteArray := prog_1_method_9_code
def yX7_ofWire : MethodName := ⟨RX7, "ofWire", "(II)I"⟩
abbrev cX7_of : ByteArray := prog_1_method_10_code
def yX7_of : MethodName := ⟨RX7, "of", "(II)I"⟩
abbrev cX7_row : ByteArray := prog_1_method_11_code
def yX7_row : MethodName := ⟨RX7, "row", "(III)I"⟩
abbrev cX7_heard : ByteArray := prog_1_method_12_code
def yX7_heard : MethodName := ⟨RX7, "heard", "(III)I"⟩
abbrev cX7_count : ByteArray := prog_1_method_13_code
def yX7_count : MethodName := ⟨RX7, "count", "(I)I"⟩
abbrev cX7_why : ByteArray := prog_1_method_14_code
def yX7_why : MethodName := ⟨RX7, "why", "(I)I"⟩
abbrev cX7_endsIn : ByteArray := prog_1_method_15_code
def yX7_endsIn : MethodName := ⟨RX7, "endsIn", "(II)I"⟩
abbrev cX7_quietIn : ByteArray := prog_1_method_16_code
def yX7_quietIn : MethodName := ⟨RX7, "quietIn", "()I"⟩
abbrev cX7_bestRest : ByteArray := prog_1_method_17_code
def yX7_bestRest : MethodName := ⟨RX7, "bestRest", "(II)I"⟩
abbrev cX7_heardWithRest : ByteArray := prog_1_method_18_code
def yX7_heardWithRest : MethodName := ⟨RX7, "heardWithRest", "(II)I"⟩
abbrev cX7_busiest : ByteArray := prog_1_method_19_code
def yX7_busiest : MethodName := ⟨RX7, "busiest", "()I"⟩
abbrev cX7_sleepsIn : ByteArray := prog_1_method_20_code
def yX7_sleepsIn : MethodName := ⟨RX7, "sleepsIn", "(I)I"⟩
abbrev cX7_isWire : ByteArray := prog_1_method_30_code
def yX7_isWire : MethodName := ⟨RX7, "isWire", "(I)Z"⟩
abbrev cX7_copyNumbers : ByteArray := prog_1_method_31_code
def yX7_copyNumbers : MethodName := ⟨RX7, "copyNumbers", "([I[I)V"⟩
def RJ6 : String := "java/lang/Integer"
abbrev cJ6_bitCount_0f7a4 : ByteArray := prog_12_method_49_code
def yJ6_bitCount_0f7a4 : MethodName := ⟨RJ6, "bitCount", "(I)I"⟩
def RL : String := "BusSilencesLaw"
abbrev cL_cell : ByteArray := method_2_code
def yL_cell : MethodName := ⟨RL, "cell", "([II)I"⟩
abbrev cL_low : ByteArray := method_3_code
def yL_low : MethodName := ⟨RL, "low", "(II)I"⟩
abbrev cL_up : ByteArray := method_4_code
def yL_up : MethodName := ⟨RL, "up", "([II)Z"⟩
abbrev cL_wireOf : ByteArray := method_5_code
def yL_wireOf : MethodName := ⟨RL, "wireOf", "([II)I"⟩
abbrev cL_away : ByteArray := method_6_code
def yL_away : MethodName := ⟨RL, "away", "([I[II)V"⟩
abbrev cL_fails : ByteArray := method_7_code
def yL_fails : MethodName := ⟨RL, "fails", "([I[I[I[I[II)V"⟩
abbrev cL_beat : ByteArray := method_8_code
def yL_beat : MethodName := ⟨RL, "beat", "([I[I[I[I[I[I)I"⟩
abbrev cL_stations : ByteArray := method_9_code
def yL_stations : MethodName := ⟨RL, "stations", "(LBusSilences;[I[I[I[I[I[I)Z"⟩
abbrev cL_tells : ByteArray := method_10_code
def yL_tells : MethodName := ⟨RL, "tells", "(LBusSilences;[I[I[I[I[I[I)Z"⟩
abbrev cL_copy : ByteArray := method_11_code
def yL_copy : MethodName := ⟨RL, "copy", "([I[I)V"⟩
abbrev cL_ahead : ByteArray := method_12_code
def yL_ahead : MethodName := ⟨RL, "ahead", "(LBusSilences;[I[I[I[I[I[II)Z"⟩
abbrev cL_law : ByteArray := code
def yL_law : MethodName := ⟨RL, "law", "([I)Z"⟩
abbrev vwCl : List vw_C := [(RX0, TX0, 8), (RX1, TX1, 3), (RX2, TX2, 2), (RX3, TX3, 2), (RX4, TX4, 7), (RX5, TX5, 4), (RX6, TX6, 15), (RX7, TX7, 6), (RX7, TX7, 6)]
end
section
theorem dX0_init_0 : decode cX0_init 0 = .ok (.aload_n 0, 1) := by decide +kernel
theorem dX0_init_1 : decode cX0_init 1 = .ok (.invokespecial 3, 3) := by decide +kernel
theorem dX0_init_4 : decode cX0_init 4 = .ok (.aload_n 0, 1) := by decide +kernel
theorem dX0_init_5 : decode cX0_init 5 = .ok (.getstatic 9, 3) := by decide +kernel
theorem dX0_init_8 : decode cX0_init 8 = .ok (.invokevirtual 13, 3) := by decide +kernel
theorem dX0_init_11 : decode cX0_init 11 = .ok (.checkcast 14, 3) := by decide +kernel
theorem dX0_init_14 : decode cX0_init 14 = .ok (.putfield 18, 3) := by decide +kernel
theorem dX0_init_17 : decode cX0_init 17 = .ok (.aload_n 0, 1) := by decide +kernel
theorem dX0_init_18 : decode cX0_init 18 = .ok (.bipush 6, 2) := by decide +kernel
theorem dX0_init_20 : decode cX0_init 20 = .ok (.newarray .int, 2) := by decide +kernel
theorem dX0_init_22 : decode cX0_init 22 = .ok (.putfield 23, 3) := by decide +kernel
theorem dX0_init_25 : decode cX0_init 25 = .ok (.aload_n 0, 1) := by decide +kernel
theorem dX0_init_26 : decode cX0_init 26 = .ok (.bipush 6, 2) := by decide +kernel
theorem dX0_init_28 : decode cX0_init 28 = .ok (.newarray .int, 2) := by decide +kernel
theorem dX0_init_30 : decode cX0_init 30 = .ok (.putfield 26, 3) := by decide +kernel
theorem dX0_init_33 : decode cX0_init 33 = .ok (.aload_n 0, 1) := by decide +kernel
theorem dX0_init_34 : decode cX0_init 34 = .ok (.bipush 6, 2) := by decide +kernel
theorem dX0_init_36 : decode cX0_init 36 = .ok (.newarray .int, 2) := by decide +kernel
theorem dX0_init_38 : decode cX0_init 38 = .ok (.putfield 29, 3) := by decide +kernel
theorem dX0_init_41 : decode cX0_init 41 = .ok (.aload_n 0, 1) := by decide +kernel
theorem dX0_init_42 : decode cX0_init 42 = .ok (.bipush 8, 2) := by decide +kernel
theorem dX0_init_44 : decode cX0_init 44 = .ok (.anewarray 32, 3) := by decide +kernel
theorem dX0_init_47 : decode cX0_init 47 = .ok (.putfield 34, 3) := by decide +kernel
theorem dX0_init_50 : decode cX0_init 50 = .ok (.iconst 0, 1) := by decide +kernel
theorem dX0_init_51 : decode cX0_init 51 = .ok (.istore_n 1, 1) := by decide +kernel
theorem dX0_init_52 : decode cX0_init 52 = .ok (.iload_n 1, 1) := by decide +kernel
theorem dX0_init_53 : decode cX0_init 53 = .ok (.bipush 8, 2) := by decide +kernel
theorem dX0_init_55 : decode cX0_init 55 = .ok (.if_icmp .ge 23, 3) := by decide +kernel
theorem dX0_init_58 : decode cX0_init 58 = .ok (.aload_n 0, 1) := by decide +kernel
theorem dX0_init_59 : decode cX0_init 59 = .ok (.getfield 34, 3) := by decide +kernel
theorem dX0_init_62 : decode cX0_init 62 = .ok (.iload_n 1, 1) := by decide +kernel
theorem dX0_init_63 : decode cX0_init 63 = .ok (.new 32, 3) := by decide +kernel
theorem dX0_init_66 : decode cX0_init 66 = .ok (.dup, 1) := by decide +kernel
theorem dX0_init_67 : decode cX0_init 67 = .ok (.iload_n 1, 1) := by decide +kernel
theorem dX0_init_68 : decode cX0_init 68 = .ok (.invokespecial 38, 3) := by decide +kernel
theorem dX0_init_71 : decode cX0_init 71 = .ok (.aastore, 1) := by decide +kernel
theorem dX0_init_72 : decode cX0_init 72 = .ok (.iinc 1 1, 3) := by decide +kernel
theorem dX0_init_75 : decode cX0_init 75 = .ok (.goto (-23), 3) := by decide +kernel
theorem dX0_init_78 : decode cX0_init 78 = .ok (.return_, 1) := by decide +kernel
theorem dX0_copyFrom_0 : decode cX0_copyFrom 0 = .ok (.aload_n 1, 1) := by decide +kernel
theorem dX0_copyFrom_1 : decode cX0_copyFrom 1 = .ok (.getfield 18, 3) := by decide +kernel
theorem dX0_copyFrom_4 : decode cX0_copyFrom 4 = .ok (.aload_n 0, 1) := by decide +kernel
theorem dX0_copyFrom_5 : decode cX0_copyFrom 5 = .ok (.getfield 18, 3) := by decide +kernel
theorem dX0_copyFrom_8 : decode cX0_copyFrom 8 = .ok (.invokestatic 41, 3) := by decide +kernel
theorem dX0_copyFrom_11 : decode cX0_copyFrom 11 = .ok (.aload_n 1, 1) := by decide +kernel
theorem dX0_copyFrom_12 : decode cX0_copyFrom 12 = .ok (.getfield 23, 3) := by decide +kernel
theorem dX0_copyFrom_15 : decode cX0_copyFrom 15 = .ok (.aload_n 0, 1) := by decide +kernel
theorem dX0_copyFrom_16 : decode cX0_copyFrom 16 = .ok (.getfield 23, 3) := by decide +kernel
theorem dX0_copyFrom_19 : decode cX0_copyFrom 19 = .ok (.invokestatic 41, 3) := by decide +kernel
theorem dX0_copyFrom_22 : decode cX0_copyFrom 22 = .ok (.aload_n 1, 1) := by decide +kernel
theorem dX0_copyFrom_23 : decode cX0_copyFrom 23 = .ok (.getfield 26, 3) := by decide +kernel
theorem dX0_copyFrom_26 : decode cX0_copyFrom 26 = .ok (.aload_n 0, 1) := by decide +kernel
theorem dX0_copyFrom_27 : decode cX0_copyFrom 27 = .ok (.getfield 26, 3) := by decide +kernel
theorem dX0_copyFrom_30 : decode cX0_copyFrom 30 = .ok (.invokestatic 41, 3) := by decide +kernel
theorem dX0_copyFrom_33 : decode cX0_copyFrom 33 = .ok (.aload_n 1, 1) := by decide +kernel
theorem dX0_copyFrom_34 : decode cX0_copyFrom 34 = .ok (.getfield 29, 3) := by decide +kernel
theorem dX0_copyFrom_37 : decode cX0_copyFrom 37 = .ok (.aload_n 0, 1) := by decide +kernel
theorem dX0_copyFrom_38 : decode cX0_copyFrom 38 = .ok (.getfield 29, 3) := by decide +kernel
theorem dX0_copyFrom_41 : decode cX0_copyFrom 41 = .ok (.invokestatic 41, 3) := by decide +kernel
theorem dX0_copyFrom_44 : decode cX0_copyFrom 44 = .ok (.iconst 0, 1) := by decide +kernel
theorem dX0_copyFrom_45 : decode cX0_copyFrom 45 = .ok (.istore_n 2, 1) := by decide +kernel
theorem dX0_copyFrom_46 : decode cX0_copyFrom 46 = .ok (.iload_n 2, 1) := by decide +kernel
theorem dX0_copyFrom_47 : decode cX0_copyFrom 47 = .ok (.bipush 8, 2) := by decide +kernel
theorem dX0_copyFrom_49 : decode cX0_copyFrom 49 = .ok (.if_icmp .ge 24, 3) := by decide +kernel
theorem dX0_copyFrom_52 : decode cX0_copyFrom 52 = .ok (.aload_n 0, 1) := by decide +kernel
theorem dX0_copyFrom_53 : decode cX0_copyFrom 53 = .ok (.getfield 34, 3) := by decide +kernel
theorem dX0_copyFrom_56 : decode cX0_copyFrom 56 = .ok (.iload_n 2, 1) := by decide +kernel
theorem dX0_copyFrom_57 : decode cX0_copyFrom 57 = .ok (.aaload, 1) := by decide +kernel
theorem dX0_copyFrom_58 : decode cX0_copyFrom 58 = .ok (.aload_n 1, 1) := by decide +kernel
theorem dX0_copyFrom_59 : decode cX0_copyFrom 59 = .ok (.getfield 34, 3) := by decide +kernel
theorem dX0_copyFrom_62 : decode cX0_copyFrom 62 = .ok (.iload_n 2, 1) := by decide +kernel
theorem dX0_copyFrom_63 : decode cX0_copyFrom 63 = .ok (.aaload, 1) := by decide +kernel
theorem dX0_copyFrom_64 : decode cX0_copyFrom 64 = .ok (.invokevirtual 45, 3) := by decide +kernel
theorem dX0_copyFrom_67 : decode cX0_copyFrom 67 = .ok (.iinc 2 1, 3) := by decide +kernel
theorem dX0_copyFrom_70 : decode cX0_copyFrom 70 = .ok (.goto (-24), 3) := by decide +kernel
theorem dX0_copyFrom_73 : decode cX0_copyFrom 73 = .ok (.aload_n 0, 1) := by decide +kernel
theorem dX0_copyFrom_74 : decode cX0_copyFrom 74 = .ok (.aload_n 1, 1) := by decide +kernel
theorem dX0_copyFrom_75 : decode cX0_copyFrom 75 = .ok (.getfield 49, 3) := by decide +kernel
theorem dX0_copyFrom_78 : decode cX0_copyFrom 78 = .ok (.putfield 49, 3) := by decide +kernel
theorem dX0_copyFrom_81 : decode cX0_copyFrom 81 = .ok (.aload_n 0, 1) := by decide +kernel
theorem dX0_copyFrom_82 : decode cX0_copyFrom 82 = .ok (.aload_n 1, 1) := by decide +kernel
theorem dX0_copyFrom_83 : decode cX0_copyFrom 83 = .ok (.getfield 53, 3) := by decide +kernel
theorem dX0_copyFrom_86 : decode cX0_copyFrom 86 = .ok (.putfield 53, 3) := by decide +kernel
theorem dX0_copyFrom_89 : decode cX0_copyFrom 89 = .ok (.aload_n 0, 1) := by decide +kernel
theorem dX0_copyFrom_90 : decode cX0_copyFrom 90 = .ok (.aload_n 1, 1) := by decide +kernel
theorem dX0_copyFrom_91 : decode cX0_copyFrom 91 = .ok (.getfield 56, 3) := by decide +kernel
theorem dX0_copyFrom_94 : decode cX0_copyFrom 94 = .ok (.putfield 56, 3) := by decide +kernel
theorem dX0_copyFrom_97 : decode cX0_copyFrom 97 = .ok (.return_, 1) := by decide +kernel
theorem dX0_find_0 : decode cX0_find 0 = .ok (.iload_n 1, 1) := by decide +kernel
theorem dX0_find_1 : decode cX0_find 1 = .ok (.ifCond .lt 26, 3) := by decide +kernel
theorem dX0_find_4 : decode cX0_find 4 = .ok (.iload_n 1, 1) := by decide +kernel
theorem dX0_find_5 : decode cX0_find 5 = .ok (.aload_n 0, 1) := by decide +kernel
theorem dX0_find_6 : decode cX0_find 6 = .ok (.getfield 49, 3) := by decide +kernel
theorem dX0_find_9 : decode cX0_find 9 = .ok (.if_icmp .ge 18, 3) := by decide +kernel
theorem dX0_find_12 : decode cX0_find 12 = .ok (.iload_n 1, 1) := by decide +kernel
theorem dX0_find_13 : decode cX0_find 13 = .ok (.bipush 8, 2) := by decide +kernel
theorem dX0_find_15 : decode cX0_find 15 = .ok (.if_icmp .ge 12, 3) := by decide +kernel
theorem dX0_find_18 : decode cX0_find 18 = .ok (.aload_n 0, 1) := by decide +kernel
theorem dX0_find_19 : decode cX0_find 19 = .ok (.getfield 34, 3) := by decide +kernel
theorem dX0_find_22 : decode cX0_find 22 = .ok (.iload_n 1, 1) := by decide +kernel
theorem dX0_find_23 : decode cX0_find 23 = .ok (.aaload, 1) := by decide +kernel
theorem dX0_find_24 : decode cX0_find 24 = .ok (.goto 4, 3) := by decide +kernel
theorem dX0_find_27 : decode cX0_find 27 = .ok (.aconst_null, 1) := by decide +kernel
theorem dX0_find_28 : decode cX0_find 28 = .ok (.areturn, 1) := by decide +kernel
theorem dX0_changeSetting_0 : decode cX0_changeSetting 0 = .ok (.iload_n 1, 1) := by decide +kernel
theorem dX0_changeSetting_1 : decode cX0_changeSetting 1 = .ok (.ifCond .lt 8, 3) := by decide +kernel
theorem dX0_changeSetting_4 : decode cX0_changeSetting 4 = .ok (.iload_n 1, 1) := by decide +kernel
theorem dX0_changeSetting_5 : decode cX0_changeSetting 5 = .ok (.iconst 5, 1) := by decide +kernel
theorem dX0_changeSetting_6 : decode cX0_changeSetting 6 = .ok (.if_icmp .lt 6, 3) := by decide +kernel
theorem dX0_changeSetting_9 : decode cX0_changeSetting 9 = .ok (.bipush (-2), 2) := by decide +kernel
theorem dX0_changeSetting_11 : decode cX0_changeSetting 11 = .ok (.ireturn, 1) := by decide +kernel
theorem dX0_changeSetting_12 : decode cX0_changeSetting 12 = .ok (.iload_n 2, 1) := by decide +kernel
theorem dX0_changeSetting_13 : decode cX0_changeSetting 13 = .ok (.getstatic 59, 3) := by decide +kernel
theorem dX0_changeSetting_16 : decode cX0_changeSetting 16 = .ok (.iload_n 1, 1) := by decide +kernel
theorem dX0_changeSetting_17 : decode cX0_changeSetting 17 = .ok (.iaload, 1) := by decide +kernel
theorem dX0_changeSetting_18 : decode cX0_changeSetting 18 = .ok (.if_icmp .lt 12, 3) := by decide +kernel
theorem dX0_changeSetting_21 : decode cX0_changeSetting 21 = .ok (.iload_n 2, 1) := by decide +kernel
theorem dX0_changeSetting_22 : decode cX0_changeSetting 22 = .ok (.getstatic 62, 3) := by decide +kernel
theorem dX0_changeSetting_25 : decode cX0_changeSetting 25 = .ok (.iload_n 1, 1) := by decide +kernel
theorem dX0_changeSetting_26 : decode cX0_changeSetting 26 = .ok (.iaload, 1) := by decide +kernel
theorem dX0_changeSetting_27 : decode cX0_changeSetting 27 = .ok (.if_icmp .le 6, 3) := by decide +kernel
theorem dX0_changeSetting_30 : decode cX0_changeSetting 30 = .ok (.bipush (-2), 2) := by decide +kernel
theorem dX0_changeSetting_32 : decode cX0_changeSetting 32 = .ok (.ireturn, 1) := by decide +kernel
theorem dX0_changeSetting_33 : decode cX0_changeSetting 33 = .ok (.aload_n 0, 1) := by decide +kernel
theorem dX0_changeSetting_34 : decode cX0_changeSetting 34 = .ok (.getfield 18, 3) := by decide +kernel
theorem dX0_changeSetting_37 : decode cX0_changeSetting 37 = .ok (.iload_n 1, 1) := by decide +kernel
theorem dX0_changeSetting_38 : decode cX0_changeSetting 38 = .ok (.iaload, 1) := by decide +kernel
theorem dX0_changeSetting_39 : decode cX0_changeSetting 39 = .ok (.istore_n 3, 1) := by decide +kernel
theorem dX0_changeSetting_40 : decode cX0_changeSetting 40 = .ok (.aload_n 0, 1) := by decide +kernel
theorem dX0_changeSetting_41 : decode cX0_changeSetting 41 = .ok (.getfield 18, 3) := by decide +kernel
theorem dX0_changeSetting_44 : decode cX0_changeSetting 44 = .ok (.iload_n 1, 1) := by decide +kernel
theorem dX0_changeSetting_45 : decode cX0_changeSetting 45 = .ok (.iload_n 2, 1) := by decide +kernel
theorem dX0_changeSetting_46 : decode cX0_changeSetting 46 = .ok (.iastore, 1) := by decide +kernel
theorem dX0_changeSetting_47 : decode cX0_changeSetting 47 = .ok (.iload_n 1, 1) := by decide +kernel
theorem dX0_changeSetting_48 : decode cX0_changeSetting 48 = .ok (.iconst 1, 1) := by decide +kernel
theorem dX0_changeSetting_49 : decode cX0_changeSetting 49 = .ok (.if_icmp .ne 8, 3) := by decide +kernel
theorem dX0_changeSetting_52 : decode cX0_changeSetting 52 = .ok (.aload_n 0, 1) := by decide +kernel
theorem dX0_changeSetting_53 : decode cX0_changeSetting 53 = .ok (.iload_n 2, 1) := by decide +kernel
theorem dX0_changeSetting_54 : decode cX0_changeSetting 54 = .ok (.invokevirtual 65, 3) := by decide +kernel
theorem dX0_changeSetting_57 : decode cX0_changeSetting 57 = .ok (.iload_n 3, 1) := by decide +kernel
theorem dX0_changeSetting_58 : decode cX0_changeSetting 58 = .ok (.ireturn, 1) := by decide +kernel
theorem dX0_loseChargeAbove_0 : decode cX0_loseChargeAbove 0 = .ok (.iconst 0, 1) := by decide +kernel
theorem dX0_loseChargeAbove_1 : decode cX0_loseChargeAbove 1 = .ok (.istore_n 2, 1) := by decide +kernel
theorem dX0_loseChargeAbove_2 : decode cX0_loseChargeAbove 2 = .ok (.iload_n 2, 1) := by decide +kernel
theorem dX0_loseChargeAbove_3 : decode cX0_loseChargeAbove 3 = .ok (.aload_n 0, 1) := by decide +kernel
theorem dX0_loseChargeAbove_4 : decode cX0_loseChargeAbove 4 = .ok (.getfield 49, 3) := by decide +kernel
theorem dX0_loseChargeAbove_7 : decode cX0_loseChargeAbove 7 = .ok (.if_icmp .ge 31, 3) := by decide +kernel
theorem dX0_loseChargeAbove_10 : decode cX0_loseChargeAbove 10 = .ok (.aload_n 0, 1) := by decide +kernel
theorem dX0_loseChargeAbove_11 : decode cX0_loseChargeAbove 11 = .ok (.getfield 34, 3) := by decide +kernel
theorem dX0_loseChargeAbove_14 : decode cX0_loseChargeAbove 14 = .ok (.iload_n 2, 1) := by decide +kernel
theorem dX0_loseChargeAbove_15 : decode cX0_loseChargeAbove 15 = .ok (.aaload, 1) := by decide +kernel
theorem dX0_loseChargeAbove_16 : decode cX0_loseChargeAbove 16 = .ok (.aload_n 0, 1) := by decide +kernel
theorem dX0_loseChargeAbove_17 : decode cX0_loseChargeAbove 17 = .ok (.getfield 34, 3) := by decide +kernel
theorem dX0_loseChargeAbove_20 : decode cX0_loseChargeAbove 20 = .ok (.iload_n 2, 1) := by decide +kernel
theorem dX0_loseChargeAbove_21 : decode cX0_loseChargeAbove 21 = .ok (.aaload, 1) := by decide +kernel
theorem dX0_loseChargeAbove_22 : decode cX0_loseChargeAbove 22 = .ok (.getfield 68, 3) := by decide +kernel
theorem dX0_loseChargeAbove_25 : decode cX0_loseChargeAbove 25 = .ok (.iload_n 1, 1) := by decide +kernel
theorem dX0_loseChargeAbove_26 : decode cX0_loseChargeAbove 26 = .ok (.invokestatic 71, 3) := by decide +kernel
theorem dX0_loseChargeAbove_29 : decode cX0_loseChargeAbove 29 = .ok (.putfield 68, 3) := by decide +kernel
theorem dX0_loseChargeAbove_32 : decode cX0_loseChargeAbove 32 = .ok (.iinc 2 1, 3) := by decide +kernel
theorem dX0_loseChargeAbove_35 : decode cX0_loseChargeAbove 35 = .ok (.goto (-33), 3) := by decide +kernel
theorem dX0_loseChargeAbove_38 : decode cX0_loseChargeAbove 38 = .ok (.return_, 1) := by decide +kernel
theorem dX0_addStation_0 : decode cX0_addStation 0 = .ok (.iload_n 1, 1) := by decide +kernel
theorem dX0_addStation_1 : decode cX0_addStation 1 = .ok (.iconst 1, 1) := by decide +kernel
theorem dX0_addStation_2 : decode cX0_addStation 2 = .ok (.if_icmp .lt 9, 3) := by decide +kernel
theorem dX0_addStation_5 : decode cX0_addStation 5 = .ok (.iload_n 1, 1) := by decide +kernel
theorem dX0_addStation_6 : decode cX0_addStation 6 = .ok (.bipush 63, 2) := by decide +kernel
theorem dX0_addStation_8 : decode cX0_addStation 8 = .ok (.if_icmp .le 6, 3) := by decide +kernel
theorem dX0_addStation_11 : decode cX0_addStation 11 = .ok (.bipush (-2), 2) := by decide +kernel
theorem dX0_addStation_13 : decode cX0_addStation 13 = .ok (.ireturn, 1) := by decide +kernel
theorem dX0_addStation_14 : decode cX0_addStation 14 = .ok (.aload_n 0, 1) := by decide +kernel
theorem dX0_addStation_15 : decode cX0_addStation 15 = .ok (.getfield 49, 3) := by decide +kernel
theorem dX0_addStation_18 : decode cX0_addStation 18 = .ok (.bipush 8, 2) := by decide +kernel
theorem dX0_addStation_20 : decode cX0_addStation 20 = .ok (.if_icmp .lt 6, 3) := by decide +kernel
theorem dX0_addStation_23 : decode cX0_addStation 23 = .ok (.bipush (-4), 2) := by decide +kernel
theorem dX0_addStation_25 : decode cX0_addStation 25 = .ok (.ireturn, 1) := by decide +kernel
theorem dX0_addStation_26 : decode cX0_addStation 26 = .ok (.aload_n 0, 1) := by decide +kernel
theorem dX0_addStation_27 : decode cX0_addStation 27 = .ok (.getfield 34, 3) := by decide +kernel
theorem dX0_addStation_30 : decode cX0_addStation 30 = .ok (.aload_n 0, 1) := by decide +kernel
theorem dX0_addStation_31 : decode cX0_addStation 31 = .ok (.getfield 49, 3) := by decide +kernel
theorem dX0_addStation_34 : decode cX0_addStation 34 = .ok (.aaload, 1) := by decide +kernel
theorem dX0_addStation_35 : decode cX0_addStation 35 = .ok (.iload_n 1, 1) := by decide +kernel
theorem dX0_addStation_36 : decode cX0_addStation 36 = .ok (.putfield 77, 3) := by decide +kernel
theorem dX0_addStation_39 : decode cX0_addStation 39 = .ok (.aload_n 0, 1) := by decide +kernel
theorem dX0_addStation_40 : decode cX0_addStation 40 = .ok (.getfield 34, 3) := by decide +kernel
theorem dX0_addStation_43 : decode cX0_addStation 43 = .ok (.aload_n 0, 1) := by decide +kernel
theorem dX0_addStation_44 : decode cX0_addStation 44 = .ok (.getfield 49, 3) := by decide +kernel
theorem dX0_addStation_47 : decode cX0_addStation 47 = .ok (.aaload, 1) := by decide +kernel
theorem dX0_addStation_48 : decode cX0_addStation 48 = .ok (.aload_n 0, 1) := by decide +kernel
theorem dX0_addStation_49 : decode cX0_addStation 49 = .ok (.getfield 18, 3) := by decide +kernel
theorem dX0_addStation_52 : decode cX0_addStation 52 = .ok (.iconst 1, 1) := by decide +kernel
theorem dX0_addStation_53 : decode cX0_addStation 53 = .ok (.iaload, 1) := by decide +kernel
theorem dX0_addStation_54 : decode cX0_addStation 54 = .ok (.putfield 68, 3) := by decide +kernel
theorem dX0_addStation_57 : decode cX0_addStation 57 = .ok (.aload_n 0, 1) := by decide +kernel
theorem dX0_addStation_58 : decode cX0_addStation 58 = .ok (.dup, 1) := by decide +kernel
theorem dX0_addStation_59 : decode cX0_addStation 59 = .ok (.getfield 49, 3) := by decide +kernel
theorem dX0_addStation_62 : decode cX0_addStation 62 = .ok (.iconst 1, 1) := by decide +kernel
theorem dX0_addStation_63 : decode cX0_addStation 63 = .ok (.iadd, 1) := by decide +kernel
theorem dX0_addStation_64 : decode cX0_addStation 64 = .ok (.putfield 49, 3) := by decide +kernel
theorem dX0_addStation_67 : decode cX0_addStation 67 = .ok (.aload_n 0, 1) := by decide +kernel
theorem dX0_addStation_68 : decode cX0_addStation 68 = .ok (.getfield 49, 3) := by decide +kernel
theorem dX0_addStation_71 : decode cX0_addStation 71 = .ok (.iconst 1, 1) := by decide +kernel
theorem dX0_addStation_72 : decode cX0_addStation 72 = .ok (.isub, 1) := by decide +kernel
theorem dX0_addStation_73 : decode cX0_addStation 73 = .ok (.ireturn, 1) := by decide +kernel
theorem dX0_addWord_0 : decode cX0_addWord 0 = .ok (.aload_n 0, 1) := by decide +kernel
theorem dX0_addWord_1 : decode cX0_addWord 1 = .ok (.iload_n 1, 1) := by decide +kernel
theorem dX0_addWord_2 : decode cX0_addWord 2 = .ok (.invokevirtual 80, 3) := by decide +kernel
theorem dX0_addWord_5 : decode cX0_addWord 5 = .ok (.astore 4, 2) := by decide +kernel
theorem dX0_addWord_7 : decode cX0_addWord 7 = .ok (.aload 4, 2) := by decide +kernel
theorem dX0_addWord_9 : decode cX0_addWord 9 = .ok (.ifnull 10, 3) := by decide +kernel
theorem dX0_addWord_12 : decode cX0_addWord 12 = .ok (.iload_n 2, 1) := by decide +kernel
theorem dX0_addWord_13 : decode cX0_addWord 13 = .ok (.invokestatic 84, 3) := by decide +kernel
theorem dX0_addWord_16 : decode cX0_addWord 16 = .ok (.ifCond .ne 5, 3) := by decide +kernel
theorem dX0_addWord_19 : decode cX0_addWord 19 = .ok (.iconst (-1), 1) := by decide +kernel
theorem dX0_addWord_20 : decode cX0_addWord 20 = .ok (.ireturn, 1) := by decide +kernel
theorem dX0_addWord_21 : decode cX0_addWord 21 = .ok (.iload_n 3, 1) := by decide +kernel
theorem dX0_addWord_22 : decode cX0_addWord 22 = .ok (.ifCond .lt 10, 3) := by decide +kernel
theorem dX0_addWord_25 : decode cX0_addWord 25 = .ok (.iload_n 3, 1) := by decide +kernel
theorem dX0_addWord_26 : decode cX0_addWord 26 = .ok (.sipush 255, 3) := by decide +kernel
theorem dX0_addWord_29 : decode cX0_addWord 29 = .ok (.if_icmp .le 6, 3) := by decide +kernel
theorem dX0_addWord_32 : decode cX0_addWord 32 = .ok (.bipush (-2), 2) := by decide +kernel
theorem dX0_addWord_34 : decode cX0_addWord 34 = .ok (.ireturn, 1) := by decide +kernel
theorem dX0_addWord_35 : decode cX0_addWord 35 = .ok (.aload 4, 2) := by decide +kernel
theorem dX0_addWord_37 : decode cX0_addWord 37 = .ok (.iload_n 2, 1) := by decide +kernel
theorem dX0_addWord_38 : decode cX0_addWord 38 = .ok (.invokevirtual 88, 3) := by decide +kernel
theorem dX0_addWord_41 : decode cX0_addWord 41 = .ok (.ifCond .ne 6, 3) := by decide +kernel
theorem dX0_addWord_44 : decode cX0_addWord 44 = .ok (.bipush (-5), 2) := by decide +kernel
theorem dX0_addWord_46 : decode cX0_addWord 46 = .ok (.ireturn, 1) := by decide +kernel
theorem dX0_addWord_47 : decode cX0_addWord 47 = .ok (.aload 4, 2) := by decide +kernel
theorem dX0_addWord_49 : decode cX0_addWord 49 = .ok (.getfield 91, 3) := by decide +kernel
theorem dX0_addWord_52 : decode cX0_addWord 52 = .ok (.getfield 95, 3) := by decide +kernel
theorem dX0_addWord_55 : decode cX0_addWord 55 = .ok (.iconst 4, 1) := by decide +kernel
theorem dX0_addWord_56 : decode cX0_addWord 56 = .ok (.if_icmp .lt 6, 3) := by decide +kernel
theorem dX0_addWord_59 : decode cX0_addWord 59 = .ok (.bipush (-4), 2) := by decide +kernel
theorem dX0_addWord_61 : decode cX0_addWord 61 = .ok (.ireturn, 1) := by decide +kernel
theorem dX0_addWord_62 : decode cX0_addWord 62 = .ok (.aload 4, 2) := by decide +kernel
theorem dX0_addWord_64 : decode cX0_addWord 64 = .ok (.getfield 91, 3) := by decide +kernel
theorem dX0_addWord_67 : decode cX0_addWord 67 = .ok (.iload_n 3, 1) := by decide +kernel
theorem dX0_addWord_68 : decode cX0_addWord 68 = .ok (.iload_n 2, 1) := by decide +kernel
theorem dX0_addWord_69 : decode cX0_addWord 69 = .ok (.invokevirtual 100, 3) := by decide +kernel
theorem dX0_addWord_72 : decode cX0_addWord 72 = .ok (.aload 4, 2) := by decide +kernel
theorem dX0_addWord_74 : decode cX0_addWord 74 = .ok (.getfield 91, 3) := by decide +kernel
theorem dX0_addWord_77 : decode cX0_addWord 77 = .ok (.getfield 95, 3) := by decide +kernel
theorem dX0_addWord_80 : decode cX0_addWord 80 = .ok (.ireturn, 1) := by decide +kernel
theorem dX0_forgetWord_0 : decode cX0_forgetWord 0 = .ok (.aload_n 0, 1) := by decide +kernel
theorem dX0_forgetWord_1 : decode cX0_forgetWord 1 = .ok (.iload_n 1, 1) := by decide +kernel
theorem dX0_forgetWord_2 : decode cX0_forgetWord 2 = .ok (.invokevirtual 80, 3) := by decide +kernel
theorem dX0_forgetWord_5 : decode cX0_forgetWord 5 = .ok (.astore_n 2, 1) := by decide +kernel
theorem dX0_forgetWord_6 : decode cX0_forgetWord 6 = .ok (.aload_n 2, 1) := by decide +kernel
theorem dX0_forgetWord_7 : decode cX0_forgetWord 7 = .ok (.ifnonnull 5, 3) := by decide +kernel
theorem dX0_forgetWord_10 : decode cX0_forgetWord 10 = .ok (.iconst (-1), 1) := by decide +kernel
theorem dX0_forgetWord_11 : decode cX0_forgetWord 11 = .ok (.ireturn, 1) := by decide +kernel
theorem dX0_forgetWord_12 : decode cX0_forgetWord 12 = .ok (.aload_n 2, 1) := by decide +kernel
theorem dX0_forgetWord_13 : decode cX0_forgetWord 13 = .ok (.getfield 91, 3) := by decide +kernel
theorem dX0_forgetWord_16 : decode cX0_forgetWord 16 = .ok (.getfield 95, 3) := by decide +kernel
theorem dX0_forgetWord_19 : decode cX0_forgetWord 19 = .ok (.ifCond .ne 6, 3) := by decide +kernel
theorem dX0_forgetWord_22 : decode cX0_forgetWord 22 = .ok (.bipush (-5), 2) := by decide +kernel
theorem dX0_forgetWord_24 : decode cX0_forgetWord 24 = .ok (.ireturn, 1) := by decide +kernel
theorem dX0_forgetWord_25 : decode cX0_forgetWord 25 = .ok (.aload_n 2, 1) := by decide +kernel
theorem dX0_forgetWord_26 : decode cX0_forgetWord 26 = .ok (.getfield 91, 3) := by decide +kernel
theorem dX0_forgetWord_29 : decode cX0_forgetWord 29 = .ok (.iconst 0, 1) := by decide +kernel
theorem dX0_forgetWord_30 : decode cX0_forgetWord 30 = .ok (.invokevirtual 104, 3) := by decide +kernel
theorem dX0_forgetWord_33 : decode cX0_forgetWord 33 = .ok (.istore_n 3, 1) := by decide +kernel
theorem dX0_forgetWord_34 : decode cX0_forgetWord 34 = .ok (.aload_n 2, 1) := by decide +kernel
theorem dX0_forgetWord_35 : decode cX0_forgetWord 35 = .ok (.getfield 91, 3) := by decide +kernel
theorem dX0_forgetWord_38 : decode cX0_forgetWord 38 = .ok (.invokevirtual 108, 3) := by decide +kernel
theorem dX0_forgetWord_41 : decode cX0_forgetWord 41 = .ok (.aload_n 2, 1) := by decide +kernel
theorem dX0_forgetWord_42 : decode cX0_forgetWord 42 = .ok (.invokevirtual 111, 3) := by decide +kernel
theorem dX0_forgetWord_45 : decode cX0_forgetWord 45 = .ok (.iload_n 3, 1) := by decide +kernel
theorem dX0_forgetWord_46 : decode cX0_forgetWord 46 = .ok (.ireturn, 1) := by decide +kernel
theorem dX0_toggleFault_0 : decode cX0_toggleFault 0 = .ok (.iload_n 1, 1) := by decide +kernel
theorem dX0_toggleFault_1 : decode cX0_toggleFault 1 = .ok (.invokestatic 84, 3) := by decide +kernel
theorem dX0_toggleFault_4 : decode cX0_toggleFault 4 = .ok (.ifCond .ne 5, 3) := by decide +kernel
theorem dX0_toggleFault_7 : decode cX0_toggleFault 7 = .ok (.iconst (-1), 1) := by decide +kernel
theorem dX0_toggleFault_8 : decode cX0_toggleFault 8 = .ok (.ireturn, 1) := by decide +kernel
theorem dX0_toggleFault_9 : decode cX0_toggleFault 9 = .ok (.aload_n 0, 1) := by decide +kernel
theorem dX0_toggleFault_10 : decode cX0_toggleFault 10 = .ok (.dup, 1) := by decide +kernel
theorem dX0_toggleFault_11 : decode cX0_toggleFault 11 = .ok (.getfield 53, 3) := by decide +kernel
theorem dX0_toggleFault_14 : decode cX0_toggleFault 14 = .ok (.iconst 1, 1) := by decide +kernel
theorem dX0_toggleFault_15 : decode cX0_toggleFault 15 = .ok (.iload_n 1, 1) := by decide +kernel
theorem dX0_toggleFault_16 : decode cX0_toggleFault 16 = .ok (.ishl, 1) := by decide +kernel
theorem dX0_toggleFault_17 : decode cX0_toggleFault 17 = .ok (.ixor, 1) := by decide +kernel
theorem dX0_toggleFault_18 : decode cX0_toggleFault 18 = .ok (.putfield 53, 3) := by decide +kernel
theorem dX0_toggleFault_21 : decode cX0_toggleFault 21 = .ok (.aload_n 0, 1) := by decide +kernel
theorem dX0_toggleFault_22 : decode cX0_toggleFault 22 = .ok (.iload_n 1, 1) := by decide +kernel
theorem dX0_toggleFault_23 : decode cX0_toggleFault 23 = .ok (.invokevirtual 114, 3) := by decide +kernel
theorem dX0_toggleFault_26 : decode cX0_toggleFault 26 = .ok (.ifCond .eq 7, 3) := by decide +kernel
theorem dX0_toggleFault_29 : decode cX0_toggleFault 29 = .ok (.iconst 1, 1) := by decide +kernel
theorem dX0_toggleFault_30 : decode cX0_toggleFault 30 = .ok (.goto 4, 3) := by decide +kernel
theorem dX0_toggleFault_33 : decode cX0_toggleFault 33 = .ok (.iconst 0, 1) := by decide +kernel
theorem dX0_toggleFault_34 : decode cX0_toggleFault 34 = .ok (.ireturn, 1) := by decide +kernel
theorem dX0_toggleDoze_0 : decode cX0_toggleDoze 0 = .ok (.aload_n 0, 1) := by decide +kernel
theorem dX0_toggleDoze_1 : decode cX0_toggleDoze 1 = .ok (.iload_n 1, 1) := by decide +kernel
theorem dX0_toggleDoze_2 : decode cX0_toggleDoze 2 = .ok (.invokevirtual 80, 3) := by decide +kernel
theorem dX0_toggleDoze_5 : decode cX0_toggleDoze 5 = .ok (.astore_n 2, 1) := by decide +kernel
theorem dX0_toggleDoze_6 : decode cX0_toggleDoze 6 = .ok (.aload_n 2, 1) := by decide +kernel
theorem dX0_toggleDoze_7 : decode cX0_toggleDoze 7 = .ok (.ifnonnull 5, 3) := by decide +kernel
theorem dX0_toggleDoze_10 : decode cX0_toggleDoze 10 = .ok (.iconst (-1), 1) := by decide +kernel
theorem dX0_toggleDoze_11 : decode cX0_toggleDoze 11 = .ok (.ireturn, 1) := by decide +kernel
theorem dX0_toggleDoze_12 : decode cX0_toggleDoze 12 = .ok (.aload_n 2, 1) := by decide +kernel
theorem dX0_toggleDoze_13 : decode cX0_toggleDoze 13 = .ok (.aload_n 2, 1) := by decide +kernel
theorem dX0_toggleDoze_14 : decode cX0_toggleDoze 14 = .ok (.getfield 117, 3) := by decide +kernel
theorem dX0_toggleDoze_17 : decode cX0_toggleDoze 17 = .ok (.ifCond .ne 7, 3) := by decide +kernel
theorem dX0_toggleDoze_20 : decode cX0_toggleDoze 20 = .ok (.iconst 1, 1) := by decide +kernel
theorem dX0_toggleDoze_21 : decode cX0_toggleDoze 21 = .ok (.goto 4, 3) := by decide +kernel
theorem dX0_toggleDoze_24 : decode cX0_toggleDoze 24 = .ok (.iconst 0, 1) := by decide +kernel
theorem dX0_toggleDoze_25 : decode cX0_toggleDoze 25 = .ok (.putfield 117, 3) := by decide +kernel
theorem dX0_toggleDoze_28 : decode cX0_toggleDoze 28 = .ok (.aload_n 2, 1) := by decide +kernel
theorem dX0_toggleDoze_29 : decode cX0_toggleDoze 29 = .ok (.getfield 117, 3) := by decide +kernel
theorem dX0_toggleDoze_32 : decode cX0_toggleDoze 32 = .ok (.ifCond .eq 15, 3) := by decide +kernel
theorem dX0_toggleDoze_35 : decode cX0_toggleDoze 35 = .ok (.aload_n 2, 1) := by decide +kernel
theorem dX0_toggleDoze_36 : decode cX0_toggleDoze 36 = .ok (.invokevirtual 121, 3) := by decide +kernel
theorem dX0_toggleDoze_39 : decode cX0_toggleDoze 39 = .ok (.ifCond .eq 8, 3) := by decide +kernel
theorem dX0_toggleDoze_42 : decode cX0_toggleDoze 42 = .ok (.aload_n 0, 1) := by decide +kernel
theorem dX0_toggleDoze_43 : decode cX0_toggleDoze 43 = .ok (.aload_n 2, 1) := by decide +kernel
theorem dX0_toggleDoze_44 : decode cX0_toggleDoze 44 = .ok (.invokevirtual 125, 3) := by decide +kernel
theorem dX0_toggleDoze_47 : decode cX0_toggleDoze 47 = .ok (.aload_n 2, 1) := by decide +kernel
theorem dX0_toggleDoze_48 : decode cX0_toggleDoze 48 = .ok (.getfield 117, 3) := by decide +kernel
theorem dX0_toggleDoze_51 : decode cX0_toggleDoze 51 = .ok (.ifCond .eq 7, 3) := by decide +kernel
theorem dX0_toggleDoze_54 : decode cX0_toggleDoze 54 = .ok (.iconst 1, 1) := by decide +kernel
theorem dX0_toggleDoze_55 : decode cX0_toggleDoze 55 = .ok (.goto 4, 3) := by decide +kernel
theorem dX0_toggleDoze_58 : decode cX0_toggleDoze 58 = .ok (.iconst 0, 1) := by decide +kernel
theorem dX0_toggleDoze_59 : decode cX0_toggleDoze 59 = .ok (.ireturn, 1) := by decide +kernel
theorem dX0_passBeats_0 : decode cX0_passBeats 0 = .ok (.iload_n 1, 1) := by decide +kernel
theorem dX0_passBeats_1 : decode cX0_passBeats 1 = .ok (.iconst 1, 1) := by decide +kernel
theorem dX0_passBeats_2 : decode cX0_passBeats 2 = .ok (.if_icmp .lt 10, 3) := by decide +kernel
theorem dX0_passBeats_5 : decode cX0_passBeats 5 = .ok (.iload_n 1, 1) := by decide +kernel
theorem dX0_passBeats_6 : decode cX0_passBeats 6 = .ok (.sipush 999, 3) := by decide +kernel
theorem dX0_passBeats_9 : decode cX0_passBeats 9 = .ok (.if_icmp .le 6, 3) := by decide +kernel
theorem dX0_passBeats_12 : decode cX0_passBeats 12 = .ok (.bipush (-2), 2) := by decide +kernel
theorem dX0_passBeats_14 : decode cX0_passBeats 14 = .ok (.ireturn, 1) := by decide +kernel
theorem dX0_passBeats_15 : decode cX0_passBeats 15 = .ok (.aload_n 0, 1) := by decide +kernel
theorem dX0_passBeats_16 : decode cX0_passBeats 16 = .ok (.getfield 56, 3) := by decide +kernel
theorem dX0_passBeats_19 : decode cX0_passBeats 19 = .ok (.iload_n 1, 1) := by decide +kernel
theorem dX0_passBeats_20 : decode cX0_passBeats 20 = .ok (.iadd, 1) := by decide +kernel
theorem dX0_passBeats_21 : decode cX0_passBeats 21 = .ok (.ldc 128, 2) := by decide +kernel
theorem dX0_passBeats_23 : decode cX0_passBeats 23 = .ok (.if_icmp .le 6, 3) := by decide +kernel
theorem dX0_passBeats_26 : decode cX0_passBeats 26 = .ok (.bipush (-5), 2) := by decide +kernel
theorem dX0_passBeats_28 : decode cX0_passBeats 28 = .ok (.ireturn, 1) := by decide +kernel
theorem dX0_passBeats_29 : decode cX0_passBeats 29 = .ok (.iconst 0, 1) := by decide +kernel
theorem dX0_passBeats_30 : decode cX0_passBeats 30 = .ok (.istore_n 2, 1) := by decide +kernel
theorem dX0_passBeats_31 : decode cX0_passBeats 31 = .ok (.iconst 0, 1) := by decide +kernel
theorem dX0_passBeats_32 : decode cX0_passBeats 32 = .ok (.istore_n 3, 1) := by decide +kernel
theorem dX0_passBeats_33 : decode cX0_passBeats 33 = .ok (.iload_n 3, 1) := by decide +kernel
theorem dX0_passBeats_34 : decode cX0_passBeats 34 = .ok (.iload_n 1, 1) := by decide +kernel
theorem dX0_passBeats_35 : decode cX0_passBeats 35 = .ok (.if_icmp .ge 16, 3) := by decide +kernel
theorem dX0_passBeats_38 : decode cX0_passBeats 38 = .ok (.iload_n 2, 1) := by decide +kernel
theorem dX0_passBeats_39 : decode cX0_passBeats 39 = .ok (.aload_n 0, 1) := by decide +kernel
theorem dX0_passBeats_40 : decode cX0_passBeats 40 = .ok (.invokevirtual 129, 3) := by decide +kernel
theorem dX0_passBeats_43 : decode cX0_passBeats 43 = .ok (.iadd, 1) := by decide +kernel
theorem dX0_passBeats_44 : decode cX0_passBeats 44 = .ok (.istore_n 2, 1) := by decide +kernel
theorem dX0_passBeats_45 : decode cX0_passBeats 45 = .ok (.iinc 3 1, 3) := by decide +kernel
theorem dX0_passBeats_48 : decode cX0_passBeats 48 = .ok (.goto (-15), 3) := by decide +kernel
theorem dX0_passBeats_51 : decode cX0_passBeats 51 = .ok (.iload_n 2, 1) := by decide +kernel
theorem dX0_passBeats_52 : decode cX0_passBeats 52 = .ok (.ireturn, 1) := by decide +kernel
theorem dX0_passBeat_0 : decode cX0_passBeat 0 = .ok (.aload_n 0, 1) := by decide +kernel
theorem dX0_passBeat_1 : decode cX0_passBeat 1 = .ok (.invokevirtual 133, 3) := by decide +kernel
theorem dX0_passBeat_4 : decode cX0_passBeat 4 = .ok (.istore_n 1, 1) := by decide +kernel
theorem dX0_passBeat_5 : decode cX0_passBeat 5 = .ok (.aload_n 0, 1) := by decide +kernel
theorem dX0_passBeat_6 : decode cX0_passBeat 6 = .ok (.iload_n 1, 1) := by decide +kernel
theorem dX0_passBeat_7 : decode cX0_passBeat 7 = .ok (.invokevirtual 136, 3) := by decide +kernel
theorem dX0_passBeat_10 : decode cX0_passBeat 10 = .ok (.bipush 63, 2) := by decide +kernel
theorem dX0_passBeat_12 : decode cX0_passBeat 12 = .ok (.aload_n 0, 1) := by decide +kernel
theorem dX0_passBeat_13 : decode cX0_passBeat 13 = .ok (.getfield 53, 3) := by decide +kernel
theorem dX0_passBeat_16 : decode cX0_passBeat 16 = .ok (.aload_n 0, 1) := by decide +kernel
theorem dX0_passBeat_17 : decode cX0_passBeat 17 = .ok (.invokevirtual 139, 3) := by decide +kernel
theorem dX0_passBeat_20 : decode cX0_passBeat 20 = .ok (.ior, 1) := by decide +kernel
theorem dX0_passBeat_21 : decode cX0_passBeat 21 = .ok (.iconst (-1), 1) := by decide +kernel
theorem dX0_passBeat_22 : decode cX0_passBeat 22 = .ok (.ixor, 1) := by decide +kernel
theorem dX0_passBeat_23 : decode cX0_passBeat 23 = .ok (.iand, 1) := by decide +kernel
theorem dX0_passBeat_24 : decode cX0_passBeat 24 = .ok (.istore_n 2, 1) := by decide +kernel
theorem dX0_passBeat_25 : decode cX0_passBeat 25 = .ok (.aload_n 0, 1) := by decide +kernel
theorem dX0_passBeat_26 : decode cX0_passBeat 26 = .ok (.iload_n 2, 1) := by decide +kernel
theorem dX0_passBeat_27 : decode cX0_passBeat 27 = .ok (.iload_n 1, 1) := by decide +kernel
theorem dX0_passBeat_28 : decode cX0_passBeat 28 = .ok (.invokevirtual 142, 3) := by decide +kernel
theorem dX0_passBeat_31 : decode cX0_passBeat 31 = .ok (.istore_n 3, 1) := by decide +kernel
theorem dX0_passBeat_32 : decode cX0_passBeat 32 = .ok (.aload_n 0, 1) := by decide +kernel
theorem dX0_passBeat_33 : decode cX0_passBeat 33 = .ok (.iload_n 2, 1) := by decide +kernel
theorem dX0_passBeat_34 : decode cX0_passBeat 34 = .ok (.invokevirtual 145, 3) := by decide +kernel
theorem dX0_passBeat_37 : decode cX0_passBeat 37 = .ok (.aload_n 0, 1) := by decide +kernel
theorem dX0_passBeat_38 : decode cX0_passBeat 38 = .ok (.iload_n 2, 1) := by decide +kernel
theorem dX0_passBeat_39 : decode cX0_passBeat 39 = .ok (.invokevirtual 148, 3) := by decide +kernel
theorem dX0_passBeat_42 : decode cX0_passBeat 42 = .ok (.aload_n 0, 1) := by decide +kernel
theorem dX0_passBeat_43 : decode cX0_passBeat 43 = .ok (.dup, 1) := by decide +kernel
theorem dX0_passBeat_44 : decode cX0_passBeat 44 = .ok (.getfield 56, 3) := by decide +kernel
theorem dX0_passBeat_47 : decode cX0_passBeat 47 = .ok (.iconst 1, 1) := by decide +kernel
theorem dX0_passBeat_48 : decode cX0_passBeat 48 = .ok (.iadd, 1) := by decide +kernel
theorem dX0_passBeat_49 : decode cX0_passBeat 49 = .ok (.putfield 56, 3) := by decide +kernel
theorem dX0_passBeat_52 : decode cX0_passBeat 52 = .ok (.iload_n 3, 1) := by decide +kernel
theorem dX0_passBeat_53 : decode cX0_passBeat 53 = .ok (.ireturn, 1) := by decide +kernel
theorem dX0_beginWords_0 : decode cX0_beginWords 0 = .ok (.iconst 0, 1) := by decide +kernel
theorem dX0_beginWords_1 : decode cX0_beginWords 1 = .ok (.istore_n 2, 1) := by decide +kernel
theorem dX0_beginWords_2 : decode cX0_beginWords 2 = .ok (.iload_n 2, 1) := by decide +kernel
theorem dX0_beginWords_3 : decode cX0_beginWords 3 = .ok (.aload_n 0, 1) := by decide +kernel
theorem dX0_beginWords_4 : decode cX0_beginWords 4 = .ok (.getfield 49, 3) := by decide +kernel
theorem dX0_beginWords_7 : decode cX0_beginWords 7 = .ok (.if_icmp .ge 66, 3) := by decide +kernel
theorem dX0_beginWords_10 : decode cX0_beginWords 10 = .ok (.aload_n 0, 1) := by decide +kernel
theorem dX0_beginWords_11 : decode cX0_beginWords 11 = .ok (.getfield 34, 3) := by decide +kernel
theorem dX0_beginWords_14 : decode cX0_beginWords 14 = .ok (.iload_n 2, 1) := by decide +kernel
theorem dX0_beginWords_15 : decode cX0_beginWords 15 = .ok (.aaload, 1) := by decide +kernel
theorem dX0_beginWords_16 : decode cX0_beginWords 16 = .ok (.astore_n 3, 1) := by decide +kernel
theorem dX0_beginWords_17 : decode cX0_beginWords 17 = .ok (.aload_n 3, 1) := by decide +kernel
theorem dX0_beginWords_18 : decode cX0_beginWords 18 = .ok (.invokevirtual 151, 3) := by decide +kernel
theorem dX0_beginWords_21 : decode cX0_beginWords 21 = .ok (.ifCond .eq 46, 3) := by decide +kernel
theorem dX0_beginWords_24 : decode cX0_beginWords 24 = .ok (.aload_n 3, 1) := by decide +kernel
theorem dX0_beginWords_25 : decode cX0_beginWords 25 = .ok (.invokevirtual 121, 3) := by decide +kernel
theorem dX0_beginWords_28 : decode cX0_beginWords 28 = .ok (.ifCond .eq 6, 3) := by decide +kernel
theorem dX0_beginWords_31 : decode cX0_beginWords 31 = .ok (.goto 36, 3) := by decide +kernel
theorem dX0_beginWords_34 : decode cX0_beginWords 34 = .ok (.aload_n 3, 1) := by decide +kernel
theorem dX0_beginWords_35 : decode cX0_beginWords 35 = .ok (.getfield 91, 3) := by decide +kernel
theorem dX0_beginWords_38 : decode cX0_beginWords 38 = .ok (.iconst 0, 1) := by decide +kernel
theorem dX0_beginWords_39 : decode cX0_beginWords 39 = .ok (.invokevirtual 154, 3) := by decide +kernel
theorem dX0_beginWords_42 : decode cX0_beginWords 42 = .ok (.istore 4, 2) := by decide +kernel
theorem dX0_beginWords_44 : decode cX0_beginWords 44 = .ok (.aload_n 0, 1) := by decide +kernel
theorem dX0_beginWords_45 : decode cX0_beginWords 45 = .ok (.iload 4, 2) := by decide +kernel
theorem dX0_beginWords_47 : decode cX0_beginWords 47 = .ok (.invokevirtual 157, 3) := by decide +kernel
theorem dX0_beginWords_50 : decode cX0_beginWords 50 = .ok (.ifCond .eq 17, 3) := by decide +kernel
theorem dX0_beginWords_53 : decode cX0_beginWords 53 = .ok (.aload_n 3, 1) := by decide +kernel
theorem dX0_beginWords_54 : decode cX0_beginWords 54 = .ok (.iload 4, 2) := by decide +kernel
theorem dX0_beginWords_56 : decode cX0_beginWords 56 = .ok (.iload_n 1, 1) := by decide +kernel
theorem dX0_beginWords_57 : decode cX0_beginWords 57 = .ok (.aload_n 0, 1) := by decide +kernel
theorem dX0_beginWords_58 : decode cX0_beginWords 58 = .ok (.iload 4, 2) := by decide +kernel
theorem dX0_beginWords_60 : decode cX0_beginWords 60 = .ok (.invokevirtual 160, 3) := by decide +kernel
theorem dX0_beginWords_63 : decode cX0_beginWords 63 = .ok (.iand, 1) := by decide +kernel
theorem dX0_beginWords_64 : decode cX0_beginWords 64 = .ok (.invokevirtual 163, 3) := by decide +kernel
theorem dX0_beginWords_67 : decode cX0_beginWords 67 = .ok (.iinc 2 1, 3) := by decide +kernel
theorem dX0_beginWords_70 : decode cX0_beginWords 70 = .ok (.goto (-68), 3) := by decide +kernel
theorem dX0_beginWords_73 : decode cX0_beginWords 73 = .ok (.return_, 1) := by decide +kernel
theorem dX0_pulledWires_0 : decode cX0_pulledWires 0 = .ok (.iconst 0, 1) := by decide +kernel
theorem dX0_pulledWires_1 : decode cX0_pulledWires 1 = .ok (.istore_n 1, 1) := by decide +kernel
theorem dX0_pulledWires_2 : decode cX0_pulledWires 2 = .ok (.iconst 0, 1) := by decide +kernel
theorem dX0_pulledWires_3 : decode cX0_pulledWires 3 = .ok (.istore_n 2, 1) := by decide +kernel
theorem dX0_pulledWires_4 : decode cX0_pulledWires 4 = .ok (.iload_n 2, 1) := by decide +kernel
theorem dX0_pulledWires_5 : decode cX0_pulledWires 5 = .ok (.aload_n 0, 1) := by decide +kernel
theorem dX0_pulledWires_6 : decode cX0_pulledWires 6 = .ok (.getfield 49, 3) := by decide +kernel
theorem dX0_pulledWires_9 : decode cX0_pulledWires 9 = .ok (.if_icmp .ge 45, 3) := by decide +kernel
theorem dX0_pulledWires_12 : decode cX0_pulledWires 12 = .ok (.aload_n 0, 1) := by decide +kernel
theorem dX0_pulledWires_13 : decode cX0_pulledWires 13 = .ok (.getfield 34, 3) := by decide +kernel
theorem dX0_pulledWires_16 : decode cX0_pulledWires 16 = .ok (.iload_n 2, 1) := by decide +kernel
theorem dX0_pulledWires_17 : decode cX0_pulledWires 17 = .ok (.aaload, 1) := by decide +kernel
theorem dX0_pulledWires_18 : decode cX0_pulledWires 18 = .ok (.invokevirtual 121, 3) := by decide +kernel
theorem dX0_pulledWires_21 : decode cX0_pulledWires 21 = .ok (.ifCond .eq 27, 3) := by decide +kernel
theorem dX0_pulledWires_24 : decode cX0_pulledWires 24 = .ok (.aload_n 0, 1) := by decide +kernel
theorem dX0_pulledWires_25 : decode cX0_pulledWires 25 = .ok (.getfield 34, 3) := by decide +kernel
theorem dX0_pulledWires_28 : decode cX0_pulledWires 28 = .ok (.iload_n 2, 1) := by decide +kernel
theorem dX0_pulledWires_29 : decode cX0_pulledWires 29 = .ok (.aaload, 1) := by decide +kernel
theorem dX0_pulledWires_30 : decode cX0_pulledWires 30 = .ok (.invokevirtual 166, 3) := by decide +kernel
theorem dX0_pulledWires_33 : decode cX0_pulledWires 33 = .ok (.ifCond .ne 15, 3) := by decide +kernel
theorem dX0_pulledWires_36 : decode cX0_pulledWires 36 = .ok (.iload_n 1, 1) := by decide +kernel
theorem dX0_pulledWires_37 : decode cX0_pulledWires 37 = .ok (.aload_n 0, 1) := by decide +kernel
theorem dX0_pulledWires_38 : decode cX0_pulledWires 38 = .ok (.getfield 34, 3) := by decide +kernel
theorem dX0_pulledWires_41 : decode cX0_pulledWires 41 = .ok (.iload_n 2, 1) := by decide +kernel
theorem dX0_pulledWires_42 : decode cX0_pulledWires 42 = .ok (.aaload, 1) := by decide +kernel
theorem dX0_pulledWires_43 : decode cX0_pulledWires 43 = .ok (.getfield 169, 3) := by decide +kernel
theorem dX0_pulledWires_46 : decode cX0_pulledWires 46 = .ok (.ior, 1) := by decide +kernel
theorem dX0_pulledWires_47 : decode cX0_pulledWires 47 = .ok (.istore_n 1, 1) := by decide +kernel
theorem dX0_pulledWires_48 : decode cX0_pulledWires 48 = .ok (.iinc 2 1, 3) := by decide +kernel
theorem dX0_pulledWires_51 : decode cX0_pulledWires 51 = .ok (.goto (-47), 3) := by decide +kernel
theorem dX0_pulledWires_54 : decode cX0_pulledWires 54 = .ok (.iload_n 1, 1) := by decide +kernel
theorem dX0_pulledWires_55 : decode cX0_pulledWires 55 = .ok (.ireturn, 1) := by decide +kernel
theorem dX0_goOnSpeaking_0 : decode cX0_goOnSpeaking 0 = .ok (.iconst 0, 1) := by decide +kernel
theorem dX0_goOnSpeaking_1 : decode cX0_goOnSpeaking 1 = .ok (.istore_n 3, 1) := by decide +kernel
theorem dX0_goOnSpeaking_2 : decode cX0_goOnSpeaking 2 = .ok (.iconst 0, 1) := by decide +kernel
theorem dX0_goOnSpeaking_3 : decode cX0_goOnSpeaking 3 = .ok (.istore 4, 2) := by decide +kernel
theorem dX0_goOnSpeaking_5 : decode cX0_goOnSpeaking 5 = .ok (.iload 4, 2) := by decide +kernel
theorem dX0_goOnSpeaking_7 : decode cX0_goOnSpeaking 7 = .ok (.aload_n 0, 1) := by decide +kernel
theorem dX0_goOnSpeaking_8 : decode cX0_goOnSpeaking 8 = .ok (.getfield 49, 3) := by decide +kernel
theorem dX0_goOnSpeaking_11 : decode cX0_goOnSpeaking 11 = .ok (.if_icmp .ge 110, 3) := by decide +kernel
theorem dX0_goOnSpeaking_14 : decode cX0_goOnSpeaking 14 = .ok (.aload_n 0, 1) := by decide +kernel
theorem dX0_goOnSpeaking_15 : decode cX0_goOnSpeaking 15 = .ok (.getfield 34, 3) := by decide +kernel
theorem dX0_goOnSpeaking_18 : decode cX0_goOnSpeaking 18 = .ok (.iload 4, 2) := by decide +kernel
theorem dX0_goOnSpeaking_20 : decode cX0_goOnSpeaking 20 = .ok (.aaload, 1) := by decide +kernel
theorem dX0_goOnSpeaking_21 : decode cX0_goOnSpeaking 21 = .ok (.astore 5, 2) := by decide +kernel
theorem dX0_goOnSpeaking_23 : decode cX0_goOnSpeaking 23 = .ok (.aload 5, 2) := by decide +kernel
theorem dX0_goOnSpeaking_25 : decode cX0_goOnSpeaking 25 = .ok (.invokevirtual 121, 3) := by decide +kernel
theorem dX0_goOnSpeaking_28 : decode cX0_goOnSpeaking 28 = .ok (.ifCond .ne 6, 3) := by decide +kernel
theorem dX0_goOnSpeaking_31 : decode cX0_goOnSpeaking 31 = .ok (.goto 84, 3) := by decide +kernel
theorem dX0_goOnSpeaking_34 : decode cX0_goOnSpeaking 34 = .ok (.aload 5, 2) := by decide +kernel
theorem dX0_goOnSpeaking_36 : decode cX0_goOnSpeaking 36 = .ok (.invokevirtual 166, 3) := by decide +kernel
theorem dX0_goOnSpeaking_39 : decode cX0_goOnSpeaking 39 = .ok (.ifCond .eq 22, 3) := by decide +kernel
theorem dX0_goOnSpeaking_42 : decode cX0_goOnSpeaking 42 = .ok (.aload 5, 2) := by decide +kernel
theorem dX0_goOnSpeaking_44 : decode cX0_goOnSpeaking 44 = .ok (.getfield 169, 3) := by decide +kernel
theorem dX0_goOnSpeaking_47 : decode cX0_goOnSpeaking 47 = .ok (.iload_n 1, 1) := by decide +kernel
theorem dX0_goOnSpeaking_48 : decode cX0_goOnSpeaking 48 = .ok (.iand, 1) := by decide +kernel
theorem dX0_goOnSpeaking_49 : decode cX0_goOnSpeaking 49 = .ok (.ifCond .ne 12, 3) := by decide +kernel
theorem dX0_goOnSpeaking_52 : decode cX0_goOnSpeaking 52 = .ok (.aload_n 0, 1) := by decide +kernel
theorem dX0_goOnSpeaking_53 : decode cX0_goOnSpeaking 53 = .ok (.aload 5, 2) := by decide +kernel
theorem dX0_goOnSpeaking_55 : decode cX0_goOnSpeaking 55 = .ok (.invokevirtual 125, 3) := by decide +kernel
theorem dX0_goOnSpeaking_58 : decode cX0_goOnSpeaking 58 = .ok (.goto 57, 3) := by decide +kernel
theorem dX0_goOnSpeaking_61 : decode cX0_goOnSpeaking 61 = .ok (.aload 5, 2) := by decide +kernel
theorem dX0_goOnSpeaking_63 : decode cX0_goOnSpeaking 63 = .ok (.getfield 172, 3) := by decide +kernel
theorem dX0_goOnSpeaking_66 : decode cX0_goOnSpeaking 66 = .ok (.bipush 10, 2) := by decide +kernel
theorem dX0_goOnSpeaking_68 : decode cX0_goOnSpeaking 68 = .ok (.if_icmp .ge 17, 3) := by decide +kernel
theorem dX0_goOnSpeaking_71 : decode cX0_goOnSpeaking 71 = .ok (.aload 5, 2) := by decide +kernel
theorem dX0_goOnSpeaking_73 : decode cX0_goOnSpeaking 73 = .ok (.dup, 1) := by decide +kernel
theorem dX0_goOnSpeaking_74 : decode cX0_goOnSpeaking 74 = .ok (.getfield 172, 3) := by decide +kernel
theorem dX0_goOnSpeaking_77 : decode cX0_goOnSpeaking 77 = .ok (.iconst 1, 1) := by decide +kernel
theorem dX0_goOnSpeaking_78 : decode cX0_goOnSpeaking 78 = .ok (.iadd, 1) := by decide +kernel
theorem dX0_goOnSpeaking_79 : decode cX0_goOnSpeaking 79 = .ok (.putfield 172, 3) := by decide +kernel
theorem dX0_goOnSpeaking_82 : decode cX0_goOnSpeaking 82 = .ok (.goto 33, 3) := by decide +kernel
theorem dX0_goOnSpeaking_85 : decode cX0_goOnSpeaking 85 = .ok (.aload 5, 2) := by decide +kernel
theorem dX0_goOnSpeaking_87 : decode cX0_goOnSpeaking 87 = .ok (.getfield 175, 3) := by decide +kernel
theorem dX0_goOnSpeaking_90 : decode cX0_goOnSpeaking 90 = .ok (.iload_n 2, 1) := by decide +kernel
theorem dX0_goOnSpeaking_91 : decode cX0_goOnSpeaking 91 = .ok (.iconst (-1), 1) := by decide +kernel
theorem dX0_goOnSpeaking_92 : decode cX0_goOnSpeaking 92 = .ok (.ixor, 1) := by decide +kernel
theorem dX0_goOnSpeaking_93 : decode cX0_goOnSpeaking 93 = .ok (.iand, 1) := by decide +kernel
theorem dX0_goOnSpeaking_94 : decode cX0_goOnSpeaking 94 = .ok (.ifCond .ne 15, 3) := by decide +kernel
theorem dX0_goOnSpeaking_97 : decode cX0_goOnSpeaking 97 = .ok (.aload_n 0, 1) := by decide +kernel
theorem dX0_goOnSpeaking_98 : decode cX0_goOnSpeaking 98 = .ok (.aload 5, 2) := by decide +kernel
theorem dX0_goOnSpeaking_100 : decode cX0_goOnSpeaking 100 = .ok (.invokevirtual 178, 3) := by decide +kernel
theorem dX0_goOnSpeaking_103 : decode cX0_goOnSpeaking 103 = .ok (.iinc 3 1, 3) := by decide +kernel
theorem dX0_goOnSpeaking_106 : decode cX0_goOnSpeaking 106 = .ok (.goto 9, 3) := by decide +kernel
theorem dX0_goOnSpeaking_109 : decode cX0_goOnSpeaking 109 = .ok (.aload_n 0, 1) := by decide +kernel
theorem dX0_goOnSpeaking_110 : decode cX0_goOnSpeaking 110 = .ok (.aload 5, 2) := by decide +kernel
theorem dX0_goOnSpeaking_112 : decode cX0_goOnSpeaking 112 = .ok (.invokevirtual 125, 3) := by decide +kernel
theorem dX0_goOnSpeaking_115 : decode cX0_goOnSpeaking 115 = .ok (.iinc 4 1, 3) := by decide +kernel
theorem dX0_goOnSpeaking_118 : decode cX0_goOnSpeaking 118 = .ok (.goto (-113), 3) := by decide +kernel
theorem dX0_goOnSpeaking_121 : decode cX0_goOnSpeaking 121 = .ok (.iload_n 3, 1) := by decide +kernel
theorem dX0_goOnSpeaking_122 : decode cX0_goOnSpeaking 122 = .ok (.ireturn, 1) := by decide +kernel
theorem dX0_beHeard_0 : decode cX0_beHeard 0 = .ok (.aload_n 1, 1) := by decide +kernel
theorem dX0_beHeard_1 : decode cX0_beHeard 1 = .ok (.getfield 91, 3) := by decide +kernel
theorem dX0_beHeard_4 : decode cX0_beHeard 4 = .ok (.iconst 0, 1) := by decide +kernel
theorem dX0_beHeard_5 : decode cX0_beHeard 5 = .ok (.invokevirtual 104, 3) := by decide +kernel
theorem dX0_beHeard_8 : decode cX0_beHeard 8 = .ok (.istore_n 2, 1) := by decide +kernel
theorem dX0_beHeard_9 : decode cX0_beHeard 9 = .ok (.aload_n 1, 1) := by decide +kernel
theorem dX0_beHeard_10 : decode cX0_beHeard 10 = .ok (.getfield 91, 3) := by decide +kernel
theorem dX0_beHeard_13 : decode cX0_beHeard 13 = .ok (.iconst 0, 1) := by decide +kernel
theorem dX0_beHeard_14 : decode cX0_beHeard 14 = .ok (.invokevirtual 154, 3) := by decide +kernel
theorem dX0_beHeard_17 : decode cX0_beHeard 17 = .ok (.istore_n 3, 1) := by decide +kernel
theorem dX0_beHeard_18 : decode cX0_beHeard 18 = .ok (.aload_n 1, 1) := by decide +kernel
theorem dX0_beHeard_19 : decode cX0_beHeard 19 = .ok (.getfield 175, 3) := by decide +kernel
theorem dX0_beHeard_22 : decode cX0_beHeard 22 = .ok (.iconst 1, 1) := by decide +kernel
theorem dX0_beHeard_23 : decode cX0_beHeard 23 = .ok (.aload_n 1, 1) := by decide +kernel
theorem dX0_beHeard_24 : decode cX0_beHeard 24 = .ok (.getfield 181, 3) := by decide +kernel
theorem dX0_beHeard_27 : decode cX0_beHeard 27 = .ok (.ishl, 1) := by decide +kernel
theorem dX0_beHeard_28 : decode cX0_beHeard 28 = .ok (.iconst (-1), 1) := by decide +kernel
theorem dX0_beHeard_29 : decode cX0_beHeard 29 = .ok (.ixor, 1) := by decide +kernel
theorem dX0_beHeard_30 : decode cX0_beHeard 30 = .ok (.iand, 1) := by decide +kernel
theorem dX0_beHeard_31 : decode cX0_beHeard 31 = .ok (.istore 4, 2) := by decide +kernel
theorem dX0_beHeard_33 : decode cX0_beHeard 33 = .ok (.iconst 0, 1) := by decide +kernel
theorem dX0_beHeard_34 : decode cX0_beHeard 34 = .ok (.istore 5, 2) := by decide +kernel
theorem dX0_beHeard_36 : decode cX0_beHeard 36 = .ok (.iload 5, 2) := by decide +kernel
theorem dX0_beHeard_38 : decode cX0_beHeard 38 = .ok (.aload_n 0, 1) := by decide +kernel
theorem dX0_beHeard_39 : decode cX0_beHeard 39 = .ok (.getfield 49, 3) := by decide +kernel
theorem dX0_beHeard_42 : decode cX0_beHeard 42 = .ok (.if_icmp .ge 61, 3) := by decide +kernel
theorem dX0_beHeard_45 : decode cX0_beHeard 45 = .ok (.iload 4, 2) := by decide +kernel
theorem dX0_beHeard_47 : decode cX0_beHeard 47 = .ok (.iload 5, 2) := by decide +kernel
theorem dX0_beHeard_49 : decode cX0_beHeard 49 = .ok (.ishr, 1) := by decide +kernel
theorem dX0_beHeard_50 : decode cX0_beHeard 50 = .ok (.iconst 1, 1) := by decide +kernel
theorem dX0_beHeard_51 : decode cX0_beHeard 51 = .ok (.iand, 1) := by decide +kernel
theorem dX0_beHeard_52 : decode cX0_beHeard 52 = .ok (.ifCond .ne 6, 3) := by decide +kernel
theorem dX0_beHeard_55 : decode cX0_beHeard 55 = .ok (.goto 42, 3) := by decide +kernel
theorem dX0_beHeard_58 : decode cX0_beHeard 58 = .ok (.aload_n 0, 1) := by decide +kernel
theorem dX0_beHeard_59 : decode cX0_beHeard 59 = .ok (.getfield 34, 3) := by decide +kernel
theorem dX0_beHeard_62 : decode cX0_beHeard 62 = .ok (.iload 5, 2) := by decide +kernel
theorem dX0_beHeard_64 : decode cX0_beHeard 64 = .ok (.aaload, 1) := by decide +kernel
theorem dX0_beHeard_65 : decode cX0_beHeard 65 = .ok (.getfield 184, 3) := by decide +kernel
theorem dX0_beHeard_68 : decode cX0_beHeard 68 = .ok (.iload_n 2, 1) := by decide +kernel
theorem dX0_beHeard_69 : decode cX0_beHeard 69 = .ok (.aload_n 1, 1) := by decide +kernel
theorem dX0_beHeard_70 : decode cX0_beHeard 70 = .ok (.getfield 181, 3) := by decide +kernel
theorem dX0_beHeard_73 : decode cX0_beHeard 73 = .ok (.iload_n 3, 1) := by decide +kernel
theorem dX0_beHeard_74 : decode cX0_beHeard 74 = .ok (.aload_n 0, 1) := by decide +kernel
theorem dX0_beHeard_75 : decode cX0_beHeard 75 = .ok (.getfield 56, 3) := by decide +kernel
theorem dX0_beHeard_78 : decode cX0_beHeard 78 = .ok (.invokevirtual 188, 3) := by decide +kernel
theorem dX0_beHeard_81 : decode cX0_beHeard 81 = .ok (.aload_n 0, 1) := by decide +kernel
theorem dX0_beHeard_82 : decode cX0_beHeard 82 = .ok (.getfield 34, 3) := by decide +kernel
theorem dX0_beHeard_85 : decode cX0_beHeard 85 = .ok (.iload 5, 2) := by decide +kernel
theorem dX0_beHeard_87 : decode cX0_beHeard 87 = .ok (.aaload, 1) := by decide +kernel
theorem dX0_beHeard_88 : decode cX0_beHeard 88 = .ok (.dup, 1) := by decide +kernel
theorem dX0_beHeard_89 : decode cX0_beHeard 89 = .ok (.getfield 193, 3) := by decide +kernel
theorem dX0_beHeard_92 : decode cX0_beHeard 92 = .ok (.iconst 1, 1) := by decide +kernel
theorem dX0_beHeard_93 : decode cX0_beHeard 93 = .ok (.iadd, 1) := by decide +kernel
theorem dX0_beHeard_94 : decode cX0_beHeard 94 = .ok (.putfield 193, 3) := by decide +kernel
theorem dX0_beHeard_97 : decode cX0_beHeard 97 = .ok (.iinc 5 1, 3) := by decide +kernel
theorem dX0_beHeard_100 : decode cX0_beHeard 100 = .ok (.goto (-64), 3) := by decide +kernel
theorem dX0_beHeard_103 : decode cX0_beHeard 103 = .ok (.aload_n 1, 1) := by decide +kernel
theorem dX0_beHeard_104 : decode cX0_beHeard 104 = .ok (.dup, 1) := by decide +kernel
theorem dX0_beHeard_105 : decode cX0_beHeard 105 = .ok (.getfield 196, 3) := by decide +kernel
theorem dX0_beHeard_108 : decode cX0_beHeard 108 = .ok (.iconst 1, 1) := by decide +kernel
theorem dX0_beHeard_109 : decode cX0_beHeard 109 = .ok (.iadd, 1) := by decide +kernel
theorem dX0_beHeard_110 : decode cX0_beHeard 110 = .ok (.putfield 196, 3) := by decide +kernel
theorem dX0_beHeard_113 : decode cX0_beHeard 113 = .ok (.iload_n 3, 1) := by decide +kernel
theorem dX0_beHeard_114 : decode cX0_beHeard 114 = .ok (.invokestatic 84, 3) := by decide +kernel
theorem dX0_beHeard_117 : decode cX0_beHeard 117 = .ok (.ifCond .eq 13, 3) := by decide +kernel
theorem dX0_beHeard_120 : decode cX0_beHeard 120 = .ok (.aload_n 0, 1) := by decide +kernel
theorem dX0_beHeard_121 : decode cX0_beHeard 121 = .ok (.getfield 26, 3) := by decide +kernel
theorem dX0_beHeard_124 : decode cX0_beHeard 124 = .ok (.iload_n 3, 1) := by decide +kernel
theorem dX0_beHeard_125 : decode cX0_beHeard 125 = .ok (.dup2, 1) := by decide +kernel
theorem dX0_beHeard_126 : decode cX0_beHeard 126 = .ok (.iaload, 1) := by decide +kernel
theorem dX0_beHeard_127 : decode cX0_beHeard 127 = .ok (.iconst 1, 1) := by decide +kernel
theorem dX0_beHeard_128 : decode cX0_beHeard 128 = .ok (.iadd, 1) := by decide +kernel
theorem dX0_beHeard_129 : decode cX0_beHeard 129 = .ok (.iastore, 1) := by decide +kernel
theorem dX0_beHeard_130 : decode cX0_beHeard 130 = .ok (.aload_n 1, 1) := by decide +kernel
theorem dX0_beHeard_131 : decode cX0_beHeard 131 = .ok (.getfield 91, 3) := by decide +kernel
theorem dX0_beHeard_134 : decode cX0_beHeard 134 = .ok (.invokevirtual 108, 3) := by decide +kernel
theorem dX0_beHeard_137 : decode cX0_beHeard 137 = .ok (.aload_n 1, 1) := by decide +kernel
theorem dX0_beHeard_138 : decode cX0_beHeard 138 = .ok (.invokevirtual 111, 3) := by decide +kernel
theorem dX0_beHeard_141 : decode cX0_beHeard 141 = .ok (.return_, 1) := by decide +kernel
theorem dX0_giveUp_0 : decode cX0_giveUp 0 = .ok (.aload_n 1, 1) := by decide +kernel
theorem dX0_giveUp_1 : decode cX0_giveUp 1 = .ok (.getfield 91, 3) := by decide +kernel
theorem dX0_giveUp_4 : decode cX0_giveUp 4 = .ok (.iconst 0, 1) := by decide +kernel
theorem dX0_giveUp_5 : decode cX0_giveUp 5 = .ok (.invokevirtual 154, 3) := by decide +kernel
theorem dX0_giveUp_8 : decode cX0_giveUp 8 = .ok (.istore_n 2, 1) := by decide +kernel
theorem dX0_giveUp_9 : decode cX0_giveUp 9 = .ok (.aload_n 1, 1) := by decide +kernel
theorem dX0_giveUp_10 : decode cX0_giveUp 10 = .ok (.invokevirtual 111, 3) := by decide +kernel
theorem dX0_giveUp_13 : decode cX0_giveUp 13 = .ok (.aload_n 1, 1) := by decide +kernel
theorem dX0_giveUp_14 : decode cX0_giveUp 14 = .ok (.dup, 1) := by decide +kernel
theorem dX0_giveUp_15 : decode cX0_giveUp 15 = .ok (.getfield 199, 3) := by decide +kernel
theorem dX0_giveUp_18 : decode cX0_giveUp 18 = .ok (.iconst 1, 1) := by decide +kernel
theorem dX0_giveUp_19 : decode cX0_giveUp 19 = .ok (.iadd, 1) := by decide +kernel
theorem dX0_giveUp_20 : decode cX0_giveUp 20 = .ok (.putfield 199, 3) := by decide +kernel
theorem dX0_giveUp_23 : decode cX0_giveUp 23 = .ok (.aload_n 1, 1) := by decide +kernel
theorem dX0_giveUp_24 : decode cX0_giveUp 24 = .ok (.getfield 91, 3) := by decide +kernel
theorem dX0_giveUp_27 : decode cX0_giveUp 27 = .ok (.invokevirtual 202, 3) := by decide +kernel
theorem dX0_giveUp_30 : decode cX0_giveUp 30 = .ok (.aload_n 0, 1) := by decide +kernel
theorem dX0_giveUp_31 : decode cX0_giveUp 31 = .ok (.getfield 18, 3) := by decide +kernel
theorem dX0_giveUp_34 : decode cX0_giveUp 34 = .ok (.iconst 4, 1) := by decide +kernel
theorem dX0_giveUp_35 : decode cX0_giveUp 35 = .ok (.iaload, 1) := by decide +kernel
theorem dX0_giveUp_36 : decode cX0_giveUp 36 = .ok (.if_icmp .ge 4, 3) := by decide +kernel
theorem dX0_giveUp_39 : decode cX0_giveUp 39 = .ok (.return_, 1) := by decide +kernel
theorem dX0_giveUp_40 : decode cX0_giveUp 40 = .ok (.aload_n 1, 1) := by decide +kernel
theorem dX0_giveUp_41 : decode cX0_giveUp 41 = .ok (.getfield 91, 3) := by decide +kernel
theorem dX0_giveUp_44 : decode cX0_giveUp 44 = .ok (.invokevirtual 108, 3) := by decide +kernel
theorem dX0_giveUp_47 : decode cX0_giveUp 47 = .ok (.aload_n 1, 1) := by decide +kernel
theorem dX0_giveUp_48 : decode cX0_giveUp 48 = .ok (.dup, 1) := by decide +kernel
theorem dX0_giveUp_49 : decode cX0_giveUp 49 = .ok (.getfield 205, 3) := by decide +kernel
theorem dX0_giveUp_52 : decode cX0_giveUp 52 = .ok (.iconst 1, 1) := by decide +kernel
theorem dX0_giveUp_53 : decode cX0_giveUp 53 = .ok (.iadd, 1) := by decide +kernel
theorem dX0_giveUp_54 : decode cX0_giveUp 54 = .ok (.putfield 205, 3) := by decide +kernel
theorem dX0_giveUp_57 : decode cX0_giveUp 57 = .ok (.iload_n 2, 1) := by decide +kernel
theorem dX0_giveUp_58 : decode cX0_giveUp 58 = .ok (.invokestatic 84, 3) := by decide +kernel
theorem dX0_giveUp_61 : decode cX0_giveUp 61 = .ok (.ifCond .eq 13, 3) := by decide +kernel
theorem dX0_giveUp_64 : decode cX0_giveUp 64 = .ok (.aload_n 0, 1) := by decide +kernel
theorem dX0_giveUp_65 : decode cX0_giveUp 65 = .ok (.getfield 29, 3) := by decide +kernel
theorem dX0_giveUp_68 : decode cX0_giveUp 68 = .ok (.iload_n 2, 1) := by decide +kernel
theorem dX0_giveUp_69 : decode cX0_giveUp 69 = .ok (.dup2, 1) := by decide +kernel
theorem dX0_giveUp_70 : decode cX0_giveUp 70 = .ok (.iaload, 1) := by decide +kernel
theorem dX0_giveUp_71 : decode cX0_giveUp 71 = .ok (.iconst 1, 1) := by decide +kernel
theorem dX0_giveUp_72 : decode cX0_giveUp 72 = .ok (.iadd, 1) := by decide +kernel
theorem dX0_giveUp_73 : decode cX0_giveUp 73 = .ok (.iastore, 1) := by decide +kernel
theorem dX0_giveUp_74 : decode cX0_giveUp 74 = .ok (.return_, 1) := by decide +kernel
theorem dX0_changeCharges_0 : decode cX0_changeCharges 0 = .ok (.aload_n 0, 1) := by decide +kernel
theorem dX0_changeCharges_1 : decode cX0_changeCharges 1 = .ok (.getfield 18, 3) := by decide +kernel
theorem dX0_changeCharges_4 : decode cX0_changeCharges 4 = .ok (.iconst 1, 1) := by decide +kernel
theorem dX0_changeCharges_5 : decode cX0_changeCharges 5 = .ok (.iaload, 1) := by decide +kernel
theorem dX0_changeCharges_6 : decode cX0_changeCharges 6 = .ok (.istore_n 2, 1) := by decide +kernel
theorem dX0_changeCharges_7 : decode cX0_changeCharges 7 = .ok (.iconst 0, 1) := by decide +kernel
theorem dX0_changeCharges_8 : decode cX0_changeCharges 8 = .ok (.istore_n 3, 1) := by decide +kernel
theorem dX0_changeCharges_9 : decode cX0_changeCharges 9 = .ok (.iload_n 3, 1) := by decide +kernel
theorem dX0_changeCharges_10 : decode cX0_changeCharges 10 = .ok (.aload_n 0, 1) := by decide +kernel
theorem dX0_changeCharges_11 : decode cX0_changeCharges 11 = .ok (.getfield 49, 3) := by decide +kernel
theorem dX0_changeCharges_14 : decode cX0_changeCharges 14 = .ok (.if_icmp .ge 138, 3) := by decide +kernel
theorem dX0_changeCharges_17 : decode cX0_changeCharges 17 = .ok (.aload_n 0, 1) := by decide +kernel
theorem dX0_changeCharges_18 : decode cX0_changeCharges 18 = .ok (.getfield 34, 3) := by decide +kernel
theorem dX0_changeCharges_21 : decode cX0_changeCharges 21 = .ok (.iload_n 3, 1) := by decide +kernel
theorem dX0_changeCharges_22 : decode cX0_changeCharges 22 = .ok (.aaload, 1) := by decide +kernel
theorem dX0_changeCharges_23 : decode cX0_changeCharges 23 = .ok (.astore 4, 2) := by decide +kernel
theorem dX0_changeCharges_25 : decode cX0_changeCharges 25 = .ok (.aload 4, 2) := by decide +kernel
theorem dX0_changeCharges_27 : decode cX0_changeCharges 27 = .ok (.invokevirtual 151, 3) := by decide +kernel
theorem dX0_changeCharges_30 : decode cX0_changeCharges 30 = .ok (.ifCond .eq 12, 3) := by decide +kernel
theorem dX0_changeCharges_33 : decode cX0_changeCharges 33 = .ok (.aload_n 0, 1) := by decide +kernel
theorem dX0_changeCharges_34 : decode cX0_changeCharges 34 = .ok (.getfield 18, 3) := by decide +kernel
theorem dX0_changeCharges_37 : decode cX0_changeCharges 37 = .ok (.iconst 2, 1) := by decide +kernel
theorem dX0_changeCharges_38 : decode cX0_changeCharges 38 = .ok (.iaload, 1) := by decide +kernel
theorem dX0_changeCharges_39 : decode cX0_changeCharges 39 = .ok (.goto 4, 3) := by decide +kernel
theorem dX0_changeCharges_42 : decode cX0_changeCharges 42 = .ok (.iconst 0, 1) := by decide +kernel
theorem dX0_changeCharges_43 : decode cX0_changeCharges 43 = .ok (.istore 5, 2) := by decide +kernel
theorem dX0_changeCharges_45 : decode cX0_changeCharges 45 = .ok (.aload 4, 2) := by decide +kernel
theorem dX0_changeCharges_47 : decode cX0_changeCharges 47 = .ok (.getfield 68, 3) := by decide +kernel
theorem dX0_changeCharges_50 : decode cX0_changeCharges 50 = .ok (.aload_n 0, 1) := by decide +kernel
theorem dX0_changeCharges_51 : decode cX0_changeCharges 51 = .ok (.getfield 18, 3) := by decide +kernel
theorem dX0_changeCharges_54 : decode cX0_changeCharges 54 = .ok (.iconst 3, 1) := by decide +kernel
theorem dX0_changeCharges_55 : decode cX0_changeCharges 55 = .ok (.iaload, 1) := by decide +kernel
theorem dX0_changeCharges_56 : decode cX0_changeCharges 56 = .ok (.aload 4, 2) := by decide +kernel
theorem dX0_changeCharges_58 : decode cX0_changeCharges 58 = .ok (.getfield 77, 3) := by decide +kernel
theorem dX0_changeCharges_61 : decode cX0_changeCharges 61 = .ok (.iload_n 1, 1) := by decide +kernel
theorem dX0_changeCharges_62 : decode cX0_changeCharges 62 = .ok (.iand, 1) := by decide +kernel
theorem dX0_changeCharges_63 : decode cX0_changeCharges 63 = .ok (.invokestatic 208, 3) := by decide +kernel
theorem dX0_changeCharges_66 : decode cX0_changeCharges 66 = .ok (.imul, 1) := by decide +kernel
theorem dX0_changeCharges_67 : decode cX0_changeCharges 67 = .ok (.iadd, 1) := by decide +kernel
theorem dX0_changeCharges_68 : decode cX0_changeCharges 68 = .ok (.iload 5, 2) := by decide +kernel
theorem dX0_changeCharges_70 : decode cX0_changeCharges 70 = .ok (.isub, 1) := by decide +kernel
theorem dX0_changeCharges_71 : decode cX0_changeCharges 71 = .ok (.istore 6, 2) := by decide +kernel
theorem dX0_changeCharges_73 : decode cX0_changeCharges 73 = .ok (.aload 4, 2) := by decide +kernel
theorem dX0_changeCharges_75 : decode cX0_changeCharges 75 = .ok (.iconst 0, 1) := by decide +kernel
theorem dX0_changeCharges_76 : decode cX0_changeCharges 76 = .ok (.iload 6, 2) := by decide +kernel
theorem dX0_changeCharges_78 : decode cX0_changeCharges 78 = .ok (.iload_n 2, 1) := by decide +kernel
theorem dX0_changeCharges_79 : decode cX0_changeCharges 79 = .ok (.invokestatic 71, 3) := by decide +kernel
theorem dX0_changeCharges_82 : decode cX0_changeCharges 82 = .ok (.invokestatic 213, 3) := by decide +kernel
theorem dX0_changeCharges_85 : decode cX0_changeCharges 85 = .ok (.putfield 68, 3) := by decide +kernel
theorem dX0_changeCharges_88 : decode cX0_changeCharges 88 = .ok (.iload 6, 2) := by decide +kernel
theorem dX0_changeCharges_90 : decode cX0_changeCharges 90 = .ok (.ifCond .ge 23, 3) := by decide +kernel
theorem dX0_changeCharges_93 : decode cX0_changeCharges 93 = .ok (.aload 4, 2) := by decide +kernel
theorem dX0_changeCharges_95 : decode cX0_changeCharges 95 = .ok (.iconst 1, 1) := by decide +kernel
theorem dX0_changeCharges_96 : decode cX0_changeCharges 96 = .ok (.putfield 216, 3) := by decide +kernel
theorem dX0_changeCharges_99 : decode cX0_changeCharges 99 = .ok (.aload 4, 2) := by decide +kernel
theorem dX0_changeCharges_101 : decode cX0_changeCharges 101 = .ok (.invokevirtual 121, 3) := by decide +kernel
theorem dX0_changeCharges_104 : decode cX0_changeCharges 104 = .ok (.ifCond .eq 9, 3) := by decide +kernel
theorem dX0_changeCharges_107 : decode cX0_changeCharges 107 = .ok (.aload_n 0, 1) := by decide +kernel
theorem dX0_changeCharges_108 : decode cX0_changeCharges 108 = .ok (.aload 4, 2) := by decide +kernel
theorem dX0_changeCharges_110 : decode cX0_changeCharges 110 = .ok (.invokevirtual 125, 3) := by decide +kernel
theorem dX0_changeCharges_113 : decode cX0_changeCharges 113 = .ok (.aload 4, 2) := by decide +kernel
theorem dX0_changeCharges_115 : decode cX0_changeCharges 115 = .ok (.getfield 216, 3) := by decide +kernel
theorem dX0_changeCharges_118 : decode cX0_changeCharges 118 = .ok (.ifCond .eq 28, 3) := by decide +kernel
theorem dX0_changeCharges_121 : decode cX0_changeCharges 121 = .ok (.aload 4, 2) := by decide +kernel
theorem dX0_changeCharges_123 : decode cX0_changeCharges 123 = .ok (.getfield 117, 3) := by decide +kernel
theorem dX0_changeCharges_126 : decode cX0_changeCharges 126 = .ok (.ifCond .ne 20, 3) := by decide +kernel
theorem dX0_changeCharges_129 : decode cX0_changeCharges 129 = .ok (.aload 4, 2) := by decide +kernel
theorem dX0_changeCharges_131 : decode cX0_changeCharges 131 = .ok (.getfield 68, 3) := by decide +kernel
theorem dX0_changeCharges_134 : decode cX0_changeCharges 134 = .ok (.iload_n 2, 1) := by decide +kernel
theorem dX0_changeCharges_135 : decode cX0_changeCharges 135 = .ok (.iconst 2, 1) := by decide +kernel
theorem dX0_changeCharges_136 : decode cX0_changeCharges 136 = .ok (.idiv, 1) := by decide +kernel
theorem dX0_changeCharges_137 : decode cX0_changeCharges 137 = .ok (.if_icmp .lt 9, 3) := by decide +kernel
theorem dX0_changeCharges_140 : decode cX0_changeCharges 140 = .ok (.aload 4, 2) := by decide +kernel
theorem dX0_changeCharges_142 : decode cX0_changeCharges 142 = .ok (.iconst 0, 1) := by decide +kernel
theorem dX0_changeCharges_143 : decode cX0_changeCharges 143 = .ok (.putfield 216, 3) := by decide +kernel
theorem dX0_changeCharges_146 : decode cX0_changeCharges 146 = .ok (.iinc 3 1, 3) := by decide +kernel
theorem dX0_changeCharges_149 : decode cX0_changeCharges 149 = .ok (.goto (-140), 3) := by decide +kernel
theorem dX0_changeCharges_152 : decode cX0_changeCharges 152 = .ok (.return_, 1) := by decide +kernel
theorem dX0_restWires_0 : decode cX0_restWires 0 = .ok (.iconst 0, 1) := by decide +kernel
theorem dX0_restWires_1 : decode cX0_restWires 1 = .ok (.istore_n 2, 1) := by decide +kernel
theorem dX0_restWires_2 : decode cX0_restWires 2 = .ok (.iload_n 2, 1) := by decide +kernel
theorem dX0_restWires_3 : decode cX0_restWires 3 = .ok (.bipush 6, 2) := by decide +kernel
theorem dX0_restWires_5 : decode cX0_restWires 5 = .ok (.if_icmp .ge 42, 3) := by decide +kernel
theorem dX0_restWires_8 : decode cX0_restWires 8 = .ok (.aload_n 0, 1) := by decide +kernel
theorem dX0_restWires_9 : decode cX0_restWires 9 = .ok (.getfield 23, 3) := by decide +kernel
theorem dX0_restWires_12 : decode cX0_restWires 12 = .ok (.iload_n 2, 1) := by decide +kernel
theorem dX0_restWires_13 : decode cX0_restWires 13 = .ok (.iload_n 1, 1) := by decide +kernel
theorem dX0_restWires_14 : decode cX0_restWires 14 = .ok (.iload_n 2, 1) := by decide +kernel
theorem dX0_restWires_15 : decode cX0_restWires 15 = .ok (.ishr, 1) := by decide +kernel
theorem dX0_restWires_16 : decode cX0_restWires 16 = .ok (.iconst 1, 1) := by decide +kernel
theorem dX0_restWires_17 : decode cX0_restWires 17 = .ok (.iand, 1) := by decide +kernel
theorem dX0_restWires_18 : decode cX0_restWires 18 = .ok (.iconst 1, 1) := by decide +kernel
theorem dX0_restWires_19 : decode cX0_restWires 19 = .ok (.if_icmp .ne 20, 3) := by decide +kernel
theorem dX0_restWires_22 : decode cX0_restWires 22 = .ok (.aload_n 0, 1) := by decide +kernel
theorem dX0_restWires_23 : decode cX0_restWires 23 = .ok (.getfield 23, 3) := by decide +kernel
theorem dX0_restWires_26 : decode cX0_restWires 26 = .ok (.iload_n 2, 1) := by decide +kernel
theorem dX0_restWires_27 : decode cX0_restWires 27 = .ok (.iaload, 1) := by decide +kernel
theorem dX0_restWires_28 : decode cX0_restWires 28 = .ok (.iconst 1, 1) := by decide +kernel
theorem dX0_restWires_29 : decode cX0_restWires 29 = .ok (.iadd, 1) := by decide +kernel
theorem dX0_restWires_30 : decode cX0_restWires 30 = .ok (.sipush 999, 3) := by decide +kernel
theorem dX0_restWires_33 : decode cX0_restWires 33 = .ok (.invokestatic 71, 3) := by decide +kernel
theorem dX0_restWires_36 : decode cX0_restWires 36 = .ok (.goto 4, 3) := by decide +kernel
theorem dX0_restWires_39 : decode cX0_restWires 39 = .ok (.iconst 0, 1) := by decide +kernel
theorem dX0_restWires_40 : decode cX0_restWires 40 = .ok (.iastore, 1) := by decide +kernel
theorem dX0_restWires_41 : decode cX0_restWires 41 = .ok (.iinc 2 1, 3) := by decide +kernel
theorem dX0_restWires_44 : decode cX0_restWires 44 = .ok (.goto (-42), 3) := by decide +kernel
theorem dX0_restWires_47 : decode cX0_restWires 47 = .ok (.return_, 1) := by decide +kernel
theorem dX0_isRested_0 : decode cX0_isRested 0 = .ok (.iload_n 1, 1) := by decide +kernel
theorem dX0_isRested_1 : decode cX0_isRested 1 = .ok (.invokestatic 84, 3) := by decide +kernel
theorem dX0_isRested_4 : decode cX0_isRested 4 = .ok (.ifCond .eq 22, 3) := by decide +kernel
theorem dX0_isRested_7 : decode cX0_isRested 7 = .ok (.aload_n 0, 1) := by decide +kernel
theorem dX0_isRested_8 : decode cX0_isRested 8 = .ok (.getfield 23, 3) := by decide +kernel
theorem dX0_isRested_11 : decode cX0_isRested 11 = .ok (.iload_n 1, 1) := by decide +kernel
theorem dX0_isRested_12 : decode cX0_isRested 12 = .ok (.iaload, 1) := by decide +kernel
theorem dX0_isRested_13 : decode cX0_isRested 13 = .ok (.aload_n 0, 1) := by decide +kernel
theorem dX0_isRested_14 : decode cX0_isRested 14 = .ok (.getfield 18, 3) := by decide +kernel
theorem dX0_isRested_17 : decode cX0_isRested 17 = .ok (.iconst 0, 1) := by decide +kernel
theorem dX0_isRested_18 : decode cX0_isRested 18 = .ok (.iaload, 1) := by decide +kernel
theorem dX0_isRested_19 : decode cX0_isRested 19 = .ok (.if_icmp .lt 7, 3) := by decide +kernel
theorem dX0_isRested_22 : decode cX0_isRested 22 = .ok (.iconst 1, 1) := by decide +kernel
theorem dX0_isRested_23 : decode cX0_isRested 23 = .ok (.goto 4, 3) := by decide +kernel
theorem dX0_isRested_26 : decode cX0_isRested 26 = .ok (.iconst 0, 1) := by decide +kernel
theorem dX0_isRested_27 : decode cX0_isRested 27 = .ok (.ireturn, 1) := by decide +kernel
theorem dX0_hasFault_0 : decode cX0_hasFault 0 = .ok (.iload_n 1, 1) := by decide +kernel
theorem dX0_hasFault_1 : decode cX0_hasFault 1 = .ok (.invokestatic 84, 3) := by decide +kernel
theorem dX0_hasFault_4 : decode cX0_hasFault 4 = .ok (.ifCond .eq 19, 3) := by decide +kernel
theorem dX0_hasFault_7 : decode cX0_hasFault 7 = .ok (.aload_n 0, 1) := by decide +kernel
theorem dX0_hasFault_8 : decode cX0_hasFault 8 = .ok (.getfield 53, 3) := by decide +kernel
theorem dX0_hasFault_11 : decode cX0_hasFault 11 = .ok (.iload_n 1, 1) := by decide +kernel
theorem dX0_hasFault_12 : decode cX0_hasFault 12 = .ok (.ishr, 1) := by decide +kernel
theorem dX0_hasFault_13 : decode cX0_hasFault 13 = .ok (.iconst 1, 1) := by decide +kernel
theorem dX0_hasFault_14 : decode cX0_hasFault 14 = .ok (.iand, 1) := by decide +kernel
theorem dX0_hasFault_15 : decode cX0_hasFault 15 = .ok (.iconst 1, 1) := by decide +kernel
theorem dX0_hasFault_16 : decode cX0_hasFault 16 = .ok (.if_icmp .ne 7, 3) := by decide +kernel
theorem dX0_hasFault_19 : decode cX0_hasFault 19 = .ok (.iconst 1, 1) := by decide +kernel
theorem dX0_hasFault_20 : decode cX0_hasFault 20 = .ok (.goto 4, 3) := by decide +kernel
theorem dX0_hasFault_23 : decode cX0_hasFault 23 = .ok (.iconst 0, 1) := by decide +kernel
theorem dX0_hasFault_24 : decode cX0_hasFault 24 = .ok (.ireturn, 1) := by decide +kernel
theorem dX0_stationsAt_0 : decode cX0_stationsAt 0 = .ok (.iconst 0, 1) := by decide +kernel
theorem dX0_stationsAt_1 : decode cX0_stationsAt 1 = .ok (.istore_n 2, 1) := by decide +kernel
theorem dX0_stationsAt_2 : decode cX0_stationsAt 2 = .ok (.iconst 0, 1) := by decide +kernel
theorem dX0_stationsAt_3 : decode cX0_stationsAt 3 = .ok (.istore_n 3, 1) := by decide +kernel
theorem dX0_stationsAt_4 : decode cX0_stationsAt 4 = .ok (.iload_n 3, 1) := by decide +kernel
theorem dX0_stationsAt_5 : decode cX0_stationsAt 5 = .ok (.aload_n 0, 1) := by decide +kernel
theorem dX0_stationsAt_6 : decode cX0_stationsAt 6 = .ok (.getfield 49, 3) := by decide +kernel
theorem dX0_stationsAt_9 : decode cX0_stationsAt 9 = .ok (.if_icmp .ge 28, 3) := by decide +kernel
theorem dX0_stationsAt_12 : decode cX0_stationsAt 12 = .ok (.aload_n 0, 1) := by decide +kernel
theorem dX0_stationsAt_13 : decode cX0_stationsAt 13 = .ok (.getfield 34, 3) := by decide +kernel
theorem dX0_stationsAt_16 : decode cX0_stationsAt 16 = .ok (.iload_n 3, 1) := by decide +kernel
theorem dX0_stationsAt_17 : decode cX0_stationsAt 17 = .ok (.aaload, 1) := by decide +kernel
theorem dX0_stationsAt_18 : decode cX0_stationsAt 18 = .ok (.iload_n 1, 1) := by decide +kernel
theorem dX0_stationsAt_19 : decode cX0_stationsAt 19 = .ok (.invokevirtual 88, 3) := by decide +kernel
theorem dX0_stationsAt_22 : decode cX0_stationsAt 22 = .ok (.ifCond .eq 9, 3) := by decide +kernel
theorem dX0_stationsAt_25 : decode cX0_stationsAt 25 = .ok (.iload_n 2, 1) := by decide +kernel
theorem dX0_stationsAt_26 : decode cX0_stationsAt 26 = .ok (.iconst 1, 1) := by decide +kernel
theorem dX0_stationsAt_27 : decode cX0_stationsAt 27 = .ok (.iload_n 3, 1) := by decide +kernel
theorem dX0_stationsAt_28 : decode cX0_stationsAt 28 = .ok (.ishl, 1) := by decide +kernel
theorem dX0_stationsAt_29 : decode cX0_stationsAt 29 = .ok (.ior, 1) := by decide +kernel
theorem dX0_stationsAt_30 : decode cX0_stationsAt 30 = .ok (.istore_n 2, 1) := by decide +kernel
theorem dX0_stationsAt_31 : decode cX0_stationsAt 31 = .ok (.iinc 3 1, 3) := by decide +kernel
theorem dX0_stationsAt_34 : decode cX0_stationsAt 34 = .ok (.goto (-30), 3) := by decide +kernel
theorem dX0_stationsAt_37 : decode cX0_stationsAt 37 = .ok (.iload_n 2, 1) := by decide +kernel
theorem dX0_stationsAt_38 : decode cX0_stationsAt 38 = .ok (.ireturn, 1) := by decide +kernel
theorem dX0_speakersOn_0 : decode cX0_speakersOn 0 = .ok (.iconst 0, 1) := by decide +kernel
theorem dX0_speakersOn_1 : decode cX0_speakersOn 1 = .ok (.istore_n 2, 1) := by decide +kernel
theorem dX0_speakersOn_2 : decode cX0_speakersOn 2 = .ok (.iconst 0, 1) := by decide +kernel
theorem dX0_speakersOn_3 : decode cX0_speakersOn 3 = .ok (.istore_n 3, 1) := by decide +kernel
theorem dX0_speakersOn_4 : decode cX0_speakersOn 4 = .ok (.iload_n 3, 1) := by decide +kernel
theorem dX0_speakersOn_5 : decode cX0_speakersOn 5 = .ok (.aload_n 0, 1) := by decide +kernel
theorem dX0_speakersOn_6 : decode cX0_speakersOn 6 = .ok (.getfield 49, 3) := by decide +kernel
theorem dX0_speakersOn_9 : decode cX0_speakersOn 9 = .ok (.if_icmp .ge 29, 3) := by decide +kernel
theorem dX0_speakersOn_12 : decode cX0_speakersOn 12 = .ok (.aload_n 0, 1) := by decide +kernel
theorem dX0_speakersOn_13 : decode cX0_speakersOn 13 = .ok (.getfield 34, 3) := by decide +kernel
theorem dX0_speakersOn_16 : decode cX0_speakersOn 16 = .ok (.iload_n 3, 1) := by decide +kernel
theorem dX0_speakersOn_17 : decode cX0_speakersOn 17 = .ok (.aaload, 1) := by decide +kernel
theorem dX0_speakersOn_18 : decode cX0_speakersOn 18 = .ok (.getfield 169, 3) := by decide +kernel
theorem dX0_speakersOn_21 : decode cX0_speakersOn 21 = .ok (.iload_n 1, 1) := by decide +kernel
theorem dX0_speakersOn_22 : decode cX0_speakersOn 22 = .ok (.iand, 1) := by decide +kernel
theorem dX0_speakersOn_23 : decode cX0_speakersOn 23 = .ok (.ifCond .eq 9, 3) := by decide +kernel
theorem dX0_speakersOn_26 : decode cX0_speakersOn 26 = .ok (.iload_n 2, 1) := by decide +kernel
theorem dX0_speakersOn_27 : decode cX0_speakersOn 27 = .ok (.iconst 1, 1) := by decide +kernel
theorem dX0_speakersOn_28 : decode cX0_speakersOn 28 = .ok (.iload_n 3, 1) := by decide +kernel
theorem dX0_speakersOn_29 : decode cX0_speakersOn 29 = .ok (.ishl, 1) := by decide +kernel
theorem dX0_speakersOn_30 : decode cX0_speakersOn 30 = .ok (.ior, 1) := by decide +kernel
theorem dX0_speakersOn_31 : decode cX0_speakersOn 31 = .ok (.istore_n 2, 1) := by decide +kernel
theorem dX0_speakersOn_32 : decode cX0_speakersOn 32 = .ok (.iinc 3 1, 3) := by decide +kernel
theorem dX0_speakersOn_35 : decode cX0_speakersOn 35 = .ok (.goto (-31), 3) := by decide +kernel
theorem dX0_speakersOn_38 : decode cX0_speakersOn 38 = .ok (.iload_n 2, 1) := by decide +kernel
theorem dX0_speakersOn_39 : decode cX0_speakersOn 39 = .ok (.ireturn, 1) := by decide +kernel
theorem dX0_awakeStations_0 : decode cX0_awakeStations 0 = .ok (.iconst 0, 1) := by decide +kernel
theorem dX0_awakeStations_1 : decode cX0_awakeStations 1 = .ok (.istore_n 1, 1) := by decide +kernel
theorem dX0_awakeStations_2 : decode cX0_awakeStations 2 = .ok (.iconst 0, 1) := by decide +kernel
theorem dX0_awakeStations_3 : decode cX0_awakeStations 3 = .ok (.istore_n 2, 1) := by decide +kernel
theorem dX0_awakeStations_4 : decode cX0_awakeStations 4 = .ok (.iload_n 2, 1) := by decide +kernel
theorem dX0_awakeStations_5 : decode cX0_awakeStations 5 = .ok (.aload_n 0, 1) := by decide +kernel
theorem dX0_awakeStations_6 : decode cX0_awakeStations 6 = .ok (.getfield 49, 3) := by decide +kernel
theorem dX0_awakeStations_9 : decode cX0_awakeStations 9 = .ok (.if_icmp .ge 27, 3) := by decide +kernel
theorem dX0_awakeStations_12 : decode cX0_awakeStations 12 = .ok (.aload_n 0, 1) := by decide +kernel
theorem dX0_awakeStations_13 : decode cX0_awakeStations 13 = .ok (.getfield 34, 3) := by decide +kernel
theorem dX0_awakeStations_16 : decode cX0_awakeStations 16 = .ok (.iload_n 2, 1) := by decide +kernel
theorem dX0_awakeStations_17 : decode cX0_awakeStations 17 = .ok (.aaload, 1) := by decide +kernel
theorem dX0_awakeStations_18 : decode cX0_awakeStations 18 = .ok (.invokevirtual 151, 3) := by decide +kernel
theorem dX0_awakeStations_21 : decode cX0_awakeStations 21 = .ok (.ifCond .eq 9, 3) := by decide +kernel
theorem dX0_awakeStations_24 : decode cX0_awakeStations 24 = .ok (.iload_n 1, 1) := by decide +kernel
theorem dX0_awakeStations_25 : decode cX0_awakeStations 25 = .ok (.iconst 1, 1) := by decide +kernel
theorem dX0_awakeStations_26 : decode cX0_awakeStations 26 = .ok (.iload_n 2, 1) := by decide +kernel
theorem dX0_awakeStations_27 : decode cX0_awakeStations 27 = .ok (.ishl, 1) := by decide +kernel
theorem dX0_awakeStations_28 : decode cX0_awakeStations 28 = .ok (.ior, 1) := by decide +kernel
theorem dX0_awakeStations_29 : decode cX0_awakeStations 29 = .ok (.istore_n 1, 1) := by decide +kernel
theorem dX0_awakeStations_30 : decode cX0_awakeStations 30 = .ok (.iinc 2 1, 3) := by decide +kernel
theorem dX0_awakeStations_33 : decode cX0_awakeStations 33 = .ok (.goto (-29), 3) := by decide +kernel
theorem dX0_awakeStations_36 : decode cX0_awakeStations 36 = .ok (.iload_n 1, 1) := by decide +kernel
theorem dX0_awakeStations_37 : decode cX0_awakeStations 37 = .ok (.ireturn, 1) := by decide +kernel
theorem dX0_hasWords_0 : decode cX0_hasWords 0 = .ok (.iconst 0, 1) := by decide +kernel
theorem dX0_hasWords_1 : decode cX0_hasWords 1 = .ok (.istore_n 1, 1) := by decide +kernel
theorem dX0_hasWords_2 : decode cX0_hasWords 2 = .ok (.iload_n 1, 1) := by decide +kernel
theorem dX0_hasWords_3 : decode cX0_hasWords 3 = .ok (.aload_n 0, 1) := by decide +kernel
theorem dX0_hasWords_4 : decode cX0_hasWords 4 = .ok (.getfield 49, 3) := by decide +kernel
theorem dX0_hasWords_7 : decode cX0_hasWords 7 = .ok (.if_icmp .ge 26, 3) := by decide +kernel
theorem dX0_hasWords_10 : decode cX0_hasWords 10 = .ok (.aload_n 0, 1) := by decide +kernel
theorem dX0_hasWords_11 : decode cX0_hasWords 11 = .ok (.getfield 34, 3) := by decide +kernel
theorem dX0_hasWords_14 : decode cX0_hasWords 14 = .ok (.iload_n 1, 1) := by decide +kernel
theorem dX0_hasWords_15 : decode cX0_hasWords 15 = .ok (.aaload, 1) := by decide +kernel
theorem dX0_hasWords_16 : decode cX0_hasWords 16 = .ok (.getfield 91, 3) := by decide +kernel
theorem dX0_hasWords_19 : decode cX0_hasWords 19 = .ok (.getfield 95, 3) := by decide +kernel
theorem dX0_hasWords_22 : decode cX0_hasWords 22 = .ok (.ifCond .le 5, 3) := by decide +kernel
theorem dX0_hasWords_25 : decode cX0_hasWords 25 = .ok (.iconst 1, 1) := by decide +kernel
theorem dX0_hasWords_26 : decode cX0_hasWords 26 = .ok (.ireturn, 1) := by decide +kernel
theorem dX0_hasWords_27 : decode cX0_hasWords 27 = .ok (.iinc 1 1, 3) := by decide +kernel
theorem dX0_hasWords_30 : decode cX0_hasWords 30 = .ok (.goto (-28), 3) := by decide +kernel
theorem dX0_hasWords_33 : decode cX0_hasWords 33 = .ok (.iconst 0, 1) := by decide +kernel
theorem dX0_hasWords_34 : decode cX0_hasWords 34 = .ok (.ireturn, 1) := by decide +kernel
theorem dX0_waitingFor_0 : decode cX0_waitingFor 0 = .ok (.iconst 0, 1) := by decide +kernel
theorem dX0_waitingFor_1 : decode cX0_waitingFor 1 = .ok (.istore_n 2, 1) := by decide +kernel
theorem dX0_waitingFor_2 : decode cX0_waitingFor 2 = .ok (.iconst 0, 1) := by decide +kernel
theorem dX0_waitingFor_3 : decode cX0_waitingFor 3 = .ok (.istore_n 3, 1) := by decide +kernel
theorem dX0_waitingFor_4 : decode cX0_waitingFor 4 = .ok (.iload_n 3, 1) := by decide +kernel
theorem dX0_waitingFor_5 : decode cX0_waitingFor 5 = .ok (.aload_n 0, 1) := by decide +kernel
theorem dX0_waitingFor_6 : decode cX0_waitingFor 6 = .ok (.getfield 49, 3) := by decide +kernel
theorem dX0_waitingFor_9 : decode cX0_waitingFor 9 = .ok (.if_icmp .ge 25, 3) := by decide +kernel
theorem dX0_waitingFor_12 : decode cX0_waitingFor 12 = .ok (.iload_n 2, 1) := by decide +kernel
theorem dX0_waitingFor_13 : decode cX0_waitingFor 13 = .ok (.aload_n 0, 1) := by decide +kernel
theorem dX0_waitingFor_14 : decode cX0_waitingFor 14 = .ok (.getfield 34, 3) := by decide +kernel
theorem dX0_waitingFor_17 : decode cX0_waitingFor 17 = .ok (.iload_n 3, 1) := by decide +kernel
theorem dX0_waitingFor_18 : decode cX0_waitingFor 18 = .ok (.aaload, 1) := by decide +kernel
theorem dX0_waitingFor_19 : decode cX0_waitingFor 19 = .ok (.getfield 91, 3) := by decide +kernel
theorem dX0_waitingFor_22 : decode cX0_waitingFor 22 = .ok (.iload_n 1, 1) := by decide +kernel
theorem dX0_waitingFor_23 : decode cX0_waitingFor 23 = .ok (.invokevirtual 219, 3) := by decide +kernel
theorem dX0_waitingFor_26 : decode cX0_waitingFor 26 = .ok (.iadd, 1) := by decide +kernel
theorem dX0_waitingFor_27 : decode cX0_waitingFor 27 = .ok (.istore_n 2, 1) := by decide +kernel
theorem dX0_waitingFor_28 : decode cX0_waitingFor 28 = .ok (.iinc 3 1, 3) := by decide +kernel
theorem dX0_waitingFor_31 : decode cX0_waitingFor 31 = .ok (.goto (-27), 3) := by decide +kernel
theorem dX0_waitingFor_34 : decode cX0_waitingFor 34 = .ok (.iload_n 2, 1) := by decide +kernel
theorem dX0_waitingFor_35 : decode cX0_waitingFor 35 = .ok (.ireturn, 1) := by decide +kernel
theorem dX0_sumOf_0 : decode cX0_sumOf 0 = .ok (.iconst 0, 1) := by decide +kernel
theorem dX0_sumOf_1 : decode cX0_sumOf 1 = .ok (.istore_n 2, 1) := by decide +kernel
theorem dX0_sumOf_2 : decode cX0_sumOf 2 = .ok (.iconst 0, 1) := by decide +kernel
theorem dX0_sumOf_3 : decode cX0_sumOf 3 = .ok (.istore_n 3, 1) := by decide +kernel
theorem dX0_sumOf_4 : decode cX0_sumOf 4 = .ok (.iload_n 3, 1) := by decide +kernel
theorem dX0_sumOf_5 : decode cX0_sumOf 5 = .ok (.aload_n 0, 1) := by decide +kernel
theorem dX0_sumOf_6 : decode cX0_sumOf 6 = .ok (.getfield 49, 3) := by decide +kernel
theorem dX0_sumOf_9 : decode cX0_sumOf 9 = .ok (.if_icmp .ge 22, 3) := by decide +kernel
theorem dX0_sumOf_12 : decode cX0_sumOf 12 = .ok (.iload_n 2, 1) := by decide +kernel
theorem dX0_sumOf_13 : decode cX0_sumOf 13 = .ok (.aload_n 0, 1) := by decide +kernel
theorem dX0_sumOf_14 : decode cX0_sumOf 14 = .ok (.getfield 34, 3) := by decide +kernel
theorem dX0_sumOf_17 : decode cX0_sumOf 17 = .ok (.iload_n 3, 1) := by decide +kernel
theorem dX0_sumOf_18 : decode cX0_sumOf 18 = .ok (.aaload, 1) := by decide +kernel
theorem dX0_sumOf_19 : decode cX0_sumOf 19 = .ok (.iload_n 1, 1) := by decide +kernel
theorem dX0_sumOf_20 : decode cX0_sumOf 20 = .ok (.invokevirtual 222, 3) := by decide +kernel
theorem dX0_sumOf_23 : decode cX0_sumOf 23 = .ok (.iadd, 1) := by decide +kernel
theorem dX0_sumOf_24 : decode cX0_sumOf 24 = .ok (.istore_n 2, 1) := by decide +kernel
theorem dX0_sumOf_25 : decode cX0_sumOf 25 = .ok (.iinc 3 1, 3) := by decide +kernel
theorem dX0_sumOf_28 : decode cX0_sumOf 28 = .ok (.goto (-24), 3) := by decide +kernel
theorem dX0_sumOf_31 : decode cX0_sumOf 31 = .ok (.iload_n 2, 1) := by decide +kernel
theorem dX0_sumOf_32 : decode cX0_sumOf 32 = .ok (.ireturn, 1) := by decide +kernel
theorem dX1_init_0 : decode cX1_init 0 = .ok (.aload_n 0, 1) := by decide +kernel
theorem dX1_init_1 : decode cX1_init 1 = .ok (.invokespecial 3, 3) := by decide +kernel
theorem dX1_init_4 : decode cX1_init 4 = .ok (.aload_n 0, 1) := by decide +kernel
theorem dX1_init_5 : decode cX1_init 5 = .ok (.bipush 7, 2) := by decide +kernel
theorem dX1_init_7 : decode cX1_init 7 = .ok (.anewarray 9, 3) := by decide +kernel
theorem dX1_init_10 : decode cX1_init 10 = .ok (.putfield 11, 3) := by decide +kernel
theorem dX1_init_13 : decode cX1_init 13 = .ok (.iconst 0, 1) := by decide +kernel
theorem dX1_init_14 : decode cX1_init 14 = .ok (.istore_n 1, 1) := by decide +kernel
theorem dX1_init_15 : decode cX1_init 15 = .ok (.iload_n 1, 1) := by decide +kernel
theorem dX1_init_16 : decode cX1_init 16 = .ok (.bipush 6, 2) := by decide +kernel
theorem dX1_init_18 : decode cX1_init 18 = .ok (.if_icmp .gt 22, 3) := by decide +kernel
theorem dX1_init_21 : decode cX1_init 21 = .ok (.aload_n 0, 1) := by decide +kernel
theorem dX1_init_22 : decode cX1_init 22 = .ok (.getfield 11, 3) := by decide +kernel
theorem dX1_init_25 : decode cX1_init 25 = .ok (.iload_n 1, 1) := by decide +kernel
theorem dX1_init_26 : decode cX1_init 26 = .ok (.new 9, 3) := by decide +kernel
theorem dX1_init_29 : decode cX1_init 29 = .ok (.dup, 1) := by decide +kernel
theorem dX1_init_30 : decode cX1_init 30 = .ok (.invokespecial 17, 3) := by decide +kernel
theorem dX1_init_33 : decode cX1_init 33 = .ok (.aastore, 1) := by decide +kernel
theorem dX1_init_34 : decode cX1_init 34 = .ok (.iinc 1 1, 3) := by decide +kernel
theorem dX1_init_37 : decode cX1_init 37 = .ok (.goto (-22), 3) := by decide +kernel
theorem dX1_init_40 : decode cX1_init 40 = .ok (.return_, 1) := by decide +kernel
theorem dX1_prepare_0 : decode cX1_prepare 0 = .ok (.aload_n 0, 1) := by decide +kernel
theorem dX1_prepare_1 : decode cX1_prepare 1 = .ok (.getfield 11, 3) := by decide +kernel
theorem dX1_prepare_4 : decode cX1_prepare 4 = .ok (.aload_n 0, 1) := by decide +kernel
theorem dX1_prepare_5 : decode cX1_prepare 5 = .ok (.getfield 18, 3) := by decide +kernel
theorem dX1_prepare_8 : decode cX1_prepare 8 = .ok (.aaload, 1) := by decide +kernel
theorem dX1_prepare_9 : decode cX1_prepare 9 = .ok (.aload_n 1, 1) := by decide +kernel
theorem dX1_prepare_10 : decode cX1_prepare 10 = .ok (.invokevirtual 22, 3) := by decide +kernel
theorem dX1_prepare_13 : decode cX1_prepare 13 = .ok (.return_, 1) := by decide +kernel
theorem dX1_keep_0 : decode cX1_keep 0 = .ok (.iload_n 1, 1) := by decide +kernel
theorem dX1_keep_1 : decode cX1_keep 1 = .ok (.ifCond .ge 5, 3) := by decide +kernel
theorem dX1_keep_4 : decode cX1_keep 4 = .ok (.iload_n 1, 1) := by decide +kernel
theorem dX1_keep_5 : decode cX1_keep 5 = .ok (.ireturn, 1) := by decide +kernel
theorem dX1_keep_6 : decode cX1_keep 6 = .ok (.aload_n 0, 1) := by decide +kernel
theorem dX1_keep_7 : decode cX1_keep 7 = .ok (.aload_n 0, 1) := by decide +kernel
theorem dX1_keep_8 : decode cX1_keep 8 = .ok (.getfield 18, 3) := by decide +kernel
theorem dX1_keep_11 : decode cX1_keep 11 = .ok (.bipush 6, 2) := by decide +kernel
theorem dX1_keep_13 : decode cX1_keep 13 = .ok (.if_icmp .ge 12, 3) := by decide +kernel
theorem dX1_keep_16 : decode cX1_keep 16 = .ok (.aload_n 0, 1) := by decide +kernel
theorem dX1_keep_17 : decode cX1_keep 17 = .ok (.getfield 18, 3) := by decide +kernel
theorem dX1_keep_20 : decode cX1_keep 20 = .ok (.iconst 1, 1) := by decide +kernel
theorem dX1_keep_21 : decode cX1_keep 21 = .ok (.iadd, 1) := by decide +kernel
theorem dX1_keep_22 : decode cX1_keep 22 = .ok (.goto 4, 3) := by decide +kernel
theorem dX1_keep_25 : decode cX1_keep 25 = .ok (.iconst 0, 1) := by decide +kernel
theorem dX1_keep_26 : decode cX1_keep 26 = .ok (.putfield 18, 3) := by decide +kernel
theorem dX1_keep_29 : decode cX1_keep 29 = .ok (.aload_n 0, 1) := by decide +kernel
theorem dX1_keep_30 : decode cX1_keep 30 = .ok (.aload_n 0, 1) := by decide +kernel
theorem dX1_keep_31 : decode cX1_keep 31 = .ok (.getfield 26, 3) := by decide +kernel
theorem dX1_keep_34 : decode cX1_keep 34 = .ok (.iconst 1, 1) := by decide +kernel
theorem dX1_keep_35 : decode cX1_keep 35 = .ok (.iadd, 1) := by decide +kernel
theorem dX1_keep_36 : decode cX1_keep 36 = .ok (.bipush 6, 2) := by decide +kernel
theorem dX1_keep_38 : decode cX1_keep 38 = .ok (.invokestatic 29, 3) := by decide +kernel
theorem dX1_keep_41 : decode cX1_keep 41 = .ok (.putfield 26, 3) := by decide +kernel
theorem dX1_keep_44 : decode cX1_keep 44 = .ok (.iload_n 1, 1) := by decide +kernel
theorem dX1_keep_45 : decode cX1_keep 45 = .ok (.ireturn, 1) := by decide +kernel
theorem dX2_init_0 : decode cX2_init 0 = .ok (.aload_n 0, 1) := by decide +kernel
theorem dX2_init_1 : decode cX2_init 1 = .ok (.invokespecial 3, 3) := by decide +kernel
theorem dX2_init_4 : decode cX2_init 4 = .ok (.aload_n 0, 1) := by decide +kernel
theorem dX2_init_5 : decode cX2_init 5 = .ok (.bipush 16, 2) := by decide +kernel
theorem dX2_init_7 : decode cX2_init 7 = .ok (.newarray .int, 2) := by decide +kernel
theorem dX2_init_9 : decode cX2_init 9 = .ok (.putfield 9, 3) := by decide +kernel
theorem dX2_init_12 : decode cX2_init 12 = .ok (.return_, 1) := by decide +kernel
theorem dX2_copyFrom_0 : decode cX2_copyFrom 0 = .ok (.aload_n 1, 1) := by decide +kernel
theorem dX2_copyFrom_1 : decode cX2_copyFrom 1 = .ok (.getfield 9, 3) := by decide +kernel
theorem dX2_copyFrom_4 : decode cX2_copyFrom 4 = .ok (.aload_n 0, 1) := by decide +kernel
theorem dX2_copyFrom_5 : decode cX2_copyFrom 5 = .ok (.getfield 9, 3) := by decide +kernel
theorem dX2_copyFrom_8 : decode cX2_copyFrom 8 = .ok (.invokestatic 15, 3) := by decide +kernel
theorem dX2_copyFrom_11 : decode cX2_copyFrom 11 = .ok (.aload_n 0, 1) := by decide +kernel
theorem dX2_copyFrom_12 : decode cX2_copyFrom 12 = .ok (.aload_n 1, 1) := by decide +kernel
theorem dX2_copyFrom_13 : decode cX2_copyFrom 13 = .ok (.getfield 19, 3) := by decide +kernel
theorem dX2_copyFrom_16 : decode cX2_copyFrom 16 = .ok (.putfield 19, 3) := by decide +kernel
theorem dX2_copyFrom_19 : decode cX2_copyFrom 19 = .ok (.return_, 1) := by decide +kernel
theorem dX2_has_0 : decode cX2_has 0 = .ok (.iload_n 1, 1) := by decide +kernel
theorem dX2_has_1 : decode cX2_has 1 = .ok (.ifCond .lt 20, 3) := by decide +kernel
theorem dX2_has_4 : decode cX2_has 4 = .ok (.iload_n 1, 1) := by decide +kernel
theorem dX2_has_5 : decode cX2_has 5 = .ok (.aload_n 0, 1) := by decide +kernel
theorem dX2_has_6 : decode cX2_has 6 = .ok (.getfield 19, 3) := by decide +kernel
theorem dX2_has_9 : decode cX2_has 9 = .ok (.if_icmp .ge 12, 3) := by decide +kernel
theorem dX2_has_12 : decode cX2_has 12 = .ok (.iload_n 1, 1) := by decide +kernel
theorem dX2_has_13 : decode cX2_has 13 = .ok (.iconst 4, 1) := by decide +kernel
theorem dX2_has_14 : decode cX2_has 14 = .ok (.if_icmp .ge 7, 3) := by decide +kernel
theorem dX2_has_17 : decode cX2_has 17 = .ok (.iconst 1, 1) := by decide +kernel
theorem dX2_has_18 : decode cX2_has 18 = .ok (.goto 4, 3) := by decide +kernel
theorem dX2_has_21 : decode cX2_has 21 = .ok (.iconst 0, 1) := by decide +kernel
theorem dX2_has_22 : decode cX2_has 22 = .ok (.ireturn, 1) := by decide +kernel
theorem dX2_fact_0 : decode cX2_fact 0 = .ok (.aload_n 0, 1) := by decide +kernel
theorem dX2_fact_1 : decode cX2_fact 1 = .ok (.iload_n 1, 1) := by decide +kernel
theorem dX2_fact_2 : decode cX2_fact 2 = .ok (.invokevirtual 23, 3) := by decide +kernel
theorem dX2_fact_5 : decode cX2_fact 5 = .ok (.ifCond .ne 5, 3) := by decide +kernel
theorem dX2_fact_10 : decode cX2_fact 10 = .ok (.iload_n 2, 1) := by decide +kernel
theorem dX2_fact_11 : decode cX2_fact 11 = .ok (.ifCond .lt 8, 3) := by decide +kernel
theorem dX2_fact_14 : decode cX2_fact 14 = .ok (.iload_n 2, 1) := by decide +kernel
theorem dX2_fact_15 : decode cX2_fact 15 = .ok (.iconst 4, 1) := by decide +kernel
theorem dX2_fact_16 : decode cX2_fact 16 = .ok (.if_icmp .lt 6, 3) := by decide +kernel
theorem dX2_fact_19 : decode cX2_fact 19 = .ok (.bipush (-2), 2) := by decide +kernel
theorem dX2_fact_21 : decode cX2_fact 21 = .ok (.ireturn, 1) := by decide +kernel
theorem dX2_fact_22 : decode cX2_fact 22 = .ok (.aload_n 0, 1) := by decide +kernel
theorem dX2_fact_23 : decode cX2_fact 23 = .ok (.getfield 9, 3) := by decide +kernel
theorem dX2_fact_26 : decode cX2_fact 26 = .ok (.iload_n 1, 1) := by decide +kernel
theorem dX2_fact_27 : decode cX2_fact 27 = .ok (.iconst 4, 1) := by decide +kernel
theorem dX2_fact_28 : decode cX2_fact 28 = .ok (.imul, 1) := by decide +kernel
theorem dX2_fact_29 : decode cX2_fact 29 = .ok (.iload_n 2, 1) := by decide +kernel
theorem dX2_fact_30 : decode cX2_fact 30 = .ok (.iadd, 1) := by decide +kernel
theorem dX2_fact_31 : decode cX2_fact 31 = .ok (.iaload, 1) := by decide +kernel
theorem dX2_fact_32 : decode cX2_fact 32 = .ok (.ireturn, 1) := by decide +kernel
theorem dX2_add_0 : decode cX2_add 0 = .ok (.aload_n 0, 1) := by decide +kernel
theorem dX2_add_1 : decode cX2_add 1 = .ok (.getfield 9, 3) := by decide +kernel
theorem dX2_add_4 : decode cX2_add 4 = .ok (.iconst 0, 1) := by decide +kernel
theorem dX2_add_5 : decode cX2_add 5 = .ok (.aload_n 0, 1) := by decide +kernel
theorem dX2_add_6 : decode cX2_add 6 = .ok (.getfield 9, 3) := by decide +kernel
theorem dX2_add_9 : decode cX2_add 9 = .ok (.iconst 4, 1) := by decide +kernel
theorem dX2_add_10 : decode cX2_add 10 = .ok (.bipush 12, 2) := by decide +kernel
theorem dX2_add_12 : decode cX2_add 12 = .ok (.invokestatic 27, 3) := by decide +kernel
theorem dX2_add_15 : decode cX2_add 15 = .ok (.aload_n 0, 1) := by decide +kernel
theorem dX2_add_16 : decode cX2_add 16 = .ok (.getfield 9, 3) := by decide +kernel
theorem dX2_add_19 : decode cX2_add 19 = .ok (.iconst 0, 1) := by decide +kernel
theorem dX2_add_20 : decode cX2_add 20 = .ok (.iload_n 1, 1) := by decide +kernel
theorem dX2_add_21 : decode cX2_add 21 = .ok (.iastore, 1) := by decide +kernel
theorem dX2_add_22 : decode cX2_add 22 = .ok (.aload_n 0, 1) := by decide +kernel
theorem dX2_add_23 : decode cX2_add 23 = .ok (.getfield 9, 3) := by decide +kernel
theorem dX2_add_26 : decode cX2_add 26 = .ok (.iconst 1, 1) := by decide +kernel
theorem dX2_add_27 : decode cX2_add 27 = .ok (.iload_n 2, 1) := by decide +kernel
theorem dX2_add_28 : decode cX2_add 28 = .ok (.iastore, 1) := by decide +kernel
theorem dX2_add_29 : decode cX2_add 29 = .ok (.aload_n 0, 1) := by decide +kernel
theorem dX2_add_30 : decode cX2_add 30 = .ok (.getfield 9, 3) := by decide +kernel
theorem dX2_add_33 : decode cX2_add 33 = .ok (.iconst 2, 1) := by decide +kernel
theorem dX2_add_34 : decode cX2_add 34 = .ok (.iload_n 3, 1) := by decide +kernel
theorem dX2_add_35 : decode cX2_add 35 = .ok (.iastore, 1) := by decide +kernel
theorem dX2_add_36 : decode cX2_add 36 = .ok (.aload_n 0, 1) := by decide +kernel
theorem dX2_add_37 : decode cX2_add 37 = .ok (.getfield 9, 3) := by decide +kernel
theorem dX2_add_40 : decode cX2_add 40 = .ok (.iconst 3, 1) := by decide +kernel
theorem dX2_add_41 : decode cX2_add 41 = .ok (.iload 4, 2) := by decide +kernel
theorem dX2_add_43 : decode cX2_add 43 = .ok (.iastore, 1) := by decide +kernel
theorem dX2_add_44 : decode cX2_add 44 = .ok (.aload_n 0, 1) := by decide +kernel
theorem dX2_add_45 : decode cX2_add 45 = .ok (.aload_n 0, 1) := by decide +kernel
theorem dX2_add_46 : decode cX2_add 46 = .ok (.getfield 19, 3) := by decide +kernel
theorem dX2_add_49 : decode cX2_add 49 = .ok (.iconst 1, 1) := by decide +kernel
theorem dX2_add_50 : decode cX2_add 50 = .ok (.iadd, 1) := by decide +kernel
theorem dX2_add_51 : decode cX2_add 51 = .ok (.iconst 4, 1) := by decide +kernel
theorem dX2_add_52 : decode cX2_add 52 = .ok (.invokestatic 33, 3) := by decide +kernel
theorem dX2_add_55 : decode cX2_add 55 = .ok (.putfield 19, 3) := by decide +kernel
theorem dX2_add_58 : decode cX2_add 58 = .ok (.return_, 1) := by decide +kernel
theorem dX3_init_0 : decode cX3_init 0 = .ok (.aload_n 0, 1) := by decide +kernel
theorem dX3_init_1 : decode cX3_init 1 = .ok (.invokespecial 3, 3) := by decide +kernel
theorem dX3_init_4 : decode cX3_init 4 = .ok (.aload_n 0, 1) := by decide +kernel
theorem dX3_init_5 : decode cX3_init 5 = .ok (.bipush 80, 2) := by decide +kernel
theorem dX3_init_7 : decode cX3_init 7 = .ok (.newarray .char, 2) := by decide +kernel
theorem dX3_init_9 : decode cX3_init 9 = .ok (.putfield 9, 3) := by decide +kernel
theorem dX3_init_12 : decode cX3_init 12 = .ok (.return_, 1) := by decide +kernel
theorem dX4_init_0 : decode cX4_init 0 = .ok (.aload_n 0, 1) := by decide +kernel
theorem dX4_init_1 : decode cX4_init 1 = .ok (.invokespecial 3, 3) := by decide +kernel
theorem dX4_init_4 : decode cX4_init 4 = .ok (.aload_n 0, 1) := by decide +kernel
theorem dX4_init_5 : decode cX4_init 5 = .ok (.aload_n 1, 1) := by decide +kernel
theorem dX4_init_6 : decode cX4_init 6 = .ok (.putfield 9, 3) := by decide +kernel
theorem dX4_init_9 : decode cX4_init 9 = .ok (.return_, 1) := by decide +kernel
theorem dX5_init_0 : decode cX5_init 0 = .ok (.aload_n 0, 1) := by decide +kernel
theorem dX5_init_1 : decode cX5_init 1 = .ok (.invokespecial 3, 3) := by decide +kernel
theorem dX5_init_4 : decode cX5_init 4 = .ok (.aload_n 0, 1) := by decide +kernel
theorem dX5_init_5 : decode cX5_init 5 = .ok (.iconst 4, 1) := by decide +kernel
theorem dX5_init_6 : decode cX5_init 6 = .ok (.newarray .int, 2) := by decide +kernel
theorem dX5_init_8 : decode cX5_init 8 = .ok (.putfield 9, 3) := by decide +kernel
theorem dX5_init_11 : decode cX5_init 11 = .ok (.aload_n 0, 1) := by decide +kernel
theorem dX5_init_12 : decode cX5_init 12 = .ok (.iconst 4, 1) := by decide +kernel
theorem dX5_init_13 : decode cX5_init 13 = .ok (.newarray .int, 2) := by decide +kernel
theorem dX5_init_15 : decode cX5_init 15 = .ok (.putfield 15, 3) := by decide +kernel
theorem dX5_init_18 : decode cX5_init 18 = .ok (.aload_n 0, 1) := by decide +kernel
theorem dX5_init_19 : decode cX5_init 19 = .ok (.iconst 4, 1) := by decide +kernel
theorem dX5_init_20 : decode cX5_init 20 = .ok (.newarray .int, 2) := by decide +kernel
theorem dX5_init_22 : decode cX5_init 22 = .ok (.putfield 18, 3) := by decide +kernel
theorem dX5_init_25 : decode cX5_init 25 = .ok (.return_, 1) := by decide +kernel
theorem dX5_copyFrom_0 : decode cX5_copyFrom 0 = .ok (.aload_n 1, 1) := by decide +kernel
theorem dX5_copyFrom_1 : decode cX5_copyFrom 1 = .ok (.getfield 9, 3) := by decide +kernel
theorem dX5_copyFrom_4 : decode cX5_copyFrom 4 = .ok (.aload_n 0, 1) := by decide +kernel
theorem dX5_copyFrom_5 : decode cX5_copyFrom 5 = .ok (.getfield 9, 3) := by decide +kernel
theorem dX5_copyFrom_8 : decode cX5_copyFrom 8 = .ok (.invokestatic 21, 3) := by decide +kernel
theorem dX5_copyFrom_11 : decode cX5_copyFrom 11 = .ok (.aload_n 1, 1) := by decide +kernel
theorem dX5_copyFrom_12 : decode cX5_copyFrom 12 = .ok (.getfield 15, 3) := by decide +kernel
theorem dX5_copyFrom_15 : decode cX5_copyFrom 15 = .ok (.aload_n 0, 1) := by decide +kernel
theorem dX5_copyFrom_16 : decode cX5_copyFrom 16 = .ok (.getfield 15, 3) := by decide +kernel
theorem dX5_copyFrom_19 : decode cX5_copyFrom 19 = .ok (.invokestatic 21, 3) := by decide +kernel
theorem dX5_copyFrom_22 : decode cX5_copyFrom 22 = .ok (.aload_n 1, 1) := by decide +kernel
theorem dX5_copyFrom_23 : decode cX5_copyFrom 23 = .ok (.getfield 18, 3) := by decide +kernel
theorem dX5_copyFrom_26 : decode cX5_copyFrom 26 = .ok (.aload_n 0, 1) := by decide +kernel
theorem dX5_copyFrom_27 : decode cX5_copyFrom 27 = .ok (.getfield 18, 3) := by decide +kernel
theorem dX5_copyFrom_30 : decode cX5_copyFrom 30 = .ok (.invokestatic 21, 3) := by decide +kernel
theorem dX5_copyFrom_33 : decode cX5_copyFrom 33 = .ok (.aload_n 0, 1) := by decide +kernel
theorem dX5_copyFrom_34 : decode cX5_copyFrom 34 = .ok (.aload_n 1, 1) := by decide +kernel
theorem dX5_copyFrom_35 : decode cX5_copyFrom 35 = .ok (.getfield 25, 3) := by decide +kernel
theorem dX5_copyFrom_38 : decode cX5_copyFrom 38 = .ok (.putfield 25, 3) := by decide +kernel
theorem dX5_copyFrom_41 : decode cX5_copyFrom 41 = .ok (.return_, 1) := by decide +kernel
theorem dX5_has_0 : decode cX5_has 0 = .ok (.iload_n 1, 1) := by decide +kernel
theorem dX5_has_1 : decode cX5_has 1 = .ok (.ifCond .lt 20, 3) := by decide +kernel
theorem dX5_has_4 : decode cX5_has 4 = .ok (.iload_n 1, 1) := by decide +kernel
theorem dX5_has_5 : decode cX5_has 5 = .ok (.aload_n 0, 1) := by decide +kernel
theorem dX5_has_6 : decode cX5_has 6 = .ok (.getfield 25, 3) := by decide +kernel
theorem dX5_has_9 : decode cX5_has 9 = .ok (.if_icmp .ge 12, 3) := by decide +kernel
theorem dX5_has_12 : decode cX5_has 12 = .ok (.iload_n 1, 1) := by decide +kernel
theorem dX5_has_13 : decode cX5_has 13 = .ok (.iconst 4, 1) := by decide +kernel
theorem dX5_has_14 : decode cX5_has 14 = .ok (.if_icmp .ge 7, 3) := by decide +kernel
theorem dX5_has_17 : decode cX5_has 17 = .ok (.iconst 1, 1) := by decide +kernel
theorem dX5_has_18 : decode cX5_has 18 = .ok (.goto 4, 3) := by decide +kernel
theorem dX5_has_21 : decode cX5_has 21 = .ok (.iconst 0, 1) := by decide +kernel
theorem dX5_has_22 : decode cX5_has 22 = .ok (.ireturn, 1) := by decide +kernel
theorem dX5_numberAt_0 : decode cX5_numberAt 0 = .ok (.aload_n 0, 1) := by decide +kernel
theorem dX5_numberAt_1 : decode cX5_numberAt 1 = .ok (.iload_n 1, 1) := by decide +kernel
theorem dX5_numberAt_2 : decode cX5_numberAt 2 = .ok (.invokevirtual 29, 3) := by decide +kernel
theorem dX5_numberAt_5 : decode cX5_numberAt 5 = .ok (.ifCond .eq 12, 3) := by decide +kernel
theorem dX5_numberAt_8 : decode cX5_numberAt 8 = .ok (.aload_n 0, 1) := by decide +kernel
theorem dX5_numberAt_9 : decode cX5_numberAt 9 = .ok (.getfield 9, 3) := by decide +kernel
theorem dX5_numberAt_12 : decode cX5_numberAt 12 = .ok (.iload_n 1, 1) := by decide +kernel
theorem dX5_numberAt_13 : decode cX5_numberAt 13 = .ok (.iaload, 1) := by decide +kernel
theorem dX5_numberAt_14 : decode cX5_numberAt 14 = .ok (.goto 5, 3) := by decide +kernel
theorem dX5_numberAt_17 : decode cX5_numberAt 17 = .ok (.bipush (-6), 2) := by decide +kernel
theorem dX5_numberAt_19 : decode cX5_numberAt 19 = .ok (.ireturn, 1) := by decide +kernel
theorem dX5_wireAt_0 : decode cX5_wireAt 0 = .ok (.aload_n 0, 1) := by decide +kernel
theorem dX5_wireAt_1 : decode cX5_wireAt 1 = .ok (.iload_n 1, 1) := by decide +kernel
theorem dX5_wireAt_2 : decode cX5_wireAt 2 = .ok (.invokevirtual 29, 3) := by decide +kernel
theorem dX5_wireAt_5 : decode cX5_wireAt 5 = .ok (.ifCond .eq 12, 3) := by decide +kernel
theorem dX5_wireAt_8 : decode cX5_wireAt 8 = .ok (.aload_n 0, 1) := by decide +kernel
theorem dX5_wireAt_9 : decode cX5_wireAt 9 = .ok (.getfield 15, 3) := by decide +kernel
theorem dX5_wireAt_12 : decode cX5_wireAt 12 = .ok (.iload_n 1, 1) := by decide +kernel
theorem dX5_wireAt_13 : decode cX5_wireAt 13 = .ok (.iaload, 1) := by decide +kernel
theorem dX5_wireAt_14 : decode cX5_wireAt 14 = .ok (.goto 5, 3) := by decide +kernel
theorem dX5_wireAt_17 : decode cX5_wireAt 17 = .ok (.bipush (-6), 2) := by decide +kernel
theorem dX5_wireAt_19 : decode cX5_wireAt 19 = .ok (.ireturn, 1) := by decide +kernel
theorem dX5_triesAt_0 : decode cX5_triesAt 0 = .ok (.aload_n 0, 1) := by decide +kernel
theorem dX5_triesAt_1 : decode cX5_triesAt 1 = .ok (.iload_n 1, 1) := by decide +kernel
theorem dX5_triesAt_2 : decode cX5_triesAt 2 = .ok (.invokevirtual 29, 3) := by decide +kernel
theorem dX5_triesAt_5 : decode cX5_triesAt 5 = .ok (.ifCond .eq 12, 3) := by decide +kernel
theorem dX5_triesAt_8 : decode cX5_triesAt 8 = .ok (.aload_n 0, 1) := by decide +kernel
theorem dX5_triesAt_9 : decode cX5_triesAt 9 = .ok (.getfield 18, 3) := by decide +kernel
theorem dX5_triesAt_12 : decode cX5_triesAt 12 = .ok (.iload_n 1, 1) := by decide +kernel
theorem dX5_triesAt_13 : decode cX5_triesAt 13 = .ok (.iaload, 1) := by decide +kernel
theorem dX5_triesAt_14 : decode cX5_triesAt 14 = .ok (.goto 5, 3) := by decide +kernel
theorem dX5_triesAt_17 : decode cX5_triesAt 17 = .ok (.bipush (-6), 2) := by decide +kernel
theorem dX5_triesAt_19 : decode cX5_triesAt 19 = .ok (.ireturn, 1) := by decide +kernel
theorem dX5_countFor_0 : decode cX5_countFor 0 = .ok (.iconst 0, 1) := by decide +kernel
theorem dX5_countFor_1 : decode cX5_countFor 1 = .ok (.istore_n 2, 1) := by decide +kernel
theorem dX5_countFor_2 : decode cX5_countFor 2 = .ok (.iconst 0, 1) := by decide +kernel
theorem dX5_countFor_3 : decode cX5_countFor 3 = .ok (.istore_n 3, 1) := by decide +kernel
theorem dX5_countFor_4 : decode cX5_countFor 4 = .ok (.iload_n 3, 1) := by decide +kernel
theorem dX5_countFor_5 : decode cX5_countFor 5 = .ok (.aload_n 0, 1) := by decide +kernel
theorem dX5_countFor_6 : decode cX5_countFor 6 = .ok (.getfield 25, 3) := by decide +kernel
theorem dX5_countFor_9 : decode cX5_countFor 9 = .ok (.if_icmp .ge 21, 3) := by decide +kernel
theorem dX5_countFor_12 : decode cX5_countFor 12 = .ok (.aload_n 0, 1) := by decide +kernel
theorem dX5_countFor_13 : decode cX5_countFor 13 = .ok (.iload_n 3, 1) := by decide +kernel
theorem dX5_countFor_14 : decode cX5_countFor 14 = .ok (.invokevirtual 33, 3) := by decide +kernel
theorem dX5_countFor_17 : decode cX5_countFor 17 = .ok (.iload_n 1, 1) := by decide +kernel
theorem dX5_countFor_18 : decode cX5_countFor 18 = .ok (.if_icmp .ne 6, 3) := by decide +kernel
theorem dX5_countFor_21 : decode cX5_countFor 21 = .ok (.iinc 2 1, 3) := by decide +kernel
theorem dX5_countFor_24 : decode cX5_countFor 24 = .ok (.iinc 3 1, 3) := by decide +kernel
theorem dX5_countFor_27 : decode cX5_countFor 27 = .ok (.goto (-23), 3) := by decide +kernel
theorem dX5_countFor_30 : decode cX5_countFor 30 = .ok (.iload_n 2, 1) := by decide +kernel
theorem dX5_countFor_31 : decode cX5_countFor 31 = .ok (.ireturn, 1) := by decide +kernel
theorem dX5_add_0 : decode cX5_add 0 = .ok (.aload_n 0, 1) := by decide +kernel
theorem dX5_add_1 : decode cX5_add 1 = .ok (.getfield 25, 3) := by decide +kernel
theorem dX5_add_4 : decode cX5_add 4 = .ok (.iconst 4, 1) := by decide +kernel
theorem dX5_add_5 : decode cX5_add 5 = .ok (.if_icmp .lt 4, 3) := by decide +kernel
theorem dX5_add_9 : decode cX5_add 9 = .ok (.aload_n 0, 1) := by decide +kernel
theorem dX5_add_10 : decode cX5_add 10 = .ok (.getfield 9, 3) := by decide +kernel
theorem dX5_add_13 : decode cX5_add 13 = .ok (.aload_n 0, 1) := by decide +kernel
theorem dX5_add_14 : decode cX5_add 14 = .ok (.getfield 25, 3) := by decide +kernel
theorem dX5_add_17 : decode cX5_add 17 = .ok (.iload_n 1, 1) := by decide +kernel
theorem dX5_add_18 : decode cX5_add 18 = .ok (.iastore, 1) := by decide +kernel
theorem dX5_add_19 : decode cX5_add 19 = .ok (.aload_n 0, 1) := by decide +kernel
theorem dX5_add_20 : decode cX5_add 20 = .ok (.getfield 15, 3) := by decide +kernel
theorem dX5_add_23 : decode cX5_add 23 = .ok (.aload_n 0, 1) := by decide +kernel
theorem dX5_add_24 : decode cX5_add 24 = .ok (.getfield 25, 3) := by decide +kernel
theorem dX5_add_27 : decode cX5_add 27 = .ok (.iload_n 2, 1) := by decide +kernel
theorem dX5_add_28 : decode cX5_add 28 = .ok (.iastore, 1) := by decide +kernel
theorem dX5_add_29 : decode cX5_add 29 = .ok (.aload_n 0, 1) := by decide +kernel
theorem dX5_add_30 : decode cX5_add 30 = .ok (.getfield 18, 3) := by decide +kernel
theorem dX5_add_33 : decode cX5_add 33 = .ok (.aload_n 0, 1) := by decide +kernel
theorem dX5_add_34 : decode cX5_add 34 = .ok (.getfield 25, 3) := by decide +kernel
theorem dX5_add_37 : decode cX5_add 37 = .ok (.iconst 0, 1) := by decide +kernel
theorem dX5_add_38 : decode cX5_add 38 = .ok (.iastore, 1) := by decide +kernel
theorem dX5_add_39 : decode cX5_add 39 = .ok (.aload_n 0, 1) := by decide +kernel
theorem dX5_add_40 : decode cX5_add 40 = .ok (.dup, 1) := by decide +kernel
theorem dX5_add_41 : decode cX5_add 41 = .ok (.getfield 25, 3) := by decide +kernel
theorem dX5_add_44 : decode cX5_add 44 = .ok (.iconst 1, 1) := by decide +kernel
theorem dX5_add_45 : decode cX5_add 45 = .ok (.iadd, 1) := by decide +kernel
theorem dX5_add_46 : decode cX5_add 46 = .ok (.putfield 25, 3) := by decide +kernel
theorem dX5_add_49 : decode cX5_add 49 = .ok (.return_, 1) := by decide +kernel
theorem dX5_tryFirst_0 : decode cX5_tryFirst 0 = .ok (.aload_n 0, 1) := by decide +kernel
theorem dX5_tryFirst_1 : decode cX5_tryFirst 1 = .ok (.getfield 25, 3) := by decide +kernel
theorem dX5_tryFirst_4 : decode cX5_tryFirst 4 = .ok (.ifCond .ne 5, 3) := by decide +kernel
theorem dX5_tryFirst_9 : decode cX5_tryFirst 9 = .ok (.aload_n 0, 1) := by decide +kernel
theorem dX5_tryFirst_10 : decode cX5_tryFirst 10 = .ok (.getfield 18, 3) := by decide +kernel
theorem dX5_tryFirst_13 : decode cX5_tryFirst 13 = .ok (.iconst 0, 1) := by decide +kernel
theorem dX5_tryFirst_14 : decode cX5_tryFirst 14 = .ok (.dup2, 1) := by decide +kernel
theorem dX5_tryFirst_15 : decode cX5_tryFirst 15 = .ok (.iaload, 1) := by decide +kernel
theorem dX5_tryFirst_16 : decode cX5_tryFirst 16 = .ok (.iconst 1, 1) := by decide +kernel
theorem dX5_tryFirst_17 : decode cX5_tryFirst 17 = .ok (.iadd, 1) := by decide +kernel
theorem dX5_tryFirst_18 : decode cX5_tryFirst 18 = .ok (.iastore, 1) := by decide +kernel
theorem dX5_tryFirst_19 : decode cX5_tryFirst 19 = .ok (.aload_n 0, 1) := by decide +kernel
theorem dX5_tryFirst_20 : decode cX5_tryFirst 20 = .ok (.getfield 18, 3) := by decide +kernel
theorem dX5_tryFirst_23 : decode cX5_tryFirst 23 = .ok (.iconst 0, 1) := by decide +kernel
theorem dX5_tryFirst_24 : decode cX5_tryFirst 24 = .ok (.iaload, 1) := by decide +kernel
theorem dX5_tryFirst_25 : decode cX5_tryFirst 25 = .ok (.ireturn, 1) := by decide +kernel
theorem dX5_dropFirst_0 : decode cX5_dropFirst 0 = .ok (.aload_n 0, 1) := by decide +kernel
theorem dX5_dropFirst_1 : decode cX5_dropFirst 1 = .ok (.getfield 25, 3) := by decide +kernel
theorem dX5_dropFirst_4 : decode cX5_dropFirst 4 = .ok (.ifCond .ne 4, 3) := by decide +kernel
theorem dX5_dropFirst_8 : decode cX5_dropFirst 8 = .ok (.iconst 1, 1) := by decide +kernel
theorem dX5_dropFirst_9 : decode cX5_dropFirst 9 = .ok (.istore_n 1, 1) := by decide +kernel
theorem dX5_dropFirst_10 : decode cX5_dropFirst 10 = .ok (.iload_n 1, 1) := by decide +kernel
theorem dX5_dropFirst_11 : decode cX5_dropFirst 11 = .ok (.aload_n 0, 1) := by decide +kernel
theorem dX5_dropFirst_12 : decode cX5_dropFirst 12 = .ok (.getfield 25, 3) := by decide +kernel
theorem dX5_dropFirst_15 : decode cX5_dropFirst 15 = .ok (.if_icmp .ge 51, 3) := by decide +kernel
theorem dX5_dropFirst_18 : decode cX5_dropFirst 18 = .ok (.aload_n 0, 1) := by decide +kernel
theorem dX5_dropFirst_19 : decode cX5_dropFirst 19 = .ok (.getfield 9, 3) := by decide +kernel
theorem dX5_dropFirst_22 : decode cX5_dropFirst 22 = .ok (.iload_n 1, 1) := by decide +kernel
theorem dX5_dropFirst_23 : decode cX5_dropFirst 23 = .ok (.iconst 1, 1) := by decide +kernel
theorem dX5_dropFirst_24 : decode cX5_dropFirst 24 = .ok (.isub, 1) := by decide +kernel
theorem dX5_dropFirst_25 : decode cX5_dropFirst 25 = .ok (.aload_n 0, 1) := by decide +kernel
theorem dX5_dropFirst_26 : decode cX5_dropFirst 26 = .ok (.getfield 9, 3) := by decide +kernel
theorem dX5_dropFirst_29 : decode cX5_dropFirst 29 = .ok (.iload_n 1, 1) := by decide +kernel
theorem dX5_dropFirst_30 : decode cX5_dropFirst 30 = .ok (.iaload, 1) := by decide +kernel
theorem dX5_dropFirst_31 : decode cX5_dropFirst 31 = .ok (.iastore, 1) := by decide +kernel
theorem dX5_dropFirst_32 : decode cX5_dropFirst 32 = .ok (.aload_n 0, 1) := by decide +kernel
theorem dX5_dropFirst_33 : decode cX5_dropFirst 33 = .ok (.getfield 15, 3) := by decide +kernel
theorem dX5_dropFirst_36 : decode cX5_dropFirst 36 = .ok (.iload_n 1, 1) := by decide +kernel
theorem dX5_dropFirst_37 : decode cX5_dropFirst 37 = .ok (.iconst 1, 1) := by decide +kernel
theorem dX5_dropFirst_38 : decode cX5_dropFirst 38 = .ok (.isub, 1) := by decide +kernel
theorem dX5_dropFirst_39 : decode cX5_dropFirst 39 = .ok (.aload_n 0, 1) := by decide +kernel
theorem dX5_dropFirst_40 : decode cX5_dropFirst 40 = .ok (.getfield 15, 3) := by decide +kernel
theorem dX5_dropFirst_43 : decode cX5_dropFirst 43 = .ok (.iload_n 1, 1) := by decide +kernel
theorem dX5_dropFirst_44 : decode cX5_dropFirst 44 = .ok (.iaload, 1) := by decide +kernel
theorem dX5_dropFirst_45 : decode cX5_dropFirst 45 = .ok (.iastore, 1) := by decide +kernel
theorem dX5_dropFirst_46 : decode cX5_dropFirst 46 = .ok (.aload_n 0, 1) := by decide +kernel
theorem dX5_dropFirst_47 : decode cX5_dropFirst 47 = .ok (.getfield 18, 3) := by decide +kernel
theorem dX5_dropFirst_50 : decode cX5_dropFirst 50 = .ok (.iload_n 1, 1) := by decide +kernel
theorem dX5_dropFirst_51 : decode cX5_dropFirst 51 = .ok (.iconst 1, 1) := by decide +kernel
theorem dX5_dropFirst_52 : decode cX5_dropFirst 52 = .ok (.isub, 1) := by decide +kernel
theorem dX5_dropFirst_53 : decode cX5_dropFirst 53 = .ok (.aload_n 0, 1) := by decide +kernel
theorem dX5_dropFirst_54 : decode cX5_dropFirst 54 = .ok (.getfield 18, 3) := by decide +kernel
theorem dX5_dropFirst_57 : decode cX5_dropFirst 57 = .ok (.iload_n 1, 1) := by decide +kernel
theorem dX5_dropFirst_58 : decode cX5_dropFirst 58 = .ok (.iaload, 1) := by decide +kernel
theorem dX5_dropFirst_59 : decode cX5_dropFirst 59 = .ok (.iastore, 1) := by decide +kernel
theorem dX5_dropFirst_60 : decode cX5_dropFirst 60 = .ok (.iinc 1 1, 3) := by decide +kernel
theorem dX5_dropFirst_63 : decode cX5_dropFirst 63 = .ok (.goto (-53), 3) := by decide +kernel
theorem dX5_dropFirst_66 : decode cX5_dropFirst 66 = .ok (.aload_n 0, 1) := by decide +kernel
theorem dX5_dropFirst_67 : decode cX5_dropFirst 67 = .ok (.dup, 1) := by decide +kernel
theorem dX5_dropFirst_68 : decode cX5_dropFirst 68 = .ok (.getfield 25, 3) := by decide +kernel
theorem dX5_dropFirst_71 : decode cX5_dropFirst 71 = .ok (.iconst 1, 1) := by decide +kernel
theorem dX5_dropFirst_72 : decode cX5_dropFirst 72 = .ok (.isub, 1) := by decide +kernel
theorem dX5_dropFirst_73 : decode cX5_dropFirst 73 = .ok (.putfield 25, 3) := by decide +kernel
theorem dX5_dropFirst_76 : decode cX5_dropFirst 76 = .ok (.return_, 1) := by decide +kernel
theorem dX6_init_0 : decode cX6_init 0 = .ok (.aload_n 0, 1) := by decide +kernel
theorem dX6_init_1 : decode cX6_init 1 = .ok (.invokespecial 3, 3) := by decide +kernel
theorem dX6_init_4 : decode cX6_init 4 = .ok (.aload_n 0, 1) := by decide +kernel
theorem dX6_init_5 : decode cX6_init 5 = .ok (.new 9, 3) := by decide +kernel
theorem dX6_init_8 : decode cX6_init 8 = .ok (.dup, 1) := by decide +kernel
theorem dX6_init_9 : decode cX6_init 9 = .ok (.invokespecial 11, 3) := by decide +kernel
theorem dX6_init_12 : decode cX6_init 12 = .ok (.putfield 12, 3) := by decide +kernel
theorem dX6_init_15 : decode cX6_init 15 = .ok (.aload_n 0, 1) := by decide +kernel
theorem dX6_init_16 : decode cX6_init 16 = .ok (.new 18, 3) := by decide +kernel
theorem dX6_init_19 : decode cX6_init 19 = .ok (.dup, 1) := by decide +kernel
theorem dX6_init_20 : decode cX6_init 20 = .ok (.invokespecial 20, 3) := by decide +kernel
theorem dX6_init_23 : decode cX6_init 23 = .ok (.putfield 21, 3) := by decide +kernel
theorem dX6_init_26 : decode cX6_init 26 = .ok (.aload_n 0, 1) := by decide +kernel
theorem dX6_init_27 : decode cX6_init 27 = .ok (.iconst (-1), 1) := by decide +kernel
theorem dX6_init_28 : decode cX6_init 28 = .ok (.putfield 25, 3) := by decide +kernel
theorem dX6_init_31 : decode cX6_init 31 = .ok (.aload_n 0, 1) := by decide +kernel
theorem dX6_init_32 : decode cX6_init 32 = .ok (.iload_n 1, 1) := by decide +kernel
theorem dX6_init_33 : decode cX6_init 33 = .ok (.putfield 29, 3) := by decide +kernel
theorem dX6_init_36 : decode cX6_init 36 = .ok (.return_, 1) := by decide +kernel
theorem dX6_copyFrom_0 : decode cX6_copyFrom 0 = .ok (.aload_n 0, 1) := by decide +kernel
theorem dX6_copyFrom_1 : decode cX6_copyFrom 1 = .ok (.getfield 12, 3) := by decide +kernel
theorem dX6_copyFrom_4 : decode cX6_copyFrom 4 = .ok (.aload_n 1, 1) := by decide +kernel
theorem dX6_copyFrom_5 : decode cX6_copyFrom 5 = .ok (.getfield 12, 3) := by decide +kernel
theorem dX6_copyFrom_8 : decode cX6_copyFrom 8 = .ok (.invokevirtual 32, 3) := by decide +kernel
theorem dX6_copyFrom_11 : decode cX6_copyFrom 11 = .ok (.aload_n 0, 1) := by decide +kernel
theorem dX6_copyFrom_12 : decode cX6_copyFrom 12 = .ok (.getfield 21, 3) := by decide +kernel
theorem dX6_copyFrom_15 : decode cX6_copyFrom 15 = .ok (.aload_n 1, 1) := by decide +kernel
theorem dX6_copyFrom_16 : decode cX6_copyFrom 16 = .ok (.getfield 21, 3) := by decide +kernel
theorem dX6_copyFrom_19 : decode cX6_copyFrom 19 = .ok (.invokevirtual 36, 3) := by decide +kernel
theorem dX6_copyFrom_22 : decode cX6_copyFrom 22 = .ok (.aload_n 0, 1) := by decide +kernel
theorem dX6_copyFrom_23 : decode cX6_copyFrom 23 = .ok (.aload_n 1, 1) := by decide +kernel
theorem dX6_copyFrom_24 : decode cX6_copyFrom 24 = .ok (.getfield 39, 3) := by decide +kernel
theorem dX6_copyFrom_27 : decode cX6_copyFrom 27 = .ok (.putfield 39, 3) := by decide +kernel
theorem dX6_copyFrom_30 : decode cX6_copyFrom 30 = .ok (.aload_n 0, 1) := by decide +kernel
theorem dX6_copyFrom_31 : decode cX6_copyFrom 31 = .ok (.aload_n 1, 1) := by decide +kernel
theorem dX6_copyFrom_32 : decode cX6_copyFrom 32 = .ok (.getfield 42, 3) := by decide +kernel
theorem dX6_copyFrom_35 : decode cX6_copyFrom 35 = .ok (.putfield 42, 3) := by decide +kernel
theorem dX6_copyFrom_38 : decode cX6_copyFrom 38 = .ok (.aload_n 0, 1) := by decide +kernel
theorem dX6_copyFrom_39 : decode cX6_copyFrom 39 = .ok (.aload_n 1, 1) := by decide +kernel
theorem dX6_copyFrom_40 : decode cX6_copyFrom 40 = .ok (.getfield 45, 3) := by decide +kernel
theorem dX6_copyFrom_43 : decode cX6_copyFrom 43 = .ok (.putfield 45, 3) := by decide +kernel
theorem dX6_copyFrom_46 : decode cX6_copyFrom 46 = .ok (.aload_n 0, 1) := by decide +kernel
theorem dX6_copyFrom_47 : decode cX6_copyFrom 47 = .ok (.aload_n 1, 1) := by decide +kernel
theorem dX6_copyFrom_48 : decode cX6_copyFrom 48 = .ok (.getfield 49, 3) := by decide +kernel
theorem dX6_copyFrom_51 : decode cX6_copyFrom 51 = .ok (.putfield 49, 3) := by decide +kernel
theorem dX6_copyFrom_54 : decode cX6_copyFrom 54 = .ok (.aload_n 0, 1) := by decide +kernel
theorem dX6_copyFrom_55 : decode cX6_copyFrom 55 = .ok (.aload_n 1, 1) := by decide +kernel
theorem dX6_copyFrom_56 : decode cX6_copyFrom 56 = .ok (.getfield 25, 3) := by decide +kernel
theorem dX6_copyFrom_59 : decode cX6_copyFrom 59 = .ok (.putfield 25, 3) := by decide +kernel
theorem dX6_copyFrom_62 : decode cX6_copyFrom 62 = .ok (.aload_n 0, 1) := by decide +kernel
theorem dX6_copyFrom_63 : decode cX6_copyFrom 63 = .ok (.aload_n 1, 1) := by decide +kernel
theorem dX6_copyFrom_64 : decode cX6_copyFrom 64 = .ok (.getfield 52, 3) := by decide +kernel
theorem dX6_copyFrom_67 : decode cX6_copyFrom 67 = .ok (.putfield 52, 3) := by decide +kernel
theorem dX6_copyFrom_70 : decode cX6_copyFrom 70 = .ok (.aload_n 0, 1) := by decide +kernel
theorem dX6_copyFrom_71 : decode cX6_copyFrom 71 = .ok (.aload_n 1, 1) := by decide +kernel
theorem dX6_copyFrom_72 : decode cX6_copyFrom 72 = .ok (.getfield 55, 3) := by decide +kernel
theorem dX6_copyFrom_75 : decode cX6_copyFrom 75 = .ok (.putfield 55, 3) := by decide +kernel
theorem dX6_copyFrom_78 : decode cX6_copyFrom 78 = .ok (.aload_n 0, 1) := by decide +kernel
theorem dX6_copyFrom_79 : decode cX6_copyFrom 79 = .ok (.aload_n 1, 1) := by decide +kernel
theorem dX6_copyFrom_80 : decode cX6_copyFrom 80 = .ok (.getfield 58, 3) := by decide +kernel
theorem dX6_copyFrom_83 : decode cX6_copyFrom 83 = .ok (.putfield 58, 3) := by decide +kernel
theorem dX6_copyFrom_86 : decode cX6_copyFrom 86 = .ok (.aload_n 0, 1) := by decide +kernel
theorem dX6_copyFrom_87 : decode cX6_copyFrom 87 = .ok (.aload_n 1, 1) := by decide +kernel
theorem dX6_copyFrom_88 : decode cX6_copyFrom 88 = .ok (.getfield 61, 3) := by decide +kernel
theorem dX6_copyFrom_91 : decode cX6_copyFrom 91 = .ok (.putfield 61, 3) := by decide +kernel
theorem dX6_copyFrom_94 : decode cX6_copyFrom 94 = .ok (.aload_n 0, 1) := by decide +kernel
theorem dX6_copyFrom_95 : decode cX6_copyFrom 95 = .ok (.aload_n 1, 1) := by decide +kernel
theorem dX6_copyFrom_96 : decode cX6_copyFrom 96 = .ok (.getfield 64, 3) := by decide +kernel
theorem dX6_copyFrom_99 : decode cX6_copyFrom 99 = .ok (.putfield 64, 3) := by decide +kernel
theorem dX6_copyFrom_102 : decode cX6_copyFrom 102 = .ok (.aload_n 0, 1) := by decide +kernel
theorem dX6_copyFrom_103 : decode cX6_copyFrom 103 = .ok (.aload_n 1, 1) := by decide +kernel
theorem dX6_copyFrom_104 : decode cX6_copyFrom 104 = .ok (.getfield 67, 3) := by decide +kernel
theorem dX6_copyFrom_107 : decode cX6_copyFrom 107 = .ok (.putfield 67, 3) := by decide +kernel
theorem dX6_copyFrom_110 : decode cX6_copyFrom 110 = .ok (.aload_n 0, 1) := by decide +kernel
theorem dX6_copyFrom_111 : decode cX6_copyFrom 111 = .ok (.aload_n 1, 1) := by decide +kernel
theorem dX6_copyFrom_112 : decode cX6_copyFrom 112 = .ok (.getfield 70, 3) := by decide +kernel
theorem dX6_copyFrom_115 : decode cX6_copyFrom 115 = .ok (.putfield 70, 3) := by decide +kernel
theorem dX6_copyFrom_118 : decode cX6_copyFrom 118 = .ok (.return_, 1) := by decide +kernel
theorem dX6_isAt_0 : decode cX6_isAt 0 = .ok (.aload_n 0, 1) := by decide +kernel
theorem dX6_isAt_1 : decode cX6_isAt 1 = .ok (.getfield 39, 3) := by decide +kernel
theorem dX6_isAt_4 : decode cX6_isAt 4 = .ok (.iload_n 1, 1) := by decide +kernel
theorem dX6_isAt_5 : decode cX6_isAt 5 = .ok (.ishr, 1) := by decide +kernel
theorem dX6_isAt_6 : decode cX6_isAt 6 = .ok (.iconst 1, 1) := by decide +kernel
theorem dX6_isAt_7 : decode cX6_isAt 7 = .ok (.iand, 1) := by decide +kernel
theorem dX6_isAt_8 : decode cX6_isAt 8 = .ok (.iconst 1, 1) := by decide +kernel
theorem dX6_isAt_9 : decode cX6_isAt 9 = .ok (.if_icmp .ne 7, 3) := by decide +kernel
theorem dX6_isAt_12 : decode cX6_isAt 12 = .ok (.iconst 1, 1) := by decide +kernel
theorem dX6_isAt_13 : decode cX6_isAt 13 = .ok (.goto 4, 3) := by decide +kernel
theorem dX6_isAt_16 : decode cX6_isAt 16 = .ok (.iconst 0, 1) := by decide +kernel
theorem dX6_isAt_17 : decode cX6_isAt 17 = .ok (.ireturn, 1) := by decide +kernel
theorem dX6_isAwake_0 : decode cX6_isAwake 0 = .ok (.aload_n 0, 1) := by decide +kernel
theorem dX6_isAwake_1 : decode cX6_isAwake 1 = .ok (.getfield 45, 3) := by decide +kernel
theorem dX6_isAwake_4 : decode cX6_isAwake 4 = .ok (.ifCond .ne 14, 3) := by decide +kernel
theorem dX6_isAwake_7 : decode cX6_isAwake 7 = .ok (.aload_n 0, 1) := by decide +kernel
theorem dX6_isAwake_8 : decode cX6_isAwake 8 = .ok (.getfield 49, 3) := by decide +kernel
theorem dX6_isAwake_11 : decode cX6_isAwake 11 = .ok (.ifCond .ne 7, 3) := by decide +kernel
theorem dX6_isAwake_14 : decode cX6_isAwake 14 = .ok (.iconst 1, 1) := by decide +kernel
theorem dX6_isAwake_15 : decode cX6_isAwake 15 = .ok (.goto 4, 3) := by decide +kernel
theorem dX6_isAwake_18 : decode cX6_isAwake 18 = .ok (.iconst 0, 1) := by decide +kernel
theorem dX6_isAwake_19 : decode cX6_isAwake 19 = .ok (.ireturn, 1) := by decide +kernel
theorem dX6_isSpeaking_0 : decode cX6_isSpeaking 0 = .ok (.aload_n 0, 1) := by decide +kernel
theorem dX6_isSpeaking_1 : decode cX6_isSpeaking 1 = .ok (.getfield 25, 3) := by decide +kernel
theorem dX6_isSpeaking_4 : decode cX6_isSpeaking 4 = .ok (.iconst (-1), 1) := by decide +kernel
theorem dX6_isSpeaking_5 : decode cX6_isSpeaking 5 = .ok (.if_icmp .eq 7, 3) := by decide +kernel
theorem dX6_isSpeaking_8 : decode cX6_isSpeaking 8 = .ok (.iconst 1, 1) := by decide +kernel
theorem dX6_isSpeaking_9 : decode cX6_isSpeaking 9 = .ok (.goto 4, 3) := by decide +kernel
theorem dX6_isSpeaking_12 : decode cX6_isSpeaking 12 = .ok (.iconst 0, 1) := by decide +kernel
theorem dX6_isSpeaking_13 : decode cX6_isSpeaking 13 = .ok (.ireturn, 1) := by decide +kernel
theorem dX6_letsGo_0 : decode cX6_letsGo 0 = .ok (.aload_n 0, 1) := by decide +kernel
theorem dX6_letsGo_1 : decode cX6_letsGo 1 = .ok (.getfield 55, 3) := by decide +kernel
theorem dX6_letsGo_4 : decode cX6_letsGo 4 = .ok (.bipush 10, 2) := by decide +kernel
theorem dX6_letsGo_6 : decode cX6_letsGo 6 = .ok (.aload_n 0, 1) := by decide +kernel
theorem dX6_letsGo_7 : decode cX6_letsGo 7 = .ok (.getfield 25, 3) := by decide +kernel
theorem dX6_letsGo_10 : decode cX6_letsGo 10 = .ok (.isub, 1) := by decide +kernel
theorem dX6_letsGo_11 : decode cX6_letsGo 11 = .ok (.ishr, 1) := by decide +kernel
theorem dX6_letsGo_12 : decode cX6_letsGo 12 = .ok (.iconst 1, 1) := by decide +kernel
theorem dX6_letsGo_13 : decode cX6_letsGo 13 = .ok (.iand, 1) := by decide +kernel
theorem dX6_letsGo_14 : decode cX6_letsGo 14 = .ok (.iconst 1, 1) := by decide +kernel
theorem dX6_letsGo_15 : decode cX6_letsGo 15 = .ok (.if_icmp .ne 7, 3) := by decide +kernel
theorem dX6_letsGo_18 : decode cX6_letsGo 18 = .ok (.iconst 1, 1) := by decide +kernel
theorem dX6_letsGo_19 : decode cX6_letsGo 19 = .ok (.goto 4, 3) := by decide +kernel
theorem dX6_letsGo_22 : decode cX6_letsGo 22 = .ok (.iconst 0, 1) := by decide +kernel
theorem dX6_letsGo_23 : decode cX6_letsGo 23 = .ok (.ireturn, 1) := by decide +kernel
theorem dX6_begin_0 : decode cX6_begin 0 = .ok (.aload_n 0, 1) := by decide +kernel
theorem dX6_begin_1 : decode cX6_begin 1 = .ok (.iconst 0, 1) := by decide +kernel
theorem dX6_begin_2 : decode cX6_begin 2 = .ok (.putfield 25, 3) := by decide +kernel
theorem dX6_begin_5 : decode cX6_begin 5 = .ok (.aload_n 0, 1) := by decide +kernel
theorem dX6_begin_6 : decode cX6_begin 6 = .ok (.iconst 1, 1) := by decide +kernel
theorem dX6_begin_7 : decode cX6_begin 7 = .ok (.iload_n 1, 1) := by decide +kernel
theorem dX6_begin_8 : decode cX6_begin 8 = .ok (.ishl, 1) := by decide +kernel
theorem dX6_begin_9 : decode cX6_begin 9 = .ok (.putfield 52, 3) := by decide +kernel
theorem dX6_begin_12 : decode cX6_begin 12 = .ok (.aload_n 0, 1) := by decide +kernel
theorem dX6_begin_13 : decode cX6_begin 13 = .ok (.aload_n 0, 1) := by decide +kernel
theorem dX6_begin_14 : decode cX6_begin 14 = .ok (.getfield 29, 3) := by decide +kernel
theorem dX6_begin_17 : decode cX6_begin 17 = .ok (.bipush 8, 2) := by decide +kernel
theorem dX6_begin_19 : decode cX6_begin 19 = .ok (.ishl, 1) := by decide +kernel
theorem dX6_begin_20 : decode cX6_begin 20 = .ok (.aload_n 0, 1) := by decide +kernel
theorem dX6_begin_21 : decode cX6_begin 21 = .ok (.getfield 12, 3) := by decide +kernel
theorem dX6_begin_24 : decode cX6_begin 24 = .ok (.iconst 0, 1) := by decide +kernel
theorem dX6_begin_25 : decode cX6_begin 25 = .ok (.invokevirtual 73, 3) := by decide +kernel
theorem dX6_begin_28 : decode cX6_begin 28 = .ok (.ior, 1) := by decide +kernel
theorem dX6_begin_29 : decode cX6_begin 29 = .ok (.putfield 55, 3) := by decide +kernel
theorem dX6_begin_32 : decode cX6_begin 32 = .ok (.aload_n 0, 1) := by decide +kernel
theorem dX6_begin_33 : decode cX6_begin 33 = .ok (.iload_n 2, 1) := by decide +kernel
theorem dX6_begin_34 : decode cX6_begin 34 = .ok (.putfield 58, 3) := by decide +kernel
theorem dX6_begin_37 : decode cX6_begin 37 = .ok (.return_, 1) := by decide +kernel
theorem dX6_fallSilent_0 : decode cX6_fallSilent 0 = .ok (.aload_n 0, 1) := by decide +kernel
theorem dX6_fallSilent_1 : decode cX6_fallSilent 1 = .ok (.iconst (-1), 1) := by decide +kernel
theorem dX6_fallSilent_2 : decode cX6_fallSilent 2 = .ok (.putfield 25, 3) := by decide +kernel
theorem dX6_fallSilent_5 : decode cX6_fallSilent 5 = .ok (.aload_n 0, 1) := by decide +kernel
theorem dX6_fallSilent_6 : decode cX6_fallSilent 6 = .ok (.iconst 0, 1) := by decide +kernel
theorem dX6_fallSilent_7 : decode cX6_fallSilent 7 = .ok (.putfield 52, 3) := by decide +kernel
theorem dX6_fallSilent_10 : decode cX6_fallSilent 10 = .ok (.aload_n 0, 1) := by decide +kernel
theorem dX6_fallSilent_11 : decode cX6_fallSilent 11 = .ok (.iconst 0, 1) := by decide +kernel
theorem dX6_fallSilent_12 : decode cX6_fallSilent 12 = .ok (.putfield 55, 3) := by decide +kernel
theorem dX6_fallSilent_15 : decode cX6_fallSilent 15 = .ok (.aload_n 0, 1) := by decide +kernel
theorem dX6_fallSilent_16 : decode cX6_fallSilent 16 = .ok (.iconst 0, 1) := by decide +kernel
theorem dX6_fallSilent_17 : decode cX6_fallSilent 17 = .ok (.putfield 58, 3) := by decide +kernel
theorem dX6_fallSilent_20 : decode cX6_fallSilent 20 = .ok (.return_, 1) := by decide +kernel
theorem dX6_fact_0 : decode cX6_fact 0 = .ok (.iload_n 1, 1) := by decide +kernel
theorem dX6_fact_1 : decode cX6_fact 1 = .ok (.tableswitch 139 0 9 #[55, 60, 65, 89, 97, 114, 119, 124, 129, 134], 55) := by decide +kernel
theorem dX6_fact_56 : decode cX6_fact 56 = .ok (.aload_n 0, 1) := by decide +kernel
theorem dX6_fact_57 : decode cX6_fact 57 = .ok (.getfield 39, 3) := by decide +kernel
theorem dX6_fact_60 : decode cX6_fact 60 = .ok (.ireturn, 1) := by decide +kernel
theorem dX6_fact_61 : decode cX6_fact 61 = .ok (.aload_n 0, 1) := by decide +kernel
theorem dX6_fact_62 : decode cX6_fact 62 = .ok (.getfield 42, 3) := by decide +kernel
theorem dX6_fact_65 : decode cX6_fact 65 = .ok (.ireturn, 1) := by decide +kernel
theorem dX6_fact_66 : decode cX6_fact 66 = .ok (.aload_n 0, 1) := by decide +kernel
theorem dX6_fact_67 : decode cX6_fact 67 = .ok (.getfield 49, 3) := by decide +kernel
theorem dX6_fact_70 : decode cX6_fact 70 = .ok (.ifCond .eq 7, 3) := by decide +kernel
theorem dX6_fact_73 : decode cX6_fact 73 = .ok (.iconst 2, 1) := by decide +kernel
theorem dX6_fact_74 : decode cX6_fact 74 = .ok (.goto 15, 3) := by decide +kernel
theorem dX6_fact_77 : decode cX6_fact 77 = .ok (.aload_n 0, 1) := by decide +kernel
theorem dX6_fact_78 : decode cX6_fact 78 = .ok (.getfield 45, 3) := by decide +kernel
theorem dX6_fact_81 : decode cX6_fact 81 = .ok (.ifCond .eq 7, 3) := by decide +kernel
theorem dX6_fact_84 : decode cX6_fact 84 = .ok (.iconst 1, 1) := by decide +kernel
theorem dX6_fact_85 : decode cX6_fact 85 = .ok (.goto 4, 3) := by decide +kernel
theorem dX6_fact_88 : decode cX6_fact 88 = .ok (.iconst 0, 1) := by decide +kernel
theorem dX6_fact_89 : decode cX6_fact 89 = .ok (.ireturn, 1) := by decide +kernel
theorem dX6_fact_90 : decode cX6_fact 90 = .ok (.aload_n 0, 1) := by decide +kernel
theorem dX6_fact_91 : decode cX6_fact 91 = .ok (.getfield 12, 3) := by decide +kernel
theorem dX6_fact_94 : decode cX6_fact 94 = .ok (.getfield 77, 3) := by decide +kernel
theorem dX6_fact_97 : decode cX6_fact 97 = .ok (.ireturn, 1) := by decide +kernel
theorem dX6_fact_98 : decode cX6_fact 98 = .ok (.aload_n 0, 1) := by decide +kernel
theorem dX6_fact_99 : decode cX6_fact 99 = .ok (.invokevirtual 80, 3) := by decide +kernel
theorem dX6_fact_102 : decode cX6_fact 102 = .ok (.ifCond .eq 10, 3) := by decide +kernel
theorem dX6_fact_105 : decode cX6_fact 105 = .ok (.aload_n 0, 1) := by decide +kernel
theorem dX6_fact_106 : decode cX6_fact 106 = .ok (.getfield 25, 3) := by decide +kernel
theorem dX6_fact_109 : decode cX6_fact 109 = .ok (.goto 5, 3) := by decide +kernel
theorem dX6_fact_112 : decode cX6_fact 112 = .ok (.bipush (-6), 2) := by decide +kernel
theorem dX6_fact_114 : decode cX6_fact 114 = .ok (.ireturn, 1) := by decide +kernel
theorem dX6_fact_115 : decode cX6_fact 115 = .ok (.aload_n 0, 1) := by decide +kernel
theorem dX6_fact_116 : decode cX6_fact 116 = .ok (.getfield 58, 3) := by decide +kernel
theorem dX6_fact_119 : decode cX6_fact 119 = .ok (.ireturn, 1) := by decide +kernel
theorem dX6_fact_120 : decode cX6_fact 120 = .ok (.aload_n 0, 1) := by decide +kernel
theorem dX6_fact_121 : decode cX6_fact 121 = .ok (.getfield 61, 3) := by decide +kernel
theorem dX6_fact_124 : decode cX6_fact 124 = .ok (.ireturn, 1) := by decide +kernel
theorem dX6_fact_125 : decode cX6_fact 125 = .ok (.aload_n 0, 1) := by decide +kernel
theorem dX6_fact_126 : decode cX6_fact 126 = .ok (.getfield 64, 3) := by decide +kernel
theorem dX6_fact_129 : decode cX6_fact 129 = .ok (.ireturn, 1) := by decide +kernel
theorem dX6_fact_130 : decode cX6_fact 130 = .ok (.aload_n 0, 1) := by decide +kernel
theorem dX6_fact_131 : decode cX6_fact 131 = .ok (.getfield 67, 3) := by decide +kernel
theorem dX6_fact_134 : decode cX6_fact 134 = .ok (.ireturn, 1) := by decide +kernel
theorem dX6_fact_135 : decode cX6_fact 135 = .ok (.aload_n 0, 1) := by decide +kernel
theorem dX6_fact_136 : decode cX6_fact 136 = .ok (.getfield 70, 3) := by decide +kernel
theorem dX6_fact_139 : decode cX6_fact 139 = .ok (.ireturn, 1) := by decide +kernel
theorem dX6_fact_140 : decode cX6_fact 140 = .ok (.bipush (-2), 2) := by decide +kernel
theorem dX6_fact_142 : decode cX6_fact 142 = .ok (.ireturn, 1) := by decide +kernel
theorem dX7_init_0 : decode cX7_init 0 = .ok (.aload_n 0, 1) := by decide +kernel
theorem dX7_init_1 : decode cX7_init 1 = .ok (.invokespecial 1, 3) := by decide +kernel
theorem dX7_init_4 : decode cX7_init 4 = .ok (.aload_n 0, 1) := by decide +kernel
theorem dX7_init_5 : decode cX7_init 5 = .ok (.new 7, 3) := by decide +kernel
theorem dX7_init_8 : decode cX7_init 8 = .ok (.dup, 1) := by decide +kernel
theorem dX7_init_9 : decode cX7_init 9 = .ok (.invokespecial 9, 3) := by decide +kernel
theorem dX7_init_12 : decode cX7_init 12 = .ok (.putfield 10, 3) := by decide +kernel
theorem dX7_init_15 : decode cX7_init 15 = .ok (.aload_n 0, 1) := by decide +kernel
theorem dX7_init_16 : decode cX7_init 16 = .ok (.new 7, 3) := by decide +kernel
theorem dX7_init_19 : decode cX7_init 19 = .ok (.dup, 1) := by decide +kernel
theorem dX7_init_20 : decode cX7_init 20 = .ok (.invokespecial 9, 3) := by decide +kernel
theorem dX7_init_23 : decode cX7_init 23 = .ok (.putfield 16, 3) := by decide +kernel
theorem dX7_init_26 : decode cX7_init 26 = .ok (.aload_n 0, 1) := by decide +kernel
theorem dX7_init_27 : decode cX7_init 27 = .ok (.new 19, 3) := by decide +kernel
theorem dX7_init_30 : decode cX7_init 30 = .ok (.dup, 1) := by decide +kernel
theorem dX7_init_31 : decode cX7_init 31 = .ok (.invokespecial 21, 3) := by decide +kernel
theorem dX7_init_34 : decode cX7_init 34 = .ok (.putfield 22, 3) := by decide +kernel
theorem dX7_init_37 : decode cX7_init 37 = .ok (.aload_n 0, 1) := by decide +kernel
theorem dX7_init_38 : decode cX7_init 38 = .ok (.iconst 2, 1) := by decide +kernel
theorem dX7_init_39 : decode cX7_init 39 = .ok (.anewarray 7, 3) := by decide +kernel
theorem dX7_init_42 : decode cX7_init 42 = .ok (.putfield 26, 3) := by decide +kernel
theorem dX7_init_45 : decode cX7_init 45 = .ok (.aload_n 0, 1) := by decide +kernel
theorem dX7_init_46 : decode cX7_init 46 = .ok (.new 30, 3) := by decide +kernel
theorem dX7_init_49 : decode cX7_init 49 = .ok (.dup, 1) := by decide +kernel
theorem dX7_init_50 : decode cX7_init 50 = .ok (.invokespecial 32, 3) := by decide +kernel
theorem dX7_init_53 : decode cX7_init 53 = .ok (.putfield 33, 3) := by decide +kernel
theorem dX7_init_56 : decode cX7_init 56 = .ok (.aload_n 0, 1) := by decide +kernel
theorem dX7_init_57 : decode cX7_init 57 = .ok (.new 37, 3) := by decide +kernel
theorem dX7_init_60 : decode cX7_init 60 = .ok (.dup, 1) := by decide +kernel
theorem dX7_init_61 : decode cX7_init 61 = .ok (.aload_n 0, 1) := by decide +kernel
theorem dX7_init_62 : decode cX7_init 62 = .ok (.getfield 33, 3) := by decide +kernel
theorem dX7_init_65 : decode cX7_init 65 = .ok (.invokespecial 39, 3) := by decide +kernel
theorem dX7_init_68 : decode cX7_init 68 = .ok (.putfield 42, 3) := by decide +kernel
theorem dX7_init_71 : decode cX7_init 71 = .ok (.return_, 1) := by decide +kernel
theorem dX7_set_0 : decode cX7_set 0 = .ok (.aload_n 0, 1) := by decide +kernel
theorem dX7_set_1 : decode cX7_set 1 = .ok (.getfield 22, 3) := by decide +kernel
theorem dX7_set_4 : decode cX7_set 4 = .ok (.aload_n 0, 1) := by decide +kernel
theorem dX7_set_5 : decode cX7_set 5 = .ok (.getfield 10, 3) := by decide +kernel
theorem dX7_set_8 : decode cX7_set 8 = .ok (.invokevirtual 46, 3) := by decide +kernel
theorem dX7_set_11 : decode cX7_set 11 = .ok (.aload_n 0, 1) := by decide +kernel
theorem dX7_set_12 : decode cX7_set 12 = .ok (.getfield 22, 3) := by decide +kernel
theorem dX7_set_15 : decode cX7_set 15 = .ok (.aload_n 0, 1) := by decide +kernel
theorem dX7_set_16 : decode cX7_set 16 = .ok (.getfield 10, 3) := by decide +kernel
theorem dX7_set_19 : decode cX7_set 19 = .ok (.iload_n 1, 1) := by decide +kernel
theorem dX7_set_20 : decode cX7_set 20 = .ok (.iload_n 2, 1) := by decide +kernel
theorem dX7_set_21 : decode cX7_set 21 = .ok (.invokevirtual 50, 3) := by decide +kernel
theorem dX7_set_24 : decode cX7_set 24 = .ok (.invokevirtual 54, 3) := by decide +kernel
theorem dX7_set_27 : decode cX7_set 27 = .ok (.ireturn, 1) := by decide +kernel
theorem dX7_station_0 : decode cX7_station 0 = .ok (.aload_n 0, 1) := by decide +kernel
theorem dX7_station_1 : decode cX7_station 1 = .ok (.getfield 22, 3) := by decide +kernel
theorem dX7_station_4 : decode cX7_station 4 = .ok (.aload_n 0, 1) := by decide +kernel
theorem dX7_station_5 : decode cX7_station 5 = .ok (.getfield 10, 3) := by decide +kernel
theorem dX7_station_8 : decode cX7_station 8 = .ok (.invokevirtual 46, 3) := by decide +kernel
theorem dX7_station_11 : decode cX7_station 11 = .ok (.aload_n 0, 1) := by decide +kernel
theorem dX7_station_12 : decode cX7_station 12 = .ok (.getfield 22, 3) := by decide +kernel
theorem dX7_station_15 : decode cX7_station 15 = .ok (.aload_n 0, 1) := by decide +kernel
theorem dX7_station_16 : decode cX7_station 16 = .ok (.getfield 10, 3) := by decide +kernel
theorem dX7_station_19 : decode cX7_station 19 = .ok (.iload_n 1, 1) := by decide +kernel
theorem dX7_station_20 : decode cX7_station 20 = .ok (.invokevirtual 58, 3) := by decide +kernel
theorem dX7_station_23 : decode cX7_station 23 = .ok (.invokevirtual 54, 3) := by decide +kernel
theorem dX7_station_26 : decode cX7_station 26 = .ok (.ireturn, 1) := by decide +kernel
theorem dX7_word_0 : decode cX7_word 0 = .ok (.aload_n 0, 1) := by decide +kernel
theorem dX7_word_1 : decode cX7_word 1 = .ok (.getfield 22, 3) := by decide +kernel
theorem dX7_word_4 : decode cX7_word 4 = .ok (.aload_n 0, 1) := by decide +kernel
theorem dX7_word_5 : decode cX7_word 5 = .ok (.getfield 10, 3) := by decide +kernel
theorem dX7_word_8 : decode cX7_word 8 = .ok (.invokevirtual 46, 3) := by decide +kernel
theorem dX7_word_11 : decode cX7_word 11 = .ok (.aload_n 0, 1) := by decide +kernel
theorem dX7_word_12 : decode cX7_word 12 = .ok (.getfield 22, 3) := by decide +kernel
theorem dX7_word_15 : decode cX7_word 15 = .ok (.aload_n 0, 1) := by decide +kernel
theorem dX7_word_16 : decode cX7_word 16 = .ok (.getfield 10, 3) := by decide +kernel
theorem dX7_word_19 : decode cX7_word 19 = .ok (.iload_n 1, 1) := by decide +kernel
theorem dX7_word_20 : decode cX7_word 20 = .ok (.iload_n 2, 1) := by decide +kernel
theorem dX7_word_21 : decode cX7_word 21 = .ok (.iload_n 3, 1) := by decide +kernel
theorem dX7_word_22 : decode cX7_word 22 = .ok (.invokevirtual 61, 3) := by decide +kernel
theorem dX7_word_25 : decode cX7_word 25 = .ok (.invokevirtual 54, 3) := by decide +kernel
theorem dX7_word_28 : decode cX7_word 28 = .ok (.ireturn, 1) := by decide +kernel
theorem dX7_forget_0 : decode cX7_forget 0 = .ok (.aload_n 0, 1) := by decide +kernel
theorem dX7_forget_1 : decode cX7_forget 1 = .ok (.getfield 22, 3) := by decide +kernel
theorem dX7_forget_4 : decode cX7_forget 4 = .ok (.aload_n 0, 1) := by decide +kernel
theorem dX7_forget_5 : decode cX7_forget 5 = .ok (.getfield 10, 3) := by decide +kernel
theorem dX7_forget_8 : decode cX7_forget 8 = .ok (.invokevirtual 46, 3) := by decide +kernel
theorem dX7_forget_11 : decode cX7_forget 11 = .ok (.aload_n 0, 1) := by decide +kernel
theorem dX7_forget_12 : decode cX7_forget 12 = .ok (.getfield 22, 3) := by decide +kernel
theorem dX7_forget_15 : decode cX7_forget 15 = .ok (.aload_n 0, 1) := by decide +kernel
theorem dX7_forget_16 : decode cX7_forget 16 = .ok (.getfield 10, 3) := by decide +kernel
theorem dX7_forget_19 : decode cX7_forget 19 = .ok (.iload_n 1, 1) := by decide +kernel
theorem dX7_forget_20 : decode cX7_forget 20 = .ok (.invokevirtual 65, 3) := by decide +kernel
theorem dX7_forget_23 : decode cX7_forget 23 = .ok (.invokevirtual 54, 3) := by decide +kernel
theorem dX7_forget_26 : decode cX7_forget 26 = .ok (.ireturn, 1) := by decide +kernel
theorem dX7_stick_0 : decode cX7_stick 0 = .ok (.aload_n 0, 1) := by decide +kernel
theorem dX7_stick_1 : decode cX7_stick 1 = .ok (.getfield 22, 3) := by decide +kernel
theorem dX7_stick_4 : decode cX7_stick 4 = .ok (.aload_n 0, 1) := by decide +kernel
theorem dX7_stick_5 : decode cX7_stick 5 = .ok (.getfield 10, 3) := by decide +kernel
theorem dX7_stick_8 : decode cX7_stick 8 = .ok (.invokevirtual 46, 3) := by decide +kernel
theorem dX7_stick_11 : decode cX7_stick 11 = .ok (.aload_n 0, 1) := by decide +kernel
theorem dX7_stick_12 : decode cX7_stick 12 = .ok (.getfield 22, 3) := by decide +kernel
theorem dX7_stick_15 : decode cX7_stick 15 = .ok (.aload_n 0, 1) := by decide +kernel
theorem dX7_stick_16 : decode cX7_stick 16 = .ok (.getfield 10, 3) := by decide +kernel
theorem dX7_stick_19 : decode cX7_stick 19 = .ok (.iload_n 1, 1) := by decide +kernel
theorem dX7_stick_20 : decode cX7_stick 20 = .ok (.invokevirtual 68, 3) := by decide +kernel
theorem dX7_stick_23 : decode cX7_stick 23 = .ok (.invokevirtual 54, 3) := by decide +kernel
theorem dX7_stick_26 : decode cX7_stick 26 = .ok (.ireturn, 1) := by decide +kernel
theorem dX7_doze_0 : decode cX7_doze 0 = .ok (.aload_n 0, 1) := by decide +kernel
theorem dX7_doze_1 : decode cX7_doze 1 = .ok (.getfield 22, 3) := by decide +kernel
theorem dX7_doze_4 : decode cX7_doze 4 = .ok (.aload_n 0, 1) := by decide +kernel
theorem dX7_doze_5 : decode cX7_doze 5 = .ok (.getfield 10, 3) := by decide +kernel
theorem dX7_doze_8 : decode cX7_doze 8 = .ok (.invokevirtual 46, 3) := by decide +kernel
theorem dX7_doze_11 : decode cX7_doze 11 = .ok (.aload_n 0, 1) := by decide +kernel
theorem dX7_doze_12 : decode cX7_doze 12 = .ok (.getfield 22, 3) := by decide +kernel
theorem dX7_doze_15 : decode cX7_doze 15 = .ok (.aload_n 0, 1) := by decide +kernel
theorem dX7_doze_16 : decode cX7_doze 16 = .ok (.getfield 10, 3) := by decide +kernel
theorem dX7_doze_19 : decode cX7_doze 19 = .ok (.iload_n 1, 1) := by decide +kernel
theorem dX7_doze_20 : decode cX7_doze 20 = .ok (.invokevirtual 71, 3) := by decide +kernel
theorem dX7_doze_23 : decode cX7_doze 23 = .ok (.invokevirtual 54, 3) := by decide +kernel
theorem dX7_doze_26 : decode cX7_doze 26 = .ok (.ireturn, 1) := by decide +kernel
theorem dX7_pass_0 : decode cX7_pass 0 = .ok (.aload_n 0, 1) := by decide +kernel
theorem dX7_pass_1 : decode cX7_pass 1 = .ok (.getfield 22, 3) := by decide +kernel
theorem dX7_pass_4 : decode cX7_pass 4 = .ok (.aload_n 0, 1) := by decide +kernel
theorem dX7_pass_5 : decode cX7_pass 5 = .ok (.getfield 10, 3) := by decide +kernel
theorem dX7_pass_8 : decode cX7_pass 8 = .ok (.invokevirtual 46, 3) := by decide +kernel
theorem dX7_pass_11 : decode cX7_pass 11 = .ok (.aload_n 0, 1) := by decide +kernel
theorem dX7_pass_12 : decode cX7_pass 12 = .ok (.getfield 22, 3) := by decide +kernel
theorem dX7_pass_15 : decode cX7_pass 15 = .ok (.aload_n 0, 1) := by decide +kernel
theorem dX7_pass_16 : decode cX7_pass 16 = .ok (.getfield 10, 3) := by decide +kernel
theorem dX7_pass_19 : decode cX7_pass 19 = .ok (.iload_n 1, 1) := by decide +kernel
theorem dX7_pass_20 : decode cX7_pass 20 = .ok (.invokevirtual 74, 3) := by decide +kernel
theorem dX7_pass_23 : decode cX7_pass 23 = .ok (.invokevirtual 54, 3) := by decide +kernel
theorem dX7_pass_26 : decode cX7_pass 26 = .ok (.ireturn, 1) := by decide +kernel
theorem dX7_ofWire_0 : decode cX7_ofWire 0 = .ok (.iload_n 1, 1) := by decide +kernel
theorem dX7_ofWire_1 : decode cX7_ofWire 1 = .ok (.invokestatic 77, 3) := by decide +kernel
theorem dX7_ofWire_4 : decode cX7_ofWire 4 = .ok (.ifCond .ne 5, 3) := by decide +kernel
theorem dX7_ofWire_7 : decode cX7_ofWire 7 = .ok (.iconst (-1), 1) := by decide +kernel
theorem dX7_ofWire_8 : decode cX7_ofWire 8 = .ok (.ireturn, 1) := by decide +kernel
theorem dX7_ofWire_9 : decode cX7_ofWire 9 = .ok (.iload_n 2, 1) := by decide +kernel
theorem dX7_ofWire_10 : decode cX7_ofWire 10 = .ok (.tableswitch 118 0 6 #[42, 52, 69, 78, 89, 98, 108], 42) := by decide +kernel
theorem dX7_ofWire_52 : decode cX7_ofWire 52 = .ok (.aload_n 0, 1) := by decide +kernel
theorem dX7_ofWire_53 : decode cX7_ofWire 53 = .ok (.getfield 10, 3) := by decide +kernel
theorem dX7_ofWire_56 : decode cX7_ofWire 56 = .ok (.getfield 81, 3) := by decide +kernel
theorem dX7_ofWire_59 : decode cX7_ofWire 59 = .ok (.iload_n 1, 1) := by decide +kernel
theorem dX7_ofWire_60 : decode cX7_ofWire 60 = .ok (.iaload, 1) := by decide +kernel
theorem dX7_ofWire_61 : decode cX7_ofWire 61 = .ok (.ireturn, 1) := by decide +kernel
theorem dX7_ofWire_62 : decode cX7_ofWire 62 = .ok (.aload_n 0, 1) := by decide +kernel
theorem dX7_ofWire_63 : decode cX7_ofWire 63 = .ok (.getfield 10, 3) := by decide +kernel
theorem dX7_ofWire_66 : decode cX7_ofWire 66 = .ok (.iload_n 1, 1) := by decide +kernel
theorem dX7_ofWire_67 : decode cX7_ofWire 67 = .ok (.invokevirtual 85, 3) := by decide +kernel
theorem dX7_ofWire_70 : decode cX7_ofWire 70 = .ok (.ifCond .eq 7, 3) := by decide +kernel
theorem dX7_ofWire_73 : decode cX7_ofWire 73 = .ok (.iconst 1, 1) := by decide +kernel
theorem dX7_ofWire_74 : decode cX7_ofWire 74 = .ok (.goto 4, 3) := by decide +kernel
theorem dX7_ofWire_77 : decode cX7_ofWire 77 = .ok (.iconst 0, 1) := by decide +kernel
theorem dX7_ofWire_78 : decode cX7_ofWire 78 = .ok (.ireturn, 1) := by decide +kernel
theorem dX7_ofWire_79 : decode cX7_ofWire 79 = .ok (.aload_n 0, 1) := by decide +kernel
theorem dX7_ofWire_80 : decode cX7_ofWire 80 = .ok (.getfield 10, 3) := by decide +kernel
theorem dX7_ofWire_83 : decode cX7_ofWire 83 = .ok (.iload_n 1, 1) := by decide +kernel
theorem dX7_ofWire_84 : decode cX7_ofWire 84 = .ok (.invokevirtual 88, 3) := by decide +kernel
theorem dX7_ofWire_87 : decode cX7_ofWire 87 = .ok (.ireturn, 1) := by decide +kernel
theorem dX7_ofWire_88 : decode cX7_ofWire 88 = .ok (.aload_n 0, 1) := by decide +kernel
theorem dX7_ofWire_89 : decode cX7_ofWire 89 = .ok (.getfield 10, 3) := by decide +kernel
theorem dX7_ofWire_92 : decode cX7_ofWire 92 = .ok (.iconst 1, 1) := by decide +kernel
theorem dX7_ofWire_93 : decode cX7_ofWire 93 = .ok (.iload_n 1, 1) := by decide +kernel
theorem dX7_ofWire_94 : decode cX7_ofWire 94 = .ok (.ishl, 1) := by decide +kernel
theorem dX7_ofWire_95 : decode cX7_ofWire 95 = .ok (.invokevirtual 91, 3) := by decide +kernel
theorem dX7_ofWire_98 : decode cX7_ofWire 98 = .ok (.ireturn, 1) := by decide +kernel
theorem dX7_ofWire_99 : decode cX7_ofWire 99 = .ok (.aload_n 0, 1) := by decide +kernel
theorem dX7_ofWire_100 : decode cX7_ofWire 100 = .ok (.getfield 10, 3) := by decide +kernel
theorem dX7_ofWire_103 : decode cX7_ofWire 103 = .ok (.iload_n 1, 1) := by decide +kernel
theorem dX7_ofWire_104 : decode cX7_ofWire 104 = .ok (.invokevirtual 94, 3) := by decide +kernel
theorem dX7_ofWire_107 : decode cX7_ofWire 107 = .ok (.ireturn, 1) := by decide +kernel
theorem dX7_ofWire_108 : decode cX7_ofWire 108 = .ok (.aload_n 0, 1) := by decide +kernel
theorem dX7_ofWire_109 : decode cX7_ofWire 109 = .ok (.getfield 10, 3) := by decide +kernel
theorem dX7_ofWire_112 : decode cX7_ofWire 112 = .ok (.getfield 97, 3) := by decide +kernel
theorem dX7_ofWire_115 : decode cX7_ofWire 115 = .ok (.iload_n 1, 1) := by decide +kernel
theorem dX7_ofWire_116 : decode cX7_ofWire 116 = .ok (.iaload, 1) := by decide +kernel
theorem dX7_ofWire_117 : decode cX7_ofWire 117 = .ok (.ireturn, 1) := by decide +kernel
theorem dX7_ofWire_118 : decode cX7_ofWire 118 = .ok (.aload_n 0, 1) := by decide +kernel
theorem dX7_ofWire_119 : decode cX7_ofWire 119 = .ok (.getfield 10, 3) := by decide +kernel
theorem dX7_ofWire_122 : decode cX7_ofWire 122 = .ok (.getfield 100, 3) := by decide +kernel
theorem dX7_ofWire_125 : decode cX7_ofWire 125 = .ok (.iload_n 1, 1) := by decide +kernel
theorem dX7_ofWire_126 : decode cX7_ofWire 126 = .ok (.iaload, 1) := by decide +kernel
theorem dX7_ofWire_127 : decode cX7_ofWire 127 = .ok (.ireturn, 1) := by decide +kernel
theorem dX7_ofWire_128 : decode cX7_ofWire 128 = .ok (.bipush (-2), 2) := by decide +kernel
theorem dX7_ofWire_130 : decode cX7_ofWire 130 = .ok (.ireturn, 1) := by decide +kernel
theorem dX7_of_0 : decode cX7_of 0 = .ok (.aload_n 0, 1) := by decide +kernel
theorem dX7_of_1 : decode cX7_of 1 = .ok (.getfield 10, 3) := by decide +kernel
theorem dX7_of_4 : decode cX7_of 4 = .ok (.iload_n 1, 1) := by decide +kernel
theorem dX7_of_5 : decode cX7_of 5 = .ok (.invokevirtual 103, 3) := by decide +kernel
theorem dX7_of_8 : decode cX7_of 8 = .ok (.astore_n 3, 1) := by decide +kernel
theorem dX7_of_9 : decode cX7_of 9 = .ok (.aload_n 3, 1) := by decide +kernel
theorem dX7_of_10 : decode cX7_of 10 = .ok (.ifnonnull 7, 3) := by decide +kernel
theorem dX7_of_13 : decode cX7_of 13 = .ok (.iconst (-1), 1) := by decide +kernel
theorem dX7_of_14 : decode cX7_of 14 = .ok (.goto 8, 3) := by decide +kernel
theorem dX7_of_17 : decode cX7_of 17 = .ok (.aload_n 3, 1) := by decide +kernel
theorem dX7_of_18 : decode cX7_of 18 = .ok (.iload_n 2, 1) := by decide +kernel
theorem dX7_of_19 : decode cX7_of 19 = .ok (.invokevirtual 107, 3) := by decide +kernel
theorem dX7_of_22 : decode cX7_of 22 = .ok (.ireturn, 1) := by decide +kernel
theorem dX7_row_0 : decode cX7_row 0 = .ok (.aload_n 0, 1) := by decide +kernel
theorem dX7_row_1 : decode cX7_row 1 = .ok (.getfield 10, 3) := by decide +kernel
theorem dX7_row_4 : decode cX7_row 4 = .ok (.iload_n 1, 1) := by decide +kernel
theorem dX7_row_5 : decode cX7_row 5 = .ok (.invokevirtual 103, 3) := by decide +kernel
theorem dX7_row_8 : decode cX7_row 8 = .ok (.astore 4, 2) := by decide +kernel
theorem dX7_row_10 : decode cX7_row 10 = .ok (.aload 4, 2) := by decide +kernel
theorem dX7_row_12 : decode cX7_row 12 = .ok (.ifnull 15, 3) := by decide +kernel
theorem dX7_row_15 : decode cX7_row 15 = .ok (.aload 4, 2) := by decide +kernel
theorem dX7_row_17 : decode cX7_row 17 = .ok (.getfield 112, 3) := by decide +kernel
theorem dX7_row_20 : decode cX7_row 20 = .ok (.iload_n 2, 1) := by decide +kernel
theorem dX7_row_21 : decode cX7_row 21 = .ok (.invokevirtual 116, 3) := by decide +kernel
theorem dX7_row_24 : decode cX7_row 24 = .ok (.ifCond .ne 5, 3) := by decide +kernel
theorem dX7_row_27 : decode cX7_row 27 = .ok (.iconst (-1), 1) := by decide +kernel
theorem dX7_row_28 : decode cX7_row 28 = .ok (.ireturn, 1) := by decide +kernel
theorem dX7_row_29 : decode cX7_row 29 = .ok (.iload_n 3, 1) := by decide +kernel
theorem dX7_row_30 : decode cX7_row 30 = .ok (.tableswitch 56 0 2 #[26, 36, 46], 26) := by decide +kernel
theorem dX7_row_56 : decode cX7_row 56 = .ok (.aload 4, 2) := by decide +kernel
theorem dX7_row_58 : decode cX7_row 58 = .ok (.getfield 112, 3) := by decide +kernel
theorem dX7_row_61 : decode cX7_row 61 = .ok (.iload_n 2, 1) := by decide +kernel
theorem dX7_row_62 : decode cX7_row 62 = .ok (.invokevirtual 121, 3) := by decide +kernel
theorem dX7_row_65 : decode cX7_row 65 = .ok (.ireturn, 1) := by decide +kernel
theorem dX7_row_66 : decode cX7_row 66 = .ok (.aload 4, 2) := by decide +kernel
theorem dX7_row_68 : decode cX7_row 68 = .ok (.getfield 112, 3) := by decide +kernel
theorem dX7_row_71 : decode cX7_row 71 = .ok (.iload_n 2, 1) := by decide +kernel
theorem dX7_row_72 : decode cX7_row 72 = .ok (.invokevirtual 124, 3) := by decide +kernel
theorem dX7_row_75 : decode cX7_row 75 = .ok (.ireturn, 1) := by decide +kernel
theorem dX7_row_76 : decode cX7_row 76 = .ok (.aload 4, 2) := by decide +kernel
theorem dX7_row_78 : decode cX7_row 78 = .ok (.getfield 112, 3) := by decide +kernel
theorem dX7_row_81 : decode cX7_row 81 = .ok (.iload_n 2, 1) := by decide +kernel
theorem dX7_row_82 : decode cX7_row 82 = .ok (.invokevirtual 127, 3) := by decide +kernel
theorem dX7_row_85 : decode cX7_row 85 = .ok (.ireturn, 1) := by decide +kernel
theorem dX7_row_86 : decode cX7_row 86 = .ok (.bipush (-2), 2) := by decide +kernel
theorem dX7_row_88 : decode cX7_row 88 = .ok (.ireturn, 1) := by decide +kernel
theorem dX7_heard_0 : decode cX7_heard 0 = .ok (.aload_n 0, 1) := by decide +kernel
theorem dX7_heard_1 : decode cX7_heard 1 = .ok (.getfield 10, 3) := by decide +kernel
theorem dX7_heard_4 : decode cX7_heard 4 = .ok (.iload_n 1, 1) := by decide +kernel
theorem dX7_heard_5 : decode cX7_heard 5 = .ok (.invokevirtual 103, 3) := by decide +kernel
theorem dX7_heard_8 : decode cX7_heard 8 = .ok (.astore 4, 2) := by decide +kernel
theorem dX7_heard_10 : decode cX7_heard 10 = .ok (.aload 4, 2) := by decide +kernel
theorem dX7_heard_12 : decode cX7_heard 12 = .ok (.ifnull 15, 3) := by decide +kernel
theorem dX7_heard_15 : decode cX7_heard 15 = .ok (.aload 4, 2) := by decide +kernel
theorem dX7_heard_17 : decode cX7_heard 17 = .ok (.getfield 130, 3) := by decide +kernel
theorem dX7_heard_20 : decode cX7_heard 20 = .ok (.iload_n 2, 1) := by decide +kernel
theorem dX7_heard_21 : decode cX7_heard 21 = .ok (.invokevirtual 134, 3) := by decide +kernel
theorem dX7_heard_24 : decode cX7_heard 24 = .ok (.ifCond .ne 5, 3) := by decide +kernel
theorem dX7_heard_27 : decode cX7_heard 27 = .ok (.iconst (-1), 1) := by decide +kernel
theorem dX7_heard_28 : decode cX7_heard 28 = .ok (.ireturn, 1) := by decide +kernel
theorem dX7_heard_29 : decode cX7_heard 29 = .ok (.aload 4, 2) := by decide +kernel
theorem dX7_heard_31 : decode cX7_heard 31 = .ok (.getfield 130, 3) := by decide +kernel
theorem dX7_heard_34 : decode cX7_heard 34 = .ok (.iload_n 2, 1) := by decide +kernel
theorem dX7_heard_35 : decode cX7_heard 35 = .ok (.iload_n 3, 1) := by decide +kernel
theorem dX7_heard_36 : decode cX7_heard 36 = .ok (.invokevirtual 137, 3) := by decide +kernel
theorem dX7_heard_39 : decode cX7_heard 39 = .ok (.ireturn, 1) := by decide +kernel
theorem dX7_count_0 : decode cX7_count 0 = .ok (.iload_n 1, 1) := by decide +kernel
theorem dX7_count_1 : decode cX7_count 1 = .ok (.tableswitch 202 0 16 #[83, 91, 99, 109, 117, 126, 136, 146, 156, 164, 173, 173, 173, 173, 173, 186, 194], 83) := by decide +kernel
theorem dX7_count_84 : decode cX7_count 84 = .ok (.aload_n 0, 1) := by decide +kernel
theorem dX7_count_85 : decode cX7_count 85 = .ok (.getfield 10, 3) := by decide +kernel
theorem dX7_count_88 : decode cX7_count 88 = .ok (.getfield 139, 3) := by decide +kernel
theorem dX7_count_91 : decode cX7_count 91 = .ok (.ireturn, 1) := by decide +kernel
theorem dX7_count_92 : decode cX7_count 92 = .ok (.aload_n 0, 1) := by decide +kernel
theorem dX7_count_93 : decode cX7_count 93 = .ok (.getfield 10, 3) := by decide +kernel
theorem dX7_count_96 : decode cX7_count 96 = .ok (.getfield 143, 3) := by decide +kernel
theorem dX7_count_99 : decode cX7_count 99 = .ok (.ireturn, 1) := by decide +kernel
theorem dX7_count_100 : decode cX7_count 100 = .ok (.aload_n 0, 1) := by decide +kernel
theorem dX7_count_101 : decode cX7_count 101 = .ok (.getfield 10, 3) := by decide +kernel
theorem dX7_count_104 : decode cX7_count 104 = .ok (.bipush 63, 2) := by decide +kernel
theorem dX7_count_106 : decode cX7_count 106 = .ok (.invokevirtual 91, 3) := by decide +kernel
theorem dX7_count_109 : decode cX7_count 109 = .ok (.ireturn, 1) := by decide +kernel
theorem dX7_count_110 : decode cX7_count 110 = .ok (.aload_n 0, 1) := by decide +kernel
theorem dX7_count_111 : decode cX7_count 111 = .ok (.getfield 10, 3) := by decide +kernel
theorem dX7_count_114 : decode cX7_count 114 = .ok (.invokevirtual 146, 3) := by decide +kernel
theorem dX7_count_117 : decode cX7_count 117 = .ok (.ireturn, 1) := by decide +kernel
theorem dX7_count_118 : decode cX7_count 118 = .ok (.aload_n 0, 1) := by decide +kernel
theorem dX7_count_119 : decode cX7_count 119 = .ok (.getfield 10, 3) := by decide +kernel
theorem dX7_count_122 : decode cX7_count 122 = .ok (.iconst 3, 1) := by decide +kernel
theorem dX7_count_123 : decode cX7_count 123 = .ok (.invokevirtual 150, 3) := by decide +kernel
theorem dX7_count_126 : decode cX7_count 126 = .ok (.ireturn, 1) := by decide +kernel
theorem dX7_count_127 : decode cX7_count 127 = .ok (.aload_n 0, 1) := by decide +kernel
theorem dX7_count_128 : decode cX7_count 128 = .ok (.getfield 10, 3) := by decide +kernel
theorem dX7_count_131 : decode cX7_count 131 = .ok (.bipush 6, 2) := by decide +kernel
theorem dX7_count_133 : decode cX7_count 133 = .ok (.invokevirtual 150, 3) := by decide +kernel
theorem dX7_count_136 : decode cX7_count 136 = .ok (.ireturn, 1) := by decide +kernel
theorem dX7_count_137 : decode cX7_count 137 = .ok (.aload_n 0, 1) := by decide +kernel
theorem dX7_count_138 : decode cX7_count 138 = .ok (.getfield 10, 3) := by decide +kernel
theorem dX7_count_141 : decode cX7_count 141 = .ok (.bipush 7, 2) := by decide +kernel
theorem dX7_count_143 : decode cX7_count 143 = .ok (.invokevirtual 150, 3) := by decide +kernel
theorem dX7_count_146 : decode cX7_count 146 = .ok (.ireturn, 1) := by decide +kernel
theorem dX7_count_147 : decode cX7_count 147 = .ok (.aload_n 0, 1) := by decide +kernel
theorem dX7_count_148 : decode cX7_count 148 = .ok (.getfield 10, 3) := by decide +kernel
theorem dX7_count_151 : decode cX7_count 151 = .ok (.bipush 9, 2) := by decide +kernel
theorem dX7_count_153 : decode cX7_count 153 = .ok (.invokevirtual 150, 3) := by decide +kernel
theorem dX7_count_156 : decode cX7_count 156 = .ok (.ireturn, 1) := by decide +kernel
theorem dX7_count_157 : decode cX7_count 157 = .ok (.aload_n 0, 1) := by decide +kernel
theorem dX7_count_158 : decode cX7_count 158 = .ok (.getfield 10, 3) := by decide +kernel
theorem dX7_count_161 : decode cX7_count 161 = .ok (.getfield 153, 3) := by decide +kernel
theorem dX7_count_164 : decode cX7_count 164 = .ok (.ireturn, 1) := by decide +kernel
theorem dX7_count_165 : decode cX7_count 165 = .ok (.aload_n 0, 1) := by decide +kernel
theorem dX7_count_166 : decode cX7_count 166 = .ok (.getfield 10, 3) := by decide +kernel
theorem dX7_count_169 : decode cX7_count 169 = .ok (.iconst 1, 1) := by decide +kernel
theorem dX7_count_170 : decode cX7_count 170 = .ok (.invokevirtual 150, 3) := by decide +kernel
theorem dX7_count_173 : decode cX7_count 173 = .ok (.ireturn, 1) := by decide +kernel
theorem dX7_count_174 : decode cX7_count 174 = .ok (.aload_n 0, 1) := by decide +kernel
theorem dX7_count_175 : decode cX7_count 175 = .ok (.getfield 10, 3) := by decide +kernel
theorem dX7_count_178 : decode cX7_count 178 = .ok (.getfield 156, 3) := by decide +kernel
theorem dX7_count_181 : decode cX7_count 181 = .ok (.iload_n 1, 1) := by decide +kernel
theorem dX7_count_182 : decode cX7_count 182 = .ok (.bipush 10, 2) := by decide +kernel
theorem dX7_count_184 : decode cX7_count 184 = .ok (.isub, 1) := by decide +kernel
theorem dX7_count_185 : decode cX7_count 185 = .ok (.iaload, 1) := by decide +kernel
theorem dX7_count_186 : decode cX7_count 186 = .ok (.ireturn, 1) := by decide +kernel
theorem dX7_count_187 : decode cX7_count 187 = .ok (.aload_n 0, 1) := by decide +kernel
theorem dX7_count_188 : decode cX7_count 188 = .ok (.getfield 33, 3) := by decide +kernel
theorem dX7_count_191 : decode cX7_count 191 = .ok (.getfield 159, 3) := by decide +kernel
theorem dX7_count_194 : decode cX7_count 194 = .ok (.ireturn, 1) := by decide +kernel
theorem dX7_count_195 : decode cX7_count 195 = .ok (.aload_n 0, 1) := by decide +kernel
theorem dX7_count_196 : decode cX7_count 196 = .ok (.getfield 22, 3) := by decide +kernel
theorem dX7_count_199 : decode cX7_count 199 = .ok (.getfield 162, 3) := by decide +kernel
theorem dX7_count_202 : decode cX7_count 202 = .ok (.ireturn, 1) := by decide +kernel
theorem dX7_count_203 : decode cX7_count 203 = .ok (.bipush (-2), 2) := by decide +kernel
theorem dX7_count_205 : decode cX7_count 205 = .ok (.ireturn, 1) := by decide +kernel
theorem dX7_why_0 : decode cX7_why 0 = .ok (.aload_n 0, 1) := by decide +kernel
theorem dX7_why_1 : decode cX7_why 1 = .ok (.getfield 10, 3) := by decide +kernel
theorem dX7_why_4 : decode cX7_why 4 = .ok (.iload_n 1, 1) := by decide +kernel
theorem dX7_why_5 : decode cX7_why 5 = .ok (.invokevirtual 103, 3) := by decide +kernel
theorem dX7_why_8 : decode cX7_why 8 = .ok (.astore_n 2, 1) := by decide +kernel
theorem dX7_why_9 : decode cX7_why 9 = .ok (.aload_n 2, 1) := by decide +kernel
theorem dX7_why_10 : decode cX7_why 10 = .ok (.ifnonnull 5, 3) := by decide +kernel
theorem dX7_why_13 : decode cX7_why 13 = .ok (.iconst (-1), 1) := by decide +kernel
theorem dX7_why_14 : decode cX7_why 14 = .ok (.ireturn, 1) := by decide +kernel
theorem dX7_why_15 : decode cX7_why 15 = .ok (.aload_n 2, 1) := by decide +kernel
theorem dX7_why_16 : decode cX7_why 16 = .ok (.invokevirtual 163, 3) := by decide +kernel
theorem dX7_why_19 : decode cX7_why 19 = .ok (.ifCond .eq 5, 3) := by decide +kernel
theorem dX7_why_22 : decode cX7_why 22 = .ok (.iconst 1, 1) := by decide +kernel
theorem dX7_why_23 : decode cX7_why 23 = .ok (.ireturn, 1) := by decide +kernel
theorem dX7_why_24 : decode cX7_why 24 = .ok (.aload_n 2, 1) := by decide +kernel
theorem dX7_why_25 : decode cX7_why 25 = .ok (.getfield 167, 3) := by decide +kernel
theorem dX7_why_28 : decode cX7_why 28 = .ok (.ifCond .eq 5, 3) := by decide +kernel
theorem dX7_why_31 : decode cX7_why 31 = .ok (.iconst 2, 1) := by decide +kernel
theorem dX7_why_32 : decode cX7_why 32 = .ok (.ireturn, 1) := by decide +kernel
theorem dX7_why_33 : decode cX7_why 33 = .ok (.aload_n 2, 1) := by decide +kernel
theorem dX7_why_34 : decode cX7_why 34 = .ok (.getfield 171, 3) := by decide +kernel
theorem dX7_why_37 : decode cX7_why 37 = .ok (.ifCond .eq 5, 3) := by decide +kernel
theorem dX7_why_40 : decode cX7_why 40 = .ok (.iconst 3, 1) := by decide +kernel
theorem dX7_why_41 : decode cX7_why 41 = .ok (.ireturn, 1) := by decide +kernel
theorem dX7_why_42 : decode cX7_why 42 = .ok (.aload_n 2, 1) := by decide +kernel
theorem dX7_why_43 : decode cX7_why 43 = .ok (.getfield 112, 3) := by decide +kernel
theorem dX7_why_46 : decode cX7_why 46 = .ok (.getfield 174, 3) := by decide +kernel
theorem dX7_why_49 : decode cX7_why 49 = .ok (.ifCond .ne 5, 3) := by decide +kernel
theorem dX7_why_52 : decode cX7_why 52 = .ok (.iconst 4, 1) := by decide +kernel
theorem dX7_why_53 : decode cX7_why 53 = .ok (.ireturn, 1) := by decide +kernel
theorem dX7_why_54 : decode cX7_why 54 = .ok (.aload_n 2, 1) := by decide +kernel
theorem dX7_why_55 : decode cX7_why 55 = .ok (.getfield 112, 3) := by decide +kernel
theorem dX7_why_58 : decode cX7_why 58 = .ok (.iconst 0, 1) := by decide +kernel
theorem dX7_why_59 : decode cX7_why 59 = .ok (.invokevirtual 124, 3) := by decide +kernel
theorem dX7_why_62 : decode cX7_why 62 = .ok (.istore_n 3, 1) := by decide +kernel
theorem dX7_why_63 : decode cX7_why 63 = .ok (.aload_n 0, 1) := by decide +kernel
theorem dX7_why_64 : decode cX7_why 64 = .ok (.getfield 10, 3) := by decide +kernel
theorem dX7_why_67 : decode cX7_why 67 = .ok (.iload_n 3, 1) := by decide +kernel
theorem dX7_why_68 : decode cX7_why 68 = .ok (.invokevirtual 175, 3) := by decide +kernel
theorem dX7_why_71 : decode cX7_why 71 = .ok (.ifCond .eq 5, 3) := by decide +kernel
theorem dX7_why_74 : decode cX7_why 74 = .ok (.iconst 0, 1) := by decide +kernel
theorem dX7_why_75 : decode cX7_why 75 = .ok (.ireturn, 1) := by decide +kernel
theorem dX7_why_76 : decode cX7_why 76 = .ok (.aload_n 0, 1) := by decide +kernel
theorem dX7_why_77 : decode cX7_why 77 = .ok (.getfield 10, 3) := by decide +kernel
theorem dX7_why_80 : decode cX7_why 80 = .ok (.iload_n 3, 1) := by decide +kernel
theorem dX7_why_81 : decode cX7_why 81 = .ok (.invokevirtual 85, 3) := by decide +kernel
theorem dX7_why_84 : decode cX7_why 84 = .ok (.ifCond .eq 7, 3) := by decide +kernel
theorem dX7_why_87 : decode cX7_why 87 = .ok (.iconst 5, 1) := by decide +kernel
theorem dX7_why_88 : decode cX7_why 88 = .ok (.goto 5, 3) := by decide +kernel
theorem dX7_why_91 : decode cX7_why 91 = .ok (.bipush 6, 2) := by decide +kernel
theorem dX7_why_93 : decode cX7_why 93 = .ok (.ireturn, 1) := by decide +kernel
theorem dX7_endsIn_0 : decode cX7_endsIn 0 = .ok (.aload_n 0, 1) := by decide +kernel
theorem dX7_endsIn_1 : decode cX7_endsIn 1 = .ok (.getfield 10, 3) := by decide +kernel
theorem dX7_endsIn_4 : decode cX7_endsIn 4 = .ok (.iload_n 1, 1) := by decide +kernel
theorem dX7_endsIn_5 : decode cX7_endsIn 5 = .ok (.invokevirtual 103, 3) := by decide +kernel
theorem dX7_endsIn_8 : decode cX7_endsIn 8 = .ok (.astore_n 3, 1) := by decide +kernel
theorem dX7_endsIn_9 : decode cX7_endsIn 9 = .ok (.aload_n 3, 1) := by decide +kernel
theorem dX7_endsIn_10 : decode cX7_endsIn 10 = .ok (.ifnonnull 5, 3) := by decide +kernel
theorem dX7_endsIn_13 : decode cX7_endsIn 13 = .ok (.iconst (-1), 1) := by decide +kernel
theorem dX7_endsIn_14 : decode cX7_endsIn 14 = .ok (.ireturn, 1) := by decide +kernel
theorem dX7_endsIn_15 : decode cX7_endsIn 15 = .ok (.iload_n 2, 1) := by decide +kernel
theorem dX7_endsIn_16 : decode cX7_endsIn 16 = .ok (.ifCond .lt 8, 3) := by decide +kernel
theorem dX7_endsIn_19 : decode cX7_endsIn 19 = .ok (.iload_n 2, 1) := by decide +kernel
theorem dX7_endsIn_20 : decode cX7_endsIn 20 = .ok (.iconst 1, 1) := by decide +kernel
theorem dX7_endsIn_21 : decode cX7_endsIn 21 = .ok (.if_icmp .le 6, 3) := by decide +kernel
theorem dX7_endsIn_24 : decode cX7_endsIn 24 = .ok (.bipush (-2), 2) := by decide +kernel
theorem dX7_endsIn_26 : decode cX7_endsIn 26 = .ok (.ireturn, 1) := by decide +kernel
theorem dX7_endsIn_27 : decode cX7_endsIn 27 = .ok (.aload_n 3, 1) := by decide +kernel
theorem dX7_endsIn_28 : decode cX7_endsIn 28 = .ok (.getfield 112, 3) := by decide +kernel
theorem dX7_endsIn_31 : decode cX7_endsIn 31 = .ok (.getfield 174, 3) := by decide +kernel
theorem dX7_endsIn_34 : decode cX7_endsIn 34 = .ok (.ifCond .ne 6, 3) := by decide +kernel
theorem dX7_endsIn_37 : decode cX7_endsIn 37 = .ok (.bipush (-5), 2) := by decide +kernel
theorem dX7_endsIn_39 : decode cX7_endsIn 39 = .ok (.ireturn, 1) := by decide +kernel
theorem dX7_endsIn_40 : decode cX7_endsIn 40 = .ok (.aload_n 0, 1) := by decide +kernel
theorem dX7_endsIn_41 : decode cX7_endsIn 41 = .ok (.getfield 16, 3) := by decide +kernel
theorem dX7_endsIn_44 : decode cX7_endsIn 44 = .ok (.aload_n 0, 1) := by decide +kernel
theorem dX7_endsIn_45 : decode cX7_endsIn 45 = .ok (.getfield 10, 3) := by decide +kernel
theorem dX7_endsIn_48 : decode cX7_endsIn 48 = .ok (.invokevirtual 178, 3) := by decide +kernel
theorem dX7_endsIn_51 : decode cX7_endsIn 51 = .ok (.aload_n 0, 1) := by decide +kernel
theorem dX7_endsIn_52 : decode cX7_endsIn 52 = .ok (.getfield 16, 3) := by decide +kernel
theorem dX7_endsIn_55 : decode cX7_endsIn 55 = .ok (.iload_n 1, 1) := by decide +kernel
theorem dX7_endsIn_56 : decode cX7_endsIn 56 = .ok (.invokevirtual 103, 3) := by decide +kernel
theorem dX7_endsIn_59 : decode cX7_endsIn 59 = .ok (.astore 4, 2) := by decide +kernel
theorem dX7_endsIn_61 : decode cX7_endsIn 61 = .ok (.aload 4, 2) := by decide +kernel
theorem dX7_endsIn_63 : decode cX7_endsIn 63 = .ok (.ifnonnull 5, 3) := by decide +kernel
theorem dX7_endsIn_68 : decode cX7_endsIn 68 = .ok (.iconst 1, 1) := by decide +kernel
theorem dX7_endsIn_69 : decode cX7_endsIn 69 = .ok (.istore 5, 2) := by decide +kernel
theorem dX7_endsIn_71 : decode cX7_endsIn 71 = .ok (.iload 5, 2) := by decide +kernel
theorem dX7_endsIn_73 : decode cX7_endsIn 73 = .ok (.sipush 600, 3) := by decide +kernel
theorem dX7_endsIn_76 : decode cX7_endsIn 76 = .ok (.if_icmp .gt 63, 3) := by decide +kernel
theorem dX7_endsIn_79 : decode cX7_endsIn 79 = .ok (.aload_n 0, 1) := by decide +kernel
theorem dX7_endsIn_80 : decode cX7_endsIn 80 = .ok (.getfield 16, 3) := by decide +kernel
theorem dX7_endsIn_83 : decode cX7_endsIn 83 = .ok (.invokevirtual 181, 3) := by decide +kernel
theorem dX7_endsIn_86 : decode cX7_endsIn 86 = .ok (.pop, 1) := by decide +kernel
theorem dX7_endsIn_87 : decode cX7_endsIn 87 = .ok (.aload 4, 2) := by decide +kernel
theorem dX7_endsIn_89 : decode cX7_endsIn 89 = .ok (.getfield 184, 3) := by decide +kernel
theorem dX7_endsIn_92 : decode cX7_endsIn 92 = .ok (.aload_n 3, 1) := by decide +kernel
theorem dX7_endsIn_93 : decode cX7_endsIn 93 = .ok (.getfield 184, 3) := by decide +kernel
theorem dX7_endsIn_96 : decode cX7_endsIn 96 = .ok (.if_icmp .eq 14, 3) := by decide +kernel
theorem dX7_endsIn_99 : decode cX7_endsIn 99 = .ok (.iload_n 2, 1) := by decide +kernel
theorem dX7_endsIn_100 : decode cX7_endsIn 100 = .ok (.ifCond .ne 8, 3) := by decide +kernel
theorem dX7_endsIn_103 : decode cX7_endsIn 103 = .ok (.iload 5, 2) := by decide +kernel
theorem dX7_endsIn_105 : decode cX7_endsIn 105 = .ok (.goto 4, 3) := by decide +kernel
theorem dX7_endsIn_108 : decode cX7_endsIn 108 = .ok (.iconst 1, 1) := by decide +kernel
theorem dX7_endsIn_109 : decode cX7_endsIn 109 = .ok (.ireturn, 1) := by decide +kernel
theorem dX7_endsIn_110 : decode cX7_endsIn 110 = .ok (.aload 4, 2) := by decide +kernel
theorem dX7_endsIn_112 : decode cX7_endsIn 112 = .ok (.getfield 187, 3) := by decide +kernel
theorem dX7_endsIn_115 : decode cX7_endsIn 115 = .ok (.aload_n 3, 1) := by decide +kernel
theorem dX7_endsIn_116 : decode cX7_endsIn 116 = .ok (.getfield 187, 3) := by decide +kernel
theorem dX7_endsIn_119 : decode cX7_endsIn 119 = .ok (.if_icmp .eq 14, 3) := by decide +kernel
theorem dX7_endsIn_122 : decode cX7_endsIn 122 = .ok (.iload_n 2, 1) := by decide +kernel
theorem dX7_endsIn_123 : decode cX7_endsIn 123 = .ok (.ifCond .ne 8, 3) := by decide +kernel
theorem dX7_endsIn_126 : decode cX7_endsIn 126 = .ok (.iload 5, 2) := by decide +kernel
theorem dX7_endsIn_128 : decode cX7_endsIn 128 = .ok (.goto 4, 3) := by decide +kernel
theorem dX7_endsIn_131 : decode cX7_endsIn 131 = .ok (.iconst 2, 1) := by decide +kernel
theorem dX7_endsIn_132 : decode cX7_endsIn 132 = .ok (.ireturn, 1) := by decide +kernel
theorem dX7_endsIn_133 : decode cX7_endsIn 133 = .ok (.iinc 5 1, 3) := by decide +kernel
theorem dX7_endsIn_136 : decode cX7_endsIn 136 = .ok (.goto (-65), 3) := by decide +kernel
theorem dX7_endsIn_139 : decode cX7_endsIn 139 = .ok (.bipush (-6), 2) := by decide +kernel
theorem dX7_endsIn_141 : decode cX7_endsIn 141 = .ok (.ireturn, 1) := by decide +kernel
theorem dX7_quietIn_0 : decode cX7_quietIn 0 = .ok (.aload_n 0, 1) := by decide +kernel
theorem dX7_quietIn_1 : decode cX7_quietIn 1 = .ok (.getfield 16, 3) := by decide +kernel
theorem dX7_quietIn_4 : decode cX7_quietIn 4 = .ok (.aload_n 0, 1) := by decide +kernel
theorem dX7_quietIn_5 : decode cX7_quietIn 5 = .ok (.getfield 10, 3) := by decide +kernel
theorem dX7_quietIn_8 : decode cX7_quietIn 8 = .ok (.invokevirtual 178, 3) := by decide +kernel
theorem dX7_quietIn_11 : decode cX7_quietIn 11 = .ok (.iconst 0, 1) := by decide +kernel
theorem dX7_quietIn_12 : decode cX7_quietIn 12 = .ok (.istore_n 1, 1) := by decide +kernel
theorem dX7_quietIn_13 : decode cX7_quietIn 13 = .ok (.iload_n 1, 1) := by decide +kernel
theorem dX7_quietIn_14 : decode cX7_quietIn 14 = .ok (.sipush 900, 3) := by decide +kernel
theorem dX7_quietIn_17 : decode cX7_quietIn 17 = .ok (.if_icmp .gt 29, 3) := by decide +kernel
theorem dX7_quietIn_20 : decode cX7_quietIn 20 = .ok (.aload_n 0, 1) := by decide +kernel
theorem dX7_quietIn_21 : decode cX7_quietIn 21 = .ok (.getfield 16, 3) := by decide +kernel
theorem dX7_quietIn_24 : decode cX7_quietIn 24 = .ok (.invokevirtual 190, 3) := by decide +kernel
theorem dX7_quietIn_27 : decode cX7_quietIn 27 = .ok (.ifCond .ne 5, 3) := by decide +kernel
theorem dX7_quietIn_30 : decode cX7_quietIn 30 = .ok (.iload_n 1, 1) := by decide +kernel
theorem dX7_quietIn_31 : decode cX7_quietIn 31 = .ok (.ireturn, 1) := by decide +kernel
theorem dX7_quietIn_32 : decode cX7_quietIn 32 = .ok (.aload_n 0, 1) := by decide +kernel
theorem dX7_quietIn_33 : decode cX7_quietIn 33 = .ok (.getfield 16, 3) := by decide +kernel
theorem dX7_quietIn_36 : decode cX7_quietIn 36 = .ok (.invokevirtual 181, 3) := by decide +kernel
theorem dX7_quietIn_39 : decode cX7_quietIn 39 = .ok (.pop, 1) := by decide +kernel
theorem dX7_quietIn_40 : decode cX7_quietIn 40 = .ok (.iinc 1 1, 3) := by decide +kernel
theorem dX7_quietIn_43 : decode cX7_quietIn 43 = .ok (.goto (-30), 3) := by decide +kernel
theorem dX7_quietIn_46 : decode cX7_quietIn 46 = .ok (.bipush (-6), 2) := by decide +kernel
theorem dX7_quietIn_48 : decode cX7_quietIn 48 = .ok (.ireturn, 1) := by decide +kernel
theorem dX7_bestRest_0 : decode cX7_bestRest 0 = .ok (.iload_n 1, 1) := by decide +kernel
theorem dX7_bestRest_1 : decode cX7_bestRest 1 = .ok (.iconst 1, 1) := by decide +kernel
theorem dX7_bestRest_2 : decode cX7_bestRest 2 = .ok (.if_icmp .lt 19, 3) := by decide +kernel
theorem dX7_bestRest_5 : decode cX7_bestRest 5 = .ok (.iload_n 1, 1) := by decide +kernel
theorem dX7_bestRest_6 : decode cX7_bestRest 6 = .ok (.sipush 200, 3) := by decide +kernel
theorem dX7_bestRest_9 : decode cX7_bestRest 9 = .ok (.if_icmp .gt 12, 3) := by decide +kernel
theorem dX7_bestRest_12 : decode cX7_bestRest 12 = .ok (.iload_n 2, 1) := by decide +kernel
theorem dX7_bestRest_13 : decode cX7_bestRest 13 = .ok (.ifCond .lt 8, 3) := by decide +kernel
theorem dX7_bestRest_16 : decode cX7_bestRest 16 = .ok (.iload_n 2, 1) := by decide +kernel
theorem dX7_bestRest_17 : decode cX7_bestRest 17 = .ok (.iconst 1, 1) := by decide +kernel
theorem dX7_bestRest_18 : decode cX7_bestRest 18 = .ok (.if_icmp .le 6, 3) := by decide +kernel
theorem dX7_bestRest_21 : decode cX7_bestRest 21 = .ok (.bipush (-2), 2) := by decide +kernel
theorem dX7_bestRest_23 : decode cX7_bestRest 23 = .ok (.ireturn, 1) := by decide +kernel
theorem dX7_bestRest_24 : decode cX7_bestRest 24 = .ok (.getstatic 193, 3) := by decide +kernel
theorem dX7_bestRest_27 : decode cX7_bestRest 27 = .ok (.iconst 0, 1) := by decide +kernel
theorem dX7_bestRest_28 : decode cX7_bestRest 28 = .ok (.iaload, 1) := by decide +kernel
theorem dX7_bestRest_29 : decode cX7_bestRest 29 = .ok (.istore_n 3, 1) := by decide +kernel
theorem dX7_bestRest_30 : decode cX7_bestRest 30 = .ok (.iconst 0, 1) := by decide +kernel
theorem dX7_bestRest_31 : decode cX7_bestRest 31 = .ok (.istore 4, 2) := by decide +kernel
theorem dX7_bestRest_33 : decode cX7_bestRest 33 = .ok (.getstatic 193, 3) := by decide +kernel
theorem dX7_bestRest_36 : decode cX7_bestRest 36 = .ok (.iconst 0, 1) := by decide +kernel
theorem dX7_bestRest_37 : decode cX7_bestRest 37 = .ok (.iaload, 1) := by decide +kernel
theorem dX7_bestRest_38 : decode cX7_bestRest 38 = .ok (.istore 5, 2) := by decide +kernel
theorem dX7_bestRest_40 : decode cX7_bestRest 40 = .ok (.iload 5, 2) := by decide +kernel
theorem dX7_bestRest_42 : decode cX7_bestRest 42 = .ok (.getstatic 196, 3) := by decide +kernel
theorem dX7_bestRest_45 : decode cX7_bestRest 45 = .ok (.iconst 0, 1) := by decide +kernel
theorem dX7_bestRest_46 : decode cX7_bestRest 46 = .ok (.iaload, 1) := by decide +kernel
theorem dX7_bestRest_47 : decode cX7_bestRest 47 = .ok (.if_icmp .gt 32, 3) := by decide +kernel
theorem dX7_bestRest_50 : decode cX7_bestRest 50 = .ok (.aload_n 0, 1) := by decide +kernel
theorem dX7_bestRest_51 : decode cX7_bestRest 51 = .ok (.iload 5, 2) := by decide +kernel
theorem dX7_bestRest_53 : decode cX7_bestRest 53 = .ok (.iload_n 1, 1) := by decide +kernel
theorem dX7_bestRest_54 : decode cX7_bestRest 54 = .ok (.invokevirtual 199, 3) := by decide +kernel
theorem dX7_bestRest_57 : decode cX7_bestRest 57 = .ok (.istore 6, 2) := by decide +kernel
theorem dX7_bestRest_59 : decode cX7_bestRest 59 = .ok (.iload 6, 2) := by decide +kernel
theorem dX7_bestRest_61 : decode cX7_bestRest 61 = .ok (.iload 4, 2) := by decide +kernel
theorem dX7_bestRest_63 : decode cX7_bestRest 63 = .ok (.if_icmp .lt 10, 3) := by decide +kernel
theorem dX7_bestRest_66 : decode cX7_bestRest 66 = .ok (.iload 5, 2) := by decide +kernel
theorem dX7_bestRest_68 : decode cX7_bestRest 68 = .ok (.istore_n 3, 1) := by decide +kernel
theorem dX7_bestRest_69 : decode cX7_bestRest 69 = .ok (.iload 6, 2) := by decide +kernel
theorem dX7_bestRest_71 : decode cX7_bestRest 71 = .ok (.istore 4, 2) := by decide +kernel
theorem dX7_bestRest_73 : decode cX7_bestRest 73 = .ok (.iinc 5 1, 3) := by decide +kernel
theorem dX7_bestRest_76 : decode cX7_bestRest 76 = .ok (.goto (-36), 3) := by decide +kernel
theorem dX7_bestRest_79 : decode cX7_bestRest 79 = .ok (.iload_n 2, 1) := by decide +kernel
theorem dX7_bestRest_80 : decode cX7_bestRest 80 = .ok (.ifCond .ne 7, 3) := by decide +kernel
theorem dX7_bestRest_83 : decode cX7_bestRest 83 = .ok (.iload_n 3, 1) := by decide +kernel
theorem dX7_bestRest_84 : decode cX7_bestRest 84 = .ok (.goto 5, 3) := by decide +kernel
theorem dX7_bestRest_87 : decode cX7_bestRest 87 = .ok (.iload 4, 2) := by decide +kernel
theorem dX7_bestRest_89 : decode cX7_bestRest 89 = .ok (.ireturn, 1) := by decide +kernel
theorem dX7_heardWithRest_0 : decode cX7_heardWithRest 0 = .ok (.aload_n 0, 1) := by decide +kernel
theorem dX7_heardWithRest_1 : decode cX7_heardWithRest 1 = .ok (.getfield 16, 3) := by decide +kernel
theorem dX7_heardWithRest_4 : decode cX7_heardWithRest 4 = .ok (.aload_n 0, 1) := by decide +kernel
theorem dX7_heardWithRest_5 : decode cX7_heardWithRest 5 = .ok (.getfield 10, 3) := by decide +kernel
theorem dX7_heardWithRest_8 : decode cX7_heardWithRest 8 = .ok (.invokevirtual 178, 3) := by decide +kernel
theorem dX7_heardWithRest_11 : decode cX7_heardWithRest 11 = .ok (.aload_n 0, 1) := by decide +kernel
theorem dX7_heardWithRest_12 : decode cX7_heardWithRest 12 = .ok (.getfield 16, 3) := by decide +kernel
theorem dX7_heardWithRest_15 : decode cX7_heardWithRest 15 = .ok (.iconst 0, 1) := by decide +kernel
theorem dX7_heardWithRest_16 : decode cX7_heardWithRest 16 = .ok (.iload_n 1, 1) := by decide +kernel
theorem dX7_heardWithRest_17 : decode cX7_heardWithRest 17 = .ok (.invokevirtual 50, 3) := by decide +kernel
theorem dX7_heardWithRest_20 : decode cX7_heardWithRest 20 = .ok (.pop, 1) := by decide +kernel
theorem dX7_heardWithRest_21 : decode cX7_heardWithRest 21 = .ok (.iconst 0, 1) := by decide +kernel
theorem dX7_heardWithRest_22 : decode cX7_heardWithRest 22 = .ok (.istore_n 3, 1) := by decide +kernel
theorem dX7_heardWithRest_23 : decode cX7_heardWithRest 23 = .ok (.iconst 0, 1) := by decide +kernel
theorem dX7_heardWithRest_24 : decode cX7_heardWithRest 24 = .ok (.istore 4, 2) := by decide +kernel
theorem dX7_heardWithRest_26 : decode cX7_heardWithRest 26 = .ok (.iload 4, 2) := by decide +kernel
theorem dX7_heardWithRest_28 : decode cX7_heardWithRest 28 = .ok (.iload_n 2, 1) := by decide +kernel
theorem dX7_heardWithRest_29 : decode cX7_heardWithRest 29 = .ok (.if_icmp .ge 29, 3) := by decide +kernel
theorem dX7_heardWithRest_32 : decode cX7_heardWithRest 32 = .ok (.aload_n 0, 1) := by decide +kernel
theorem dX7_heardWithRest_33 : decode cX7_heardWithRest 33 = .ok (.getfield 16, 3) := by decide +kernel
theorem dX7_heardWithRest_36 : decode cX7_heardWithRest 36 = .ok (.invokevirtual 190, 3) := by decide +kernel
theorem dX7_heardWithRest_39 : decode cX7_heardWithRest 39 = .ok (.ifCond .eq 19, 3) := by decide +kernel
theorem dX7_heardWithRest_42 : decode cX7_heardWithRest 42 = .ok (.iload_n 3, 1) := by decide +kernel
theorem dX7_heardWithRest_43 : decode cX7_heardWithRest 43 = .ok (.aload_n 0, 1) := by decide +kernel
theorem dX7_heardWithRest_44 : decode cX7_heardWithRest 44 = .ok (.getfield 16, 3) := by decide +kernel
theorem dX7_heardWithRest_47 : decode cX7_heardWithRest 47 = .ok (.invokevirtual 181, 3) := by decide +kernel
theorem dX7_heardWithRest_50 : decode cX7_heardWithRest 50 = .ok (.iadd, 1) := by decide +kernel
theorem dX7_heardWithRest_51 : decode cX7_heardWithRest 51 = .ok (.istore_n 3, 1) := by decide +kernel
theorem dX7_heardWithRest_52 : decode cX7_heardWithRest 52 = .ok (.iinc 4 1, 3) := by decide +kernel
theorem dX7_heardWithRest_55 : decode cX7_heardWithRest 55 = .ok (.goto (-29), 3) := by decide +kernel
theorem dX7_heardWithRest_58 : decode cX7_heardWithRest 58 = .ok (.iload_n 3, 1) := by decide +kernel
theorem dX7_heardWithRest_59 : decode cX7_heardWithRest 59 = .ok (.ireturn, 1) := by decide +kernel
theorem dX7_busiest_0 : decode cX7_busiest 0 = .ok (.bipush (-6), 2) := by decide +kernel
theorem dX7_busiest_2 : decode cX7_busiest 2 = .ok (.istore_n 1, 1) := by decide +kernel
theorem dX7_busiest_3 : decode cX7_busiest 3 = .ok (.iconst 0, 1) := by decide +kernel
theorem dX7_busiest_4 : decode cX7_busiest 4 = .ok (.istore_n 2, 1) := by decide +kernel
theorem dX7_busiest_5 : decode cX7_busiest 5 = .ok (.iconst 0, 1) := by decide +kernel
theorem dX7_busiest_6 : decode cX7_busiest 6 = .ok (.istore_n 3, 1) := by decide +kernel
theorem dX7_busiest_7 : decode cX7_busiest 7 = .ok (.iload_n 3, 1) := by decide +kernel
theorem dX7_busiest_8 : decode cX7_busiest 8 = .ok (.bipush 6, 2) := by decide +kernel
theorem dX7_busiest_10 : decode cX7_busiest 10 = .ok (.if_icmp .ge 30, 3) := by decide +kernel
theorem dX7_busiest_13 : decode cX7_busiest 13 = .ok (.aload_n 0, 1) := by decide +kernel
theorem dX7_busiest_14 : decode cX7_busiest 14 = .ok (.getfield 10, 3) := by decide +kernel
theorem dX7_busiest_17 : decode cX7_busiest 17 = .ok (.iload_n 3, 1) := by decide +kernel
theorem dX7_busiest_18 : decode cX7_busiest 18 = .ok (.invokevirtual 94, 3) := by decide +kernel
theorem dX7_busiest_21 : decode cX7_busiest 21 = .ok (.istore 4, 2) := by decide +kernel
theorem dX7_busiest_23 : decode cX7_busiest 23 = .ok (.iload 4, 2) := by decide +kernel
theorem dX7_busiest_25 : decode cX7_busiest 25 = .ok (.iload_n 2, 1) := by decide +kernel
theorem dX7_busiest_26 : decode cX7_busiest 26 = .ok (.if_icmp .le 8, 3) := by decide +kernel
theorem dX7_busiest_29 : decode cX7_busiest 29 = .ok (.iload_n 3, 1) := by decide +kernel
theorem dX7_busiest_30 : decode cX7_busiest 30 = .ok (.istore_n 1, 1) := by decide +kernel
theorem dX7_busiest_31 : decode cX7_busiest 31 = .ok (.iload 4, 2) := by decide +kernel
theorem dX7_busiest_33 : decode cX7_busiest 33 = .ok (.istore_n 2, 1) := by decide +kernel
theorem dX7_busiest_34 : decode cX7_busiest 34 = .ok (.iinc 3 1, 3) := by decide +kernel
theorem dX7_busiest_37 : decode cX7_busiest 37 = .ok (.goto (-30), 3) := by decide +kernel
theorem dX7_busiest_40 : decode cX7_busiest 40 = .ok (.iload_n 1, 1) := by decide +kernel
theorem dX7_busiest_41 : decode cX7_busiest 41 = .ok (.ireturn, 1) := by decide +kernel
theorem dX7_sleepsIn_0 : decode cX7_sleepsIn 0 = .ok (.aload_n 0, 1) := by decide +kernel
theorem dX7_sleepsIn_1 : decode cX7_sleepsIn 1 = .ok (.getfield 16, 3) := by decide +kernel
theorem dX7_sleepsIn_4 : decode cX7_sleepsIn 4 = .ok (.aload_n 0, 1) := by decide +kernel
theorem dX7_sleepsIn_5 : decode cX7_sleepsIn 5 = .ok (.getfield 10, 3) := by decide +kernel
theorem dX7_sleepsIn_8 : decode cX7_sleepsIn 8 = .ok (.invokevirtual 178, 3) := by decide +kernel
theorem dX7_sleepsIn_11 : decode cX7_sleepsIn 11 = .ok (.aload_n 0, 1) := by decide +kernel
theorem dX7_sleepsIn_12 : decode cX7_sleepsIn 12 = .ok (.getfield 16, 3) := by decide +kernel
theorem dX7_sleepsIn_15 : decode cX7_sleepsIn 15 = .ok (.iload_n 1, 1) := by decide +kernel
theorem dX7_sleepsIn_16 : decode cX7_sleepsIn 16 = .ok (.invokevirtual 103, 3) := by decide +kernel
theorem dX7_sleepsIn_19 : decode cX7_sleepsIn 19 = .ok (.astore_n 2, 1) := by decide +kernel
theorem dX7_sleepsIn_20 : decode cX7_sleepsIn 20 = .ok (.aload_n 2, 1) := by decide +kernel
theorem dX7_sleepsIn_21 : decode cX7_sleepsIn 21 = .ok (.ifnonnull 5, 3) := by decide +kernel
theorem dX7_sleepsIn_24 : decode cX7_sleepsIn 24 = .ok (.iconst (-1), 1) := by decide +kernel
theorem dX7_sleepsIn_25 : decode cX7_sleepsIn 25 = .ok (.ireturn, 1) := by decide +kernel
theorem dX7_sleepsIn_26 : decode cX7_sleepsIn 26 = .ok (.iconst 0, 1) := by decide +kernel
theorem dX7_sleepsIn_27 : decode cX7_sleepsIn 27 = .ok (.istore_n 3, 1) := by decide +kernel
theorem dX7_sleepsIn_28 : decode cX7_sleepsIn 28 = .ok (.iload_n 3, 1) := by decide +kernel
theorem dX7_sleepsIn_29 : decode cX7_sleepsIn 29 = .ok (.sipush 600, 3) := by decide +kernel
theorem dX7_sleepsIn_32 : decode cX7_sleepsIn 32 = .ok (.if_icmp .gt 26, 3) := by decide +kernel
theorem dX7_sleepsIn_35 : decode cX7_sleepsIn 35 = .ok (.aload_n 2, 1) := by decide +kernel
theorem dX7_sleepsIn_36 : decode cX7_sleepsIn 36 = .ok (.getfield 171, 3) := by decide +kernel
theorem dX7_sleepsIn_39 : decode cX7_sleepsIn 39 = .ok (.ifCond .eq 5, 3) := by decide +kernel
theorem dX7_sleepsIn_42 : decode cX7_sleepsIn 42 = .ok (.iload_n 3, 1) := by decide +kernel
theorem dX7_sleepsIn_43 : decode cX7_sleepsIn 43 = .ok (.ireturn, 1) := by decide +kernel
theorem dX7_sleepsIn_44 : decode cX7_sleepsIn 44 = .ok (.aload_n 0, 1) := by decide +kernel
theorem dX7_sleepsIn_45 : decode cX7_sleepsIn 45 = .ok (.getfield 16, 3) := by decide +kernel
theorem dX7_sleepsIn_48 : decode cX7_sleepsIn 48 = .ok (.invokevirtual 181, 3) := by decide +kernel
theorem dX7_sleepsIn_51 : decode cX7_sleepsIn 51 = .ok (.pop, 1) := by decide +kernel
theorem dX7_sleepsIn_52 : decode cX7_sleepsIn 52 = .ok (.iinc 3 1, 3) := by decide +kernel
theorem dX7_sleepsIn_55 : decode cX7_sleepsIn 55 = .ok (.goto (-27), 3) := by decide +kernel
theorem dX7_sleepsIn_58 : decode cX7_sleepsIn 58 = .ok (.bipush (-6), 2) := by decide +kernel
theorem dX7_sleepsIn_60 : decode cX7_sleepsIn 60 = .ok (.ireturn, 1) := by decide +kernel
theorem dX7_isWire_0 : decode cX7_isWire 0 = .ok (.iload_n 0, 1) := by decide +kernel
theorem dX7_isWire_1 : decode cX7_isWire 1 = .ok (.ifCond .lt 13, 3) := by decide +kernel
theorem dX7_isWire_4 : decode cX7_isWire 4 = .ok (.iload_n 0, 1) := by decide +kernel
theorem dX7_isWire_5 : decode cX7_isWire 5 = .ok (.bipush 6, 2) := by decide +kernel
theorem dX7_isWire_7 : decode cX7_isWire 7 = .ok (.if_icmp .ge 7, 3) := by decide +kernel
theorem dX7_isWire_10 : decode cX7_isWire 10 = .ok (.iconst 1, 1) := by decide +kernel
theorem dX7_isWire_11 : decode cX7_isWire 11 = .ok (.goto 4, 3) := by decide +kernel
theorem dX7_isWire_14 : decode cX7_isWire 14 = .ok (.iconst 0, 1) := by decide +kernel
theorem dX7_isWire_15 : decode cX7_isWire 15 = .ok (.ireturn, 1) := by decide +kernel
theorem dX7_copyNumbers_0 : decode cX7_copyNumbers 0 = .ok (.aload_n 0, 1) := by decide +kernel
theorem dX7_copyNumbers_1 : decode cX7_copyNumbers 1 = .ok (.iconst 0, 1) := by decide +kernel
theorem dX7_copyNumbers_2 : decode cX7_copyNumbers 2 = .ok (.aload_n 1, 1) := by decide +kernel
theorem dX7_copyNumbers_3 : decode cX7_copyNumbers 3 = .ok (.iconst 0, 1) := by decide +kernel
theorem dX7_copyNumbers_4 : decode cX7_copyNumbers 4 = .ok (.aload_n 0, 1) := by decide +kernel
theorem dX7_copyNumbers_5 : decode cX7_copyNumbers 5 = .ok (.arraylength, 1) := by decide +kernel
theorem dX7_copyNumbers_6 : decode cX7_copyNumbers 6 = .ok (.aload_n 1, 1) := by decide +kernel
theorem dX7_copyNumbers_7 : decode cX7_copyNumbers 7 = .ok (.arraylength, 1) := by decide +kernel
theorem dX7_copyNumbers_8 : decode cX7_copyNumbers 8 = .ok (.invokestatic 243, 3) := by decide +kernel
theorem dX7_copyNumbers_11 : decode cX7_copyNumbers 11 = .ok (.invokestatic 248, 3) := by decide +kernel
theorem dX7_copyNumbers_14 : decode cX7_copyNumbers 14 = .ok (.return_, 1) := by decide +kernel
theorem dJ6_bitCount_0f7a4_0 : decode cJ6_bitCount_0f7a4 0 = .ok (.iload_n 0, 1) := by decide +kernel
theorem dJ6_bitCount_0f7a4_1 : decode cJ6_bitCount_0f7a4 1 = .ok (.iload_n 0, 1) := by decide +kernel
theorem dJ6_bitCount_0f7a4_2 : decode cJ6_bitCount_0f7a4 2 = .ok (.iconst 1, 1) := by decide +kernel
theorem dJ6_bitCount_0f7a4_3 : decode cJ6_bitCount_0f7a4 3 = .ok (.iushr, 1) := by decide +kernel
theorem dJ6_bitCount_0f7a4_4 : decode cJ6_bitCount_0f7a4 4 = .ok (.ldc_w 265, 3) := by decide +kernel
theorem dJ6_bitCount_0f7a4_7 : decode cJ6_bitCount_0f7a4 7 = .ok (.iand, 1) := by decide +kernel
theorem dJ6_bitCount_0f7a4_8 : decode cJ6_bitCount_0f7a4 8 = .ok (.isub, 1) := by decide +kernel
theorem dJ6_bitCount_0f7a4_9 : decode cJ6_bitCount_0f7a4 9 = .ok (.istore_n 0, 1) := by decide +kernel
theorem dJ6_bitCount_0f7a4_10 : decode cJ6_bitCount_0f7a4 10 = .ok (.iload_n 0, 1) := by decide +kernel
theorem dJ6_bitCount_0f7a4_11 : decode cJ6_bitCount_0f7a4 11 = .ok (.ldc_w 266, 3) := by decide +kernel
theorem dJ6_bitCount_0f7a4_14 : decode cJ6_bitCount_0f7a4 14 = .ok (.iand, 1) := by decide +kernel
theorem dJ6_bitCount_0f7a4_15 : decode cJ6_bitCount_0f7a4 15 = .ok (.iload_n 0, 1) := by decide +kernel
theorem dJ6_bitCount_0f7a4_16 : decode cJ6_bitCount_0f7a4 16 = .ok (.iconst 2, 1) := by decide +kernel
theorem dJ6_bitCount_0f7a4_17 : decode cJ6_bitCount_0f7a4 17 = .ok (.iushr, 1) := by decide +kernel
theorem dJ6_bitCount_0f7a4_18 : decode cJ6_bitCount_0f7a4 18 = .ok (.ldc_w 266, 3) := by decide +kernel
theorem dJ6_bitCount_0f7a4_21 : decode cJ6_bitCount_0f7a4 21 = .ok (.iand, 1) := by decide +kernel
theorem dJ6_bitCount_0f7a4_22 : decode cJ6_bitCount_0f7a4 22 = .ok (.iadd, 1) := by decide +kernel
theorem dJ6_bitCount_0f7a4_23 : decode cJ6_bitCount_0f7a4 23 = .ok (.istore_n 0, 1) := by decide +kernel
theorem dJ6_bitCount_0f7a4_24 : decode cJ6_bitCount_0f7a4 24 = .ok (.iload_n 0, 1) := by decide +kernel
theorem dJ6_bitCount_0f7a4_25 : decode cJ6_bitCount_0f7a4 25 = .ok (.iload_n 0, 1) := by decide +kernel
theorem dJ6_bitCount_0f7a4_26 : decode cJ6_bitCount_0f7a4 26 = .ok (.iconst 4, 1) := by decide +kernel
theorem dJ6_bitCount_0f7a4_27 : decode cJ6_bitCount_0f7a4 27 = .ok (.iushr, 1) := by decide +kernel
theorem dJ6_bitCount_0f7a4_28 : decode cJ6_bitCount_0f7a4 28 = .ok (.iadd, 1) := by decide +kernel
theorem dJ6_bitCount_0f7a4_29 : decode cJ6_bitCount_0f7a4 29 = .ok (.ldc_w 267, 3) := by decide +kernel
theorem dJ6_bitCount_0f7a4_32 : decode cJ6_bitCount_0f7a4 32 = .ok (.iand, 1) := by decide +kernel
theorem dJ6_bitCount_0f7a4_33 : decode cJ6_bitCount_0f7a4 33 = .ok (.istore_n 0, 1) := by decide +kernel
theorem dJ6_bitCount_0f7a4_34 : decode cJ6_bitCount_0f7a4 34 = .ok (.iload_n 0, 1) := by decide +kernel
theorem dJ6_bitCount_0f7a4_35 : decode cJ6_bitCount_0f7a4 35 = .ok (.iload_n 0, 1) := by decide +kernel
theorem dJ6_bitCount_0f7a4_36 : decode cJ6_bitCount_0f7a4 36 = .ok (.bipush 8, 2) := by decide +kernel
theorem dJ6_bitCount_0f7a4_38 : decode cJ6_bitCount_0f7a4 38 = .ok (.iushr, 1) := by decide +kernel
theorem dJ6_bitCount_0f7a4_39 : decode cJ6_bitCount_0f7a4 39 = .ok (.iadd, 1) := by decide +kernel
theorem dJ6_bitCount_0f7a4_40 : decode cJ6_bitCount_0f7a4 40 = .ok (.istore_n 0, 1) := by decide +kernel
theorem dJ6_bitCount_0f7a4_41 : decode cJ6_bitCount_0f7a4 41 = .ok (.iload_n 0, 1) := by decide +kernel
theorem dJ6_bitCount_0f7a4_42 : decode cJ6_bitCount_0f7a4 42 = .ok (.iload_n 0, 1) := by decide +kernel
theorem dJ6_bitCount_0f7a4_43 : decode cJ6_bitCount_0f7a4 43 = .ok (.bipush 16, 2) := by decide +kernel
theorem dJ6_bitCount_0f7a4_45 : decode cJ6_bitCount_0f7a4 45 = .ok (.iushr, 1) := by decide +kernel
theorem dJ6_bitCount_0f7a4_46 : decode cJ6_bitCount_0f7a4 46 = .ok (.iadd, 1) := by decide +kernel
theorem dJ6_bitCount_0f7a4_47 : decode cJ6_bitCount_0f7a4 47 = .ok (.istore_n 0, 1) := by decide +kernel
theorem dJ6_bitCount_0f7a4_48 : decode cJ6_bitCount_0f7a4 48 = .ok (.iload_n 0, 1) := by decide +kernel
theorem dJ6_bitCount_0f7a4_49 : decode cJ6_bitCount_0f7a4 49 = .ok (.bipush 63, 2) := by decide +kernel
theorem dJ6_bitCount_0f7a4_51 : decode cJ6_bitCount_0f7a4 51 = .ok (.iand, 1) := by decide +kernel
theorem dJ6_bitCount_0f7a4_52 : decode cJ6_bitCount_0f7a4 52 = .ok (.ireturn, 1) := by decide +kernel
end
section
/-! A pure memory: kinds, lengths, references and numbers by address; addresses from a base on, one behind the other -/
abbrev Mm : Type := Nat → Nat → Int32
abbrev Sp : Type := (Nat → Nat) × (Nat → Nat) × (Nat → Nat → Option Nat) × Nat
def tg (σ : Sp) : Nat → Nat := σ.1
def ln (σ : Sp) : Nat → Nat := σ.2.1
def rf (σ : Sp) : Nat → Nat → Option Nat := σ.2.2.1
def nn (σ : Sp) : Nat := σ.2.2.2
/-- launch, base, class numbers, the array classes' numbers, the static rows' addresses, the script -/
abbrev Cx : Type := Launch × Nat × va_G × (ClassId × ClassId × ClassId × ClassId × ClassId) × (Nat × Nat × Nat) × (Nat × Nat × (Nat → Int32))
def cxL (X : Cx) : Launch := X.1
def cxB (X : Cx) : Nat := X.2.1
def cxD (X : Cx) : va_G := X.2.2.1
def cxC (X : Cx) : ClassId × ClassId × ClassId × ClassId × ClassId := X.2.2.2.1
def cxT (X : Cx) : Nat × Nat × Nat := X.2.2.2.2.1
def cxS (X : Cx) : Nat × Nat × (Nat → Int32) := X.2.2.2.2.2
/-- which fields of a class are references -/
def pw_fl : Nat → List Bool
  | 0 => [true, true, true, true, true, false, false, false]
  | 1 => [true, false, false]
  | 2 => [true, false]
  | 3 => [true, false]
  | 4 => [true, false, false, false, false, false, false]
  | 5 => [true, true, true, false]
  | 6 => [false, true, true, false, false, false, false, false, false, false, false, false, false, false, false]
  | 7 => [true, true, true, true, true, true]
  | 8 => [true, true, true, true, true, true]
  | _ => []
def pw_R : Nat → String
  | 0 => RX0
  | 1 => RX1
  | 2 => RX2
  | 3 => RX3
  | 4 => RX4
  | 5 => RX5
  | 6 => RX6
  | 7 => RX7
  | _ => RX7
def pw_T : Nat → u_T
  | 0 => TX0
  | 1 => TX1
  | 2 => TX2
  | 3 => TX3
  | 4 => TX4
  | 5 => TX5
  | 6 => TX6
  | 7 => TX7
  | _ => TX7
def pw_ty : Nat → Nat → FieldType
  | 0 => tyX0
  | 1 => tyX1
  | 2 => tyX2
  | 3 => tyX3
  | 4 => tyX4
  | 5 => tyX5
  | 6 => tyX6
  | 7 => tyX7
  | _ => tyX7
def pw_N : Nat → Nat
  | 0 => 8
  | 1 => 3
  | 2 => 2
  | 3 => 2
  | 4 => 7
  | 5 => 4
  | 6 => 15
  | 7 => 6
  | _ => 6
theorem pw_nine {P : Nat → Prop} (h0 : P 0) (h1 : P 1) (h2 : P 2) (h3 : P 3) (h4 : P 4) (h5 : P 5) (h6 : P 6) (h7 : P 7) (h8 : P 8) : ∀ c, c < 9 → P c := by
  intro c hc
  match c, hc with
  | 0, _ => exact h0
  | 1, _ => exact h1
  | 2, _ => exact h2
  | 3, _ => exact h3
  | 4, _ => exact h4
  | 5, _ => exact h5
  | 6, _ => exact h6
  | 7, _ => exact h7
  | 8, _ => exact h8
theorem pw_cl : ∀ c, c < 9 → vwCl[c]? = some (pw_R c, pw_T c, pw_N c) := pw_nine rfl rfl rfl rfl rfl rfl rfl rfl rfl
theorem pw_hty : ∀ c, c < 9 → ∀ k, k < pw_N c → parseFieldDescriptor (pw_T c k).2.2.1 = some (pw_ty c k) := pw_nine tyX0_ok tyX1_ok tyX2_ok tyX3_ok tyX4_ok tyX5_ok tyX6_ok tyX7_ok tyX7_ok
theorem pw_hnm : ∀ c, c < 9 → ∀ a, a < pw_N c → ∀ b, b < pw_N c → a ≠ b → (pw_T c a).2.1 ≠ (pw_T c b).2.1 := pw_nine nmX0 nmX1 nmX2 nmX3 nmX4 nmX5 nmX6 nmX7 nmX7
theorem pw_flN : ∀ c, c < 9 → (pw_fl c).length = pw_N c := pw_nine rfl rfl rfl rfl rfl rfl rfl rfl rfl
def pw_fv (c : Nat) (r : Nat → Option Nat) (f : Nat → Int32) : List Value := (pw_fl c).zipIdx.map (fun q => if q.1 = true then va_rf (r q.2) else .int (f q.2))
theorem pw_fv_len (c : Nat) (r : Nat → Option Nat) (f : Nat → Int32) : (pw_fv c r f).length = (pw_fl c).length := by simp [pw_fv]
theorem pw_fv_get (c : Nat) (r : Nat → Option Nat) (f : Nat → Int32) (k : Nat) : (pw_fv c r f)[k]? = (pw_fl c)[k]?.map (fun b => if b = true then va_rf (r k) else .int (f k)) := by
  simp [pw_fv, List.getElem?_map, List.getElem?_zipIdx]
  cases (pw_fl c)[k]? <;> rfl
theorem pw_fv_I {c k : Nat} (h : (pw_fl c)[k]? = some false) (r : Nat → Option Nat) (f : Nat → Int32) : (pw_fv c r f)[k]? = some (.int (f k)) := by rw [pw_fv_get, h]; rfl
theorem pw_fv_R {c k : Nat} (h : (pw_fl c)[k]? = some true) (r : Nat → Option Nat) (f : Nat → Int32) : (pw_fv c r f)[k]? = some (va_rf (r k)) := by rw [pw_fv_get, h]; rfl
theorem pw_fv_setI {c k : Nat} (h : (pw_fl c)[k]? = some false) (r : Nat → Option Nat) (f : Nat → Int32) (x : Int32) : (pw_fv c r f).set k (.int x) = pw_fv c r (upd f k x) := by
  apply List.ext_getElem?
  intro j
  by_cases hj : j = k
  · subst hj
    have hl : j < (pw_fv c r f).length := by rw [pw_fv_len]; exact (List.getElem?_eq_some_iff.mp h).1
    rw [List.getElem?_set_self hl, pw_fv_I h]
    simp [upd]
  · rw [List.getElem?_set_ne (Ne.symm hj), pw_fv_get, pw_fv_get]
    simp [upd, hj]
theorem pw_fv_setR {c k : Nat} (h : (pw_fl c)[k]? = some true) (r : Nat → Option Nat) (f : Nat → Int32) (v : Option Nat) : (pw_fv c r f).set k (va_rf v) = pw_fv c (va_up r k v) f := by
  apply List.ext_getElem?
  intro j
  by_cases hj : j = k
  · subst hj
    have hl : j < (pw_fv c r f).length := by rw [pw_fv_len]; exact (List.getElem?_eq_some_iff.mp h).1
    rw [List.getElem?_set_self hl, pw_fv_R h]
    simp [va_up]
  · rw [List.getElem?_set_ne (Ne.symm hj), pw_fv_get, pw_fv_get]
    simp [va_up, hj]
/-- a cell out of the pure memory: kinds 1 to 9 objects, 10 char, 11 int, 12 boolean, 13 Bus, 14 Station rows -/
def pw_ce (X : Cx) (σ : Sp) (μ : Mm) (a : Nat) : va_E :=
  if tg σ a = 10 then .inl ((cxC X).1, (ln σ a, .inl (μ a)))
  else if tg σ a = 11 then .inl ((cxC X).2.1, (ln σ a, .inl (μ a)))
  else if tg σ a = 12 then .inl ((cxC X).2.2.1, (ln σ a, .inl (μ a)))
  else if tg σ a = 13 then .inl ((cxC X).2.2.2.1, (ln σ a, .inr (.inr (.inr (.inr (rf σ a))))))
  else if tg σ a = 14 then .inl ((cxC X).2.2.2.2, (ln σ a, .inr (.inr (.inr (.inr (rf σ a))))))
  else .inr (tg σ a - 1, pw_fv (tg σ a - 1) (rf σ a) (μ a))
theorem pw_ce_o {X : Cx} {σ : Sp} {μ : Mm} {a c : Nat} (h : tg σ a = c + 1) (hc : c < 9) : pw_ce X σ μ a = .inr (c, pw_fv c (rf σ a) (μ a)) := by
  unfold pw_ce
  rw [h, if_neg (by omega), if_neg (by omega), if_neg (by omega), if_neg (by omega), if_neg (by omega)]
  rfl
theorem pw_ce_C {X : Cx} {σ : Sp} {μ : Mm} {a : Nat} (h : tg σ a = 10) : pw_ce X σ μ a = .inl ((cxC X).1, (ln σ a, .inl (μ a))) := by unfold pw_ce; rw [if_pos h]
theorem pw_ce_I {X : Cx} {σ : Sp} {μ : Mm} {a : Nat} (h : tg σ a = 11) : pw_ce X σ μ a = .inl ((cxC X).2.1, (ln σ a, .inl (μ a))) := by unfold pw_ce; rw [if_neg (by omega), if_pos h]
theorem pw_ce_B {X : Cx} {σ : Sp} {μ : Mm} {a : Nat} (h : tg σ a = 13) : pw_ce X σ μ a = .inl ((cxC X).2.2.2.1, (ln σ a, .inr (.inr (.inr (.inr (rf σ a)))))) := by unfold pw_ce; rw [if_neg (by omega), if_neg (by omega), if_neg (by omega), if_pos h]
theorem pw_ce_S {X : Cx} {σ : Sp} {μ : Mm} {a : Nat} (h : tg σ a = 14) : pw_ce X σ μ a = .inl ((cxC X).2.2.2.2, (ln σ a, .inr (.inr (.inr (.inr (rf σ a)))))) := by unfold pw_ce; rw [if_neg (by omega), if_neg (by omega), if_neg (by omega), if_neg (by omega), if_pos h]
/-- writes of the pure memory -/
def wr (μ : Mm) (a k : Nat) (x : Int32) : Mm := fun b => if b = a then upd (μ a) k x else μ b
def wR (σ : Sp) (a k : Nat) (v : Option Nat) : Sp := (tg σ, ln σ, (fun b => if b = a then va_up (rf σ a) k v else rf σ b), nn σ)
def wC (μ : Mm) (a : Nat) (f : Nat → Int32) : Mm := fun b => if b = a then f else μ b
def wN (σ : Sp) (B t l : Nat) : Sp := (va_up (tg σ) (B + nn σ) t, va_up (ln σ) (B + nn σ) l, va_up (rf σ) (B + nn σ) (fun _ => none), nn σ + 1)
theorem wr_eq_wC (μ : Mm) (a k : Nat) (x : Int32) : wr μ a k x = wC μ a (upd (μ a) k x) := rfl
theorem wC_self (μ : Mm) (a : Nat) (f : Nat → Int32) : wC μ a f a = f := by simp [wC]
theorem wC_ne (μ : Mm) {a b : Nat} (f : Nat → Int32) (h : b ≠ a) : wC μ a f b = μ b := by simp [wC, h]
/-- the world as the kit's list -/
def pw_ws (X : Cx) (σ : Sp) (μ : Mm) : va_W := (List.range (nn σ)).map (fun k => (cxB X + k, pw_ce X σ μ (cxB X + k)))
theorem pw_ws_at {X : Cx} {σ : Sp} {μ : Mm} {a : Nat} (h1 : cxB X ≤ a) (h2 : a < cxB X + nn σ) : (pw_ws X σ μ)[a - cxB X]? = some (a, pw_ce X σ μ a) := by
  unfold pw_ws
  rw [List.getElem?_map, List.getElem?_range (by omega)]
  simp only [Option.map_some]
  rw [Nat.add_sub_cancel' h1]
theorem pw_ws_len (X : Cx) (σ : Sp) (μ : Mm) : (pw_ws X σ μ).length = nn σ := by simp [pw_ws]
theorem pw_ws_get {X : Cx} {σ : Sp} {μ : Mm} {k : Nat} {q : Nat × va_E} (h : (pw_ws X σ μ)[k]? = some q) : k < nn σ ∧ q = (cxB X + k, pw_ce X σ μ (cxB X + k)) := by
  have hk : k < nn σ := by rw [← pw_ws_len X σ μ]; exact (List.getElem?_eq_some_iff.mp h).1
  refine ⟨hk, ?_⟩
  have h2 := pw_ws_at (X := X) (σ := σ) (μ := μ) (a := cxB X + k) (by omega) (by omega)
  rw [show cxB X + k - cxB X = k by omega, h] at h2
  exact Option.some.inj h2
theorem pw_D (X : Cx) (σ : Sp) (μ : Mm) : va_D (fun q => cxB X ≤ q) (pw_ws X σ μ) := by
  refine ⟨fun i j p q hi hj hpq => ?_, fun k q hk => ?_⟩
  · obtain ⟨-, rfl⟩ := pw_ws_get hi
    obtain ⟨-, rfl⟩ := pw_ws_get hj
    have : cxB X + i = cxB X + j := hpq
    omega
  · obtain ⟨-, rfl⟩ := pw_ws_get hk
    show cxB X ≤ cxB X + k
    omega
theorem pw_ws_set {X : Cx} {σ σ' : Sp} {μ μ' : Mm} {a : Nat} {e : va_E} (h1 : cxB X ≤ a) (h2 : a < cxB X + nn σ) (hn : nn σ' = nn σ) (he : pw_ce X σ' μ' a = e) (ho : ∀ b, b ≠ a → pw_ce X σ' μ' b = pw_ce X σ μ b) : (pw_ws X σ μ).set (a - cxB X) (a, e) = pw_ws X σ' μ' := by
  apply List.ext_getElem?
  intro j
  by_cases hj : j < nn σ
  · have e1 := pw_ws_at (X := X) (σ := σ) (μ := μ) (a := cxB X + j) (by omega) (by omega)
    have e2 := pw_ws_at (X := X) (σ := σ') (μ := μ') (a := cxB X + j) (by omega) (by omega)
    rw [show cxB X + j - cxB X = j by omega] at e1 e2
    by_cases hja : j = a - cxB X
    · subst hja
      rw [List.getElem?_set_self (by rw [pw_ws_len]; exact hj), e2, show cxB X + (a - cxB X) = a by omega, he]
    · rw [List.getElem?_set_ne (Ne.symm hja), e1, e2, ho _ (by omega)]
  · rw [List.getElem?_eq_none (by rw [List.length_set, pw_ws_len]; omega), List.getElem?_eq_none (by rw [pw_ws_len]; omega)]
theorem pw_ws_push {X : Cx} {σ σ' : Sp} {μ μ' : Mm} {a : Nat} {e : va_E} (ha : a = cxB X + nn σ) (hn : nn σ' = nn σ + 1) (he : pw_ce X σ' μ' a = e) (ho : ∀ b, b ≠ a → pw_ce X σ' μ' b = pw_ce X σ μ b) : pw_ws X σ μ ++ [(a, e)] = pw_ws X σ' μ' := by
  subst ha
  apply List.ext_getElem?
  intro j
  by_cases hj : j < nn σ
  · have e1 := pw_ws_at (X := X) (σ := σ) (μ := μ) (a := cxB X + j) (by omega) (by omega)
    have e2 := pw_ws_at (X := X) (σ := σ') (μ := μ') (a := cxB X + j) (by omega) (by omega)
    rw [show cxB X + j - cxB X = j by omega] at e1 e2
    rw [List.getElem?_append_left (by rw [pw_ws_len]; exact hj), e1, e2, ho _ (by omega)]
  · rw [List.getElem?_append_right (by rw [pw_ws_len]; omega), pw_ws_len]
    by_cases hj2 : j = nn σ
    · subst hj2
      have e2 := pw_ws_at (X := X) (σ := σ') (μ := μ') (a := cxB X + nn σ) (by omega) (by omega)
      rw [show cxB X + nn σ - cxB X = nn σ by omega] at e2
      rw [e2, he, Nat.sub_self]
      rfl
    · rw [List.getElem?_eq_none (by simp; omega), List.getElem?_eq_none (by rw [pw_ws_len]; omega)]
/-- boolean fields hold 0 or 1 -/
def pw_bo (σ : Sp) (μ : Mm) : Prop := ∀ a, tg σ a = 7 → (μ a 5 = 0 ∨ μ a 5 = 1) ∧ (μ a 6 = 0 ∨ μ a 6 = 1)
/-- the heap holds the pure memory -/
def HP (X : Cx) (σ : Sp) (μ : Mm) (H : Heap) : Prop := va_P (cxD X) vwCl (pw_ws X σ μ) H ∧ H.size = cxB X + nn σ ∧ (∀ a, tg σ a ≠ 0 → cxB X ≤ a ∧ a < cxB X + nn σ) ∧ pw_bo σ μ
def pw_tys (X : Cx) : List (ClassId × FieldType) := [((cxC X).1, .char), ((cxC X).2.1, .int), ((cxC X).2.2.1, .int), ((cxC X).2.2.2.1, .object RX0), ((cxC X).2.2.2.2, .object RX6)]
def pw_AF : Nat → Int32 := fun j => [3, 40, 1, 1, 4].getD j 0
def pw_LO : Nat → Int32 := fun j => [1, 2, 0, 0, 1].getD j 0
def pw_GR : Nat → Int32 := fun j => [20, 99, 9, 9, 9].getD j 0
/-- words of links between nest mates, and of a cast -/
def pw_nest : List Cond := [.fieldLinkNest RX0 9 RX7 "AT_FIRST" "[I" RX7, .fieldLinkNest RX0 59 RX7 "LOWEST" "[I" RX7, .fieldLinkNest RX0 62 RX7 "GREATEST" "[I" RX7,
  .methodLinkNest RX6 11 yX5_init RX7, .methodLinkNest RX6 20 yX2_init RX7, .methodLinkNest RX7 32 yX3_init RX7, .methodLinkNest RX0 41 yX7_copyNumbers RX7, .methodLinkNest RX5 21 yX7_copyNumbers RX7,
  .methodLinkNest RX2 15 yX7_copyNumbers RX7, .methodLinkNest RX0 84 yX7_isWire RX7, .castable "[I" "java/lang/Cloneable"]
theorem pw_nest_in : ∀ w ∈ pw_nest, w ∈ tables_1 := by decide +kernel
theorem pw_nest_on : ∀ w ∈ pw_nest, w.onTables = true := by decide +kernel
def pw_kind : Cond → Bool
  | .fieldLinkNest _ _ _ _ _ _ => true
  | .methodLinkNest _ _ _ _ => true
  | .castable _ _ => true
  | _ => false
theorem pw_nest_kind : ∀ w ∈ pw_nest, pw_kind w = true := by decide +kernel
theorem pw_warm {w : Cond} (hk : pw_kind w = true) {s U : State} (hW : s.WarmedH U.vm) (h : va_Nw w s) : va_Nw w U := by
  cases w with
  | fieldLinkNest a i b n d h' => exact va_Nw.warmF hW h
  | methodLinkNest a i x h' => exact va_Nw.warmM hW h
  | castable a b => exact va_Nw.warmC hW h
  | _ => cases hk
/-- a static row of five numbers -/
def pw_SA (c : ClassId) (t : Nat) (f : Nat → Int32) (H : Heap) : Prop := ∃ cell : Cell, H[t]? = some cell ∧ cell.cls = c ∧ cell.slots = (arrV c 5 (fun j => .int (f j))).slots ∧ cell.vm.isStatics = false ∧ cell.vm ≠ .unknown
/-- what a method's start says of the tables, of what stands below the base -/
def SX (X : Cx) (s : State) : Prop := va_K (cxD X) vwCl (pw_tys X) s ∧ (∀ w ∈ pw_nest, va_Nw w s) ∧ va_AO RX0 s ∧ va_AO RX6 s ∧
  (va_Z RX7 "AT_FIRST" "[I" (.ref (cxT X).1) (fun q => cxB X ≤ q) s s.heap ∧ va_Z RX7 "LOWEST" "[I" (.ref (cxT X).2.1) (fun q => cxB X ≤ q) s s.heap ∧ va_Z RX7 "GREATEST" "[I" (.ref (cxT X).2.2) (fun q => cxB X ≤ q) s s.heap) ∧
  (pw_SA (cxC X).2.1 (cxT X).1 pw_AF s.heap ∧ pw_SA (cxC X).2.1 (cxT X).2.1 pw_LO s.heap ∧ pw_SA (cxC X).2.1 (cxT X).2.2 pw_GR s.heap) ∧
  ((cxT X).1 < cxB X ∧ (cxT X).2.1 < cxB X ∧ (cxT X).2.2 < cxB X) ∧ va_X (cxS X).1 (cxS X).2.1 (cxS X).2.2 s s.heap ∧ (cxS X).1 < cxB X ∧ cxB X ≤ s.heap.size
theorem SX.moved {X : Cx} {s U : State} {H : Heap} {locs : List Loc} (h : SX X s) (hS : va_S (fun q => cxB X ≤ q) s.heap H locs) (hU : U.heap = H) (hW : s.WarmedH U.vm) : SX X U := by
  subst hU
  obtain ⟨hK, hN, hB, hSt, ⟨z1, z2, z3⟩, ⟨p1, p2, p3⟩, ⟨b1, b2, b3⟩, hX, b4, b5⟩ := h
  have hq : ∀ a : Nat, a < s.heap.size → ¬ cxB X ≤ a → U.heap[a]? = s.heap[a]? := hS.2.1
  have hq2 : ∀ {c : ClassId} {t : Nat} {f : Nat → Int32}, t < cxB X → pw_SA c t f s.heap → pw_SA c t f U.heap := by
    intro c t f ht hP
    obtain ⟨cell, h1, h2⟩ := hP
    exact ⟨cell, by rw [hq t (by omega) (by omega)]; exact h1, h2⟩
  exact ⟨hK.moved hW.alike, fun w hw => pw_warm (pw_nest_kind w hw) hW (hN w hw), hB.moved hW.alike, hSt.moved hW.alike, ⟨(z1.kept hq).moved hW.alike, (z2.kept hq).moved hW.alike, (z3.kept hq).moved hW.alike⟩,
    ⟨hq2 b1 p1, hq2 b2 p2, hq2 b3 p3⟩, ⟨b1, b2, b3⟩, (hX.kept (hq _ (by omega) (by omega))).moved hW.alike, b4, Nat.le_trans b5 hS.1⟩
end
section
/-! The walk over the pure memory: a row an instruction -/
def pw_Tb : List Cond := lw_tbl.filter goodWord
/-- name, code, locals, answer, frames, locals' words, cells and slots of a method -/
abbrev Mt : Type := MethodName × ByteArray × Nat × Option FieldType × Nat × Nat × Nat × Nat
def mY (M : Mt) : MethodName := M.1
def mB (M : Mt) : ByteArray := M.2.1
def mL (M : Mt) : Nat := M.2.2.1
def mRet (M : Mt) : Option FieldType := M.2.2.2.1
def mF (M : Mt) : Nat := M.2.2.2.2.1
def mLo (M : Mt) : Nat := M.2.2.2.2.2.1
def mCe (M : Mt) : Nat := M.2.2.2.2.2.2.1
def mSl (M : Mt) : Nat := M.2.2.2.2.2.2.2
def mRm (M : Mt) : Room := { frames := mF M, cells := mCe M, slots := mSl M, locals := mLo M }
def mWs (M : Mt) : List Cond := Cond.code (mY M) (mB M) (mL M) (mRet M) :: pw_Tb
def Bd (M : Mt) (p : Program) (R : Room) (s : State) (m : MethodId) (args : Array Value) (meth : Method) (c : Code) : Prop :=
  p.tables.exec = Jvm.exec ∧ c.code = mB M ∧ meth.sig.returnType = mRet M ∧ c.maxLocals = mL M ∧ s.vm.findClass (mY M).cls = some m.cls ∧ (∀ w ∈ pw_Tb, w.before args s = true) ∧ meth.locks = false ∧ ((mY M).name = "<init>" → meth.name = "<init>") ∧ mF M ≤ R.frames ∧ mLo M ≤ R.locals
def pw_L (ar : Array Slot) (n : Nat) (ls : List (Option Value)) : Prop := ar.size = n ∧ lv_wf ar ∧ ∀ (i : Nat) (v : Value), ls[i]? = some (some v) → ar[i]? = some (.val v)
def pw_ret (M : Mt) (pc : Nat) (r : Option Value) : Prop :=
  (r = none ∧ mRet M = none ∧ decode (mB M) pc = .ok (.return_, 1)) ∨ (∃ (x : Int32) (ty : FieldType), r = some (.int x) ∧ mRet M = some ty ∧ narrow ty (.int x) = .int x ∧ decode (mB M) pc = .ok (.ireturn, 1)) ∨
  (∃ (v : Value) (C : String), r = some v ∧ (v = .null ∨ ∃ a, v = .ref a) ∧ mRet M = some (.object C) ∧ decode (mB M) pc = .ok (.areturn, 1))
/-- from here the method comes to its end, with Q -/
def PW (X : Cx) (M : Mt) (b1 b2 : Nat) (pc : Nat) (ls : List (Option Value)) (st : List Value) (σ : Sp) (μ : Mm) (Q : Option Value → Sp → Mm → Prop) : Prop :=
  ∀ (p : Program) (e : Env) (R : Room) (s : State) (m : MethodId) (args : Array Value) (below : List Frame) (meth : Method) (c : Code) (H : Heap) (locs : List Loc) (cells slots : Nat) (ar : Array Slot) (Z : State → Prop),
    Bd M p R s m args meth c → SX X s → HP X σ μ H → va_S (fun q => cxB X ≤ q) s.heap H locs → pw_L ar (mL M) ls → cells + b1 ≤ R.cells → slots + b2 ≤ R.slots →
    (∀ (H' : Heap) (locs' : List Loc) (cells' slots' : Nat) (ar' : Array Slot) (pc' : Nat) (r : Option Value) (σ' : Sp) (μ' : Mm), Q r σ' μ' → pw_ret M pc' r → HP X σ' μ' H' → va_S (fun q => cxB X ≤ q) s.heap H' locs' → cells' ≤ R.cells → slots' ≤ R.slots → W p (cxL X) e R s m args below meth c H' locs' cells' slots' Z (F0 m pc' ar' r.toList)) →
    W p (cxL X) e R s m args below meth c H locs cells slots Z (F0 m pc ar st)
def CT (X : Cx) (M : Mt) (av : List Value) (σ : Sp) (μ : Mm) (Q : Option Value → Sp → Mm → Prop) : Prop :=
  Met (cxL X) (mY M) (mWs M) (mRm M) (va_Pc av (fun U => SX X U ∧ HP X σ μ U.heap)) (fun _ st o t => (∃ (r : Option Value) (σ' : Sp) (μ' : Mm), o = .returned r ∧ Q r σ' μ' ∧ HP X σ' μ' t.heap) ∧ va_F (fun q => cxB X ≤ q) st t) (mCe M) (mSl M) (fun q => cxB X ≤ q)
def LI (Q : Int32 → Sp → Mm → Prop) : Option Value → Sp → Mm → Prop := fun r σ μ => ∃ x : Int32, r = some (.int x) ∧ Q x σ μ
def LV (Q : Sp → Mm → Prop) : Option Value → Sp → Mm → Prop := fun r σ μ => r = none ∧ Q σ μ
def LR (Q : Option Nat → Sp → Mm → Prop) : Option Value → Sp → Mm → Prop := fun r σ μ => ∃ o : Option Nat, r = some (va_rf o) ∧ Q o σ μ
abbrev CTi (X : Cx) (M : Mt) (av : List Value) (σ : Sp) (μ : Mm) (Q : Int32 → Sp → Mm → Prop) : Prop := CT X M av σ μ (LI Q)
abbrev CTv (X : Cx) (M : Mt) (av : List Value) (σ : Sp) (μ : Mm) (Q : Sp → Mm → Prop) : Prop := CT X M av σ μ (LV Q)
abbrev CTr (X : Cx) (M : Mt) (av : List Value) (σ : Sp) (μ : Mm) (Q : Option Nat → Sp → Mm → Prop) : Prop := CT X M av σ μ (LR Q)
section PWR
variable {X : Cx} {M : Mt} {b1 b2 pc : Nat} {ls : List (Option Value)} {st : List Value} {σ : Sp} {μ : Mm} {Q : Option Value → Sp → Mm → Prop}
theorem pw_mono {Q' : Option Value → Sp → Mm → Prop} (hQ : ∀ r σ' μ', Q r σ' μ' → Q' r σ' μ') (k : PW X M b1 b2 pc ls st σ μ Q) : PW X M b1 b2 pc ls st σ μ Q' :=
  fun p e R s m args below meth c H locs cells slots ar Z B S P F L c1 c2 K => k p e R s m args below meth c H locs cells slots ar Z B S P F L c1 c2 (fun H' locs' cells' slots' ar' pc' r σ' μ' q => K H' locs' cells' slots' ar' pc' r σ' μ' (hQ r σ' μ' q))
theorem pw_inv (k : pw_bo σ μ → (∀ a, tg σ a ≠ 0 → cxB X ≤ a ∧ a < cxB X + nn σ) → PW X M b1 b2 pc ls st σ μ Q) : PW X M b1 b2 pc ls st σ μ Q :=
  fun p e R s m args below meth c H locs cells slots ar Z B S P F L c1 c2 K => k P.2.2.2 P.2.2.1 p e R s m args below meth c H locs cells slots ar Z B S P F L c1 c2 K
theorem pw_bud {b1' b2' : Nat} (h1 : b1' ≤ b1) (h2 : b2' ≤ b2) (k : PW X M b1' b2' pc ls st σ μ Q) : PW X M b1 b2 pc ls st σ μ Q :=
  fun p e R s m args below meth c H locs cells slots ar Z B S P F L c1 c2 K => k p e R s m args below meth c H locs cells slots ar Z B S P F L (by omega) (by omega) K
theorem pw_iconst {n : Int} {v : Int32} (d : decode (mB M) pc = .ok (.iconst n, 1)) (hv : Int32.ofInt n = v) (k : PW X M b1 b2 (pc + 1) ls (.int v :: st) σ μ Q) : PW X M b1 b2 pc ls st σ μ Q :=
  fun p e R s m args below meth c H locs cells slots ar Z B S P F L c1 c2 K => lv_iconst B.1 B.2.1 d hv (k p e R s m args below meth c H locs cells slots ar Z B S P F L c1 c2 K)
theorem pw_bipush {n : Int} {v : Int32} (d : decode (mB M) pc = .ok (.bipush n, 2)) (hv : (Int8.ofInt n).toInt32 = v) (k : PW X M b1 b2 (pc + 2) ls (.int v :: st) σ μ Q) : PW X M b1 b2 pc ls st σ μ Q :=
  fun p e R s m args below meth c H locs cells slots ar Z B S P F L c1 c2 K => lv_bipush B.1 B.2.1 d hv (k p e R s m args below meth c H locs cells slots ar Z B S P F L c1 c2 K)
theorem pw_sipush {n : Int} {v : Int32} (d : decode (mB M) pc = .ok (.sipush n, 3)) (hv : (Int16.ofInt n).toInt32 = v) (k : PW X M b1 b2 (pc + 3) ls (.int v :: st) σ μ Q) : PW X M b1 b2 pc ls st σ μ Q :=
  fun p e R s m args below meth c H locs cells slots ar Z B S P F L c1 c2 K => lv_sipush B.1 B.2.1 d hv (k p e R s m args below meth c H locs cells slots ar Z B S P F L c1 c2 K)
theorem pw_lconst {n : Fin 2} {v : Int64} (d : decode (mB M) pc = .ok (.lconst n, 1)) (hv : Int64.ofNat (n : Nat) = v) (k : PW X M b1 b2 (pc + 1) ls (.long v :: st) σ μ Q) : PW X M b1 b2 pc ls st σ μ Q :=
  fun p e R s m args below meth c H locs cells slots ar Z B S P F L c1 c2 K => lv_lconst B.1 B.2.1 d hv (k p e R s m args below meth c H locs cells slots ar Z B S P F L c1 c2 K)
theorem pw_iadd {x y : Int32} (d : decode (mB M) pc = .ok (.iadd, 1)) (k : PW X M b1 b2 (pc + 1) ls (.int (x + y) :: st) σ μ Q) : PW X M b1 b2 pc ls (.int y :: .int x :: st) σ μ Q :=
  fun p e R s m args below meth c H locs cells slots ar Z B S P F L c1 c2 K => lv_iadd B.1 B.2.1 d (k p e R s m args below meth c H locs cells slots ar Z B S P F L c1 c2 K)
theorem pw_isub {x y : Int32} (d : decode (mB M) pc = .ok (.isub, 1)) (k : PW X M b1 b2 (pc + 1) ls (.int (x - y) :: st) σ μ Q) : PW X M b1 b2 pc ls (.int y :: .int x :: st) σ μ Q :=
  fun p e R s m args below meth c H locs cells slots ar Z B S P F L c1 c2 K => lv_isub B.1 B.2.1 d (k p e R s m args below meth c H locs cells slots ar Z B S P F L c1 c2 K)
theorem pw_imul {x y : Int32} (d : decode (mB M) pc = .ok (.imul, 1)) (k : PW X M b1 b2 (pc + 1) ls (.int (x * y) :: st) σ μ Q) : PW X M b1 b2 pc ls (.int y :: .int x :: st) σ μ Q :=
  fun p e R s m args below meth c H locs cells slots ar Z B S P F L c1 c2 K => lv_imul B.1 B.2.1 d (k p e R s m args below meth c H locs cells slots ar Z B S P F L c1 c2 K)
theorem pw_iand {x y : Int32} (d : decode (mB M) pc = .ok (.iand, 1)) (k : PW X M b1 b2 (pc + 1) ls (.int (x &&& y) :: st) σ μ Q) : PW X M b1 b2 pc ls (.int y :: .int x :: st) σ μ Q :=
  fun p e R s m args below meth c H locs cells slots ar Z B S P F L c1 c2 K => lv_iand B.1 B.2.1 d (k p e R s m args below meth c H locs cells slots ar Z B S P F L c1 c2 K)
theorem pw_ior {x y : Int32} (d : decode (mB M) pc = .ok (.ior, 1)) (k : PW X M b1 b2 (pc + 1) ls (.int (x ||| y) :: st) σ μ Q) : PW X M b1 b2 pc ls (.int y :: .int x :: st) σ μ Q :=
  fun p e R s m args below meth c H locs cells slots ar Z B S P F L c1 c2 K => lv_ior B.1 B.2.1 d (k p e R s m args below meth c H locs cells slots ar Z B S P F L c1 c2 K)
theorem pw_ixor {x y : Int32} (d : decode (mB M) pc = .ok (.ixor, 1)) (k : PW X M b1 b2 (pc + 1) ls (.int (x ^^^ y) :: st) σ μ Q) : PW X M b1 b2 pc ls (.int y :: .int x :: st) σ μ Q :=
  fun p e R s m args below meth c H locs cells slots ar Z B S P F L c1 c2 K => lv_ixor B.1 B.2.1 d (k p e R s m args below meth c H locs cells slots ar Z B S P F L c1 c2 K)
theorem pw_idiv {x y : Int32} (d : decode (mB M) pc = .ok (.idiv, 1)) (hne : ¬ y = 0) (k : PW X M b1 b2 (pc + 1) ls (.int (x / y) :: st) σ μ Q) : PW X M b1 b2 pc ls (.int y :: .int x :: st) σ μ Q :=
  fun p e R s m args below meth c H locs cells slots ar Z B S P F L c1 c2 K => lv_idiv B.1 B.2.1 d hne (k p e R s m args below meth c H locs cells slots ar Z B S P F L c1 c2 K)
theorem pw_irem {x y : Int32} (d : decode (mB M) pc = .ok (.irem, 1)) (hne : ¬ y = 0) (k : PW X M b1 b2 (pc + 1) ls (.int (x - x / y * y) :: st) σ μ Q) : PW X M b1 b2 pc ls (.int y :: .int x :: st) σ μ Q :=
  fun p e R s m args below meth c H locs cells slots ar Z B S P F L c1 c2 K => lv_irem B.1 B.2.1 d hne (k p e R s m args below meth c H locs cells slots ar Z B S P F L c1 c2 K)
theorem pw_ishl {x y : Int32} (d : decode (mB M) pc = .ok (.ishl, 1)) (k : PW X M b1 b2 (pc + 1) ls (.int (x <<< (y &&& 31)) :: st) σ μ Q) : PW X M b1 b2 pc ls (.int y :: .int x :: st) σ μ Q :=
  fun p e R s m args below meth c H locs cells slots ar Z B S P F L c1 c2 K => lv_ishl B.1 B.2.1 d (k p e R s m args below meth c H locs cells slots ar Z B S P F L c1 c2 K)
theorem pw_ishr {x y : Int32} (d : decode (mB M) pc = .ok (.ishr, 1)) (k : PW X M b1 b2 (pc + 1) ls (.int (x >>> (y &&& 31)) :: st) σ μ Q) : PW X M b1 b2 pc ls (.int y :: .int x :: st) σ μ Q :=
  fun p e R s m args below meth c H locs cells slots ar Z B S P F L c1 c2 K => lv_ishr B.1 B.2.1 d (k p e R s m args below meth c H locs cells slots ar Z B S P F L c1 c2 K)
theorem pw_iushr {x y : Int32} (d : decode (mB M) pc = .ok (.iushr, 1)) (k : PW X M b1 b2 (pc + 1) ls (.int ((x.toUInt32 >>> (y.toUInt32 &&& Int32.toUInt32 31)).toInt32) :: st) σ μ Q) : PW X M b1 b2 pc ls (.int y :: .int x :: st) σ μ Q :=
  fun p e R s m args below meth c H locs cells slots ar Z B S P F L c1 c2 K => lv_iushr B.1 B.2.1 d rfl (k p e R s m args below meth c H locs cells slots ar Z B S P F L c1 c2 K)
theorem pw_i2l {x : Int32} (d : decode (mB M) pc = .ok (.i2l, 1)) (k : PW X M b1 b2 (pc + 1) ls (.long x.toInt64 :: st) σ μ Q) : PW X M b1 b2 pc ls (.int x :: st) σ μ Q :=
  fun p e R s m args below meth c H locs cells slots ar Z B S P F L c1 c2 K => lv_i2l B.1 B.2.1 d rfl (k p e R s m args below meth c H locs cells slots ar Z B S P F L c1 c2 K)
theorem pw_l2i {x : Int64} (d : decode (mB M) pc = .ok (.l2i, 1)) (k : PW X M b1 b2 (pc + 1) ls (.int x.toInt32 :: st) σ μ Q) : PW X M b1 b2 pc ls (.long x :: st) σ μ Q :=
  fun p e R s m args below meth c H locs cells slots ar Z B S P F L c1 c2 K => lv_l2i B.1 B.2.1 d rfl (k p e R s m args below meth c H locs cells slots ar Z B S P F L c1 c2 K)
theorem pw_i2c {x : Int32} (d : decode (mB M) pc = .ok (.i2c, 1)) (k : PW X M b1 b2 (pc + 1) ls (.int (x.toUInt32 % 65536).toInt32 :: st) σ μ Q) : PW X M b1 b2 pc ls (.int x :: st) σ μ Q :=
  fun p e R s m args below meth c H locs cells slots ar Z B S P F L c1 c2 K => lv_i2c B.1 B.2.1 d rfl (k p e R s m args below meth c H locs cells slots ar Z B S P F L c1 c2 K)
theorem pw_land {x y : Int64} (d : decode (mB M) pc = .ok (.land, 1)) (k : PW X M b1 b2 (pc + 1) ls (.long (x &&& y) :: st) σ μ Q) : PW X M b1 b2 pc ls (.long y :: .long x :: st) σ μ Q :=
  fun p e R s m args below meth c H locs cells slots ar Z B S P F L c1 c2 K => lv_land B.1 B.2.1 d (k p e R s m args below meth c H locs cells slots ar Z B S P F L c1 c2 K)
theorem pw_lor {x y : Int64} (d : decode (mB M) pc = .ok (.lor, 1)) (k : PW X M b1 b2 (pc + 1) ls (.long (x ||| y) :: st) σ μ Q) : PW X M b1 b2 pc ls (.long y :: .long x :: st) σ μ Q :=
  fun p e R s m args below meth c H locs cells slots ar Z B S P F L c1 c2 K => lv_lor B.1 B.2.1 d (k p e R s m args below meth c H locs cells slots ar Z B S P F L c1 c2 K)
theorem pw_lushr {x : Int64} {y : Int32} (d : decode (mB M) pc = .ok (.lushr, 1)) (k : PW X M b1 b2 (pc + 1) ls (.long (x.toUInt64 >>> (y.toInt64.toUInt64 &&& Int64.toUInt64 63)).toInt64 :: st) σ μ Q) : PW X M b1 b2 pc ls (.int y :: .long x :: st) σ μ Q :=
  fun p e R s m args below meth c H locs cells slots ar Z B S P F L c1 c2 K => lv_lushr B.1 B.2.1 d rfl (k p e R s m args below meth c H locs cells slots ar Z B S P F L c1 c2 K)
theorem pw_lshl {x : Int64} {y : Int32} (d : decode (mB M) pc = .ok (.lshl, 1)) (k : PW X M b1 b2 (pc + 1) ls (.long (x <<< (y.toInt64 &&& 63)) :: st) σ μ Q) : PW X M b1 b2 pc ls (.int y :: .long x :: st) σ μ Q :=
  fun p e R s m args below meth c H locs cells slots ar Z B S P F L c1 c2 K => lv_lshl B.1 B.2.1 d rfl (k p e R s m args below meth c H locs cells slots ar Z B S P F L c1 c2 K)
theorem pw_dup {va : Value} (d : decode (mB M) pc = .ok (.dup, 1)) (k : PW X M b1 b2 (pc + 1) ls (va :: va :: st) σ μ Q) (hva : va.category = 1 := by rfl) : PW X M b1 b2 pc ls (va :: st) σ μ Q :=
  fun p e R s m args below meth c H locs cells slots ar Z B S P F L c1 c2 K => lv_dup B.1 B.2.1 d hva (k p e R s m args below meth c H locs cells slots ar Z B S P F L c1 c2 K)
theorem pw_pop {va : Value} (d : decode (mB M) pc = .ok (.pop, 1)) (k : PW X M b1 b2 (pc + 1) ls st σ μ Q) (hva : va.category = 1 := by rfl) : PW X M b1 b2 pc ls (va :: st) σ μ Q :=
  fun p e R s m args below meth c H locs cells slots ar Z B S P F L c1 c2 K => lv_pop B.1 B.2.1 d hva (k p e R s m args below meth c H locs cells slots ar Z B S P F L c1 c2 K)
theorem pw_dup2_11 {va vb : Value} (d : decode (mB M) pc = .ok (.dup2, 1)) (k : PW X M b1 b2 (pc + 1) ls (va :: vb :: va :: vb :: st) σ μ Q) (hva : va.category = 1 := by rfl) (hvb : vb.category = 1 := by rfl) : PW X M b1 b2 pc ls (va :: vb :: st) σ μ Q :=
  fun p e R s m args below meth c H locs cells slots ar Z B S P F L c1 c2 K => lv_dup2_11 B.1 B.2.1 d hva hvb (k p e R s m args below meth c H locs cells slots ar Z B S P F L c1 c2 K)
theorem pw_null (d : decode (mB M) pc = .ok (.aconst_null, 1)) (k : PW X M b1 b2 (pc + 1) ls (.null :: st) σ μ Q) : PW X M b1 b2 pc ls st σ μ Q :=
  fun p e R s m args below meth c H locs cells slots ar Z B S P F L c1 c2 K => lv_null B.1 B.2.1 d (k p e R s m args below meth c H locs cells slots ar Z B S P F L c1 c2 K)
theorem pw_lcmp {x y : Int64} (d : decode (mB M) pc = .ok (.lcmp, 1)) (k : PW X M b1 b2 (pc + 1) ls (.int (lg_cmp x y) :: st) σ μ Q) : PW X M b1 b2 pc ls (.long y :: .long x :: st) σ μ Q :=
  fun p e R s m args below meth c H locs cells slots ar Z B S P F L c1 c2 K => W.lcmp B.1 B.2.1 d (k p e R s m args below meth c H locs cells slots ar Z B S P F L c1 c2 K)
theorem pw_iload_gn {n : Fin 4} {x : Int32} (d : decode (mB M) pc = .ok (.iload_n n, 1)) (h : ls[(n : Nat)]? = some (some (.int x))) (k : PW X M b1 b2 (pc + 1) ls (.int x :: st) σ μ Q) : PW X M b1 b2 pc ls st σ μ Q :=
  fun p e R s m args below meth c H locs cells slots ar Z B S P F L c1 c2 K => lv_iload_n B.1 B.2.1 d rfl (L.2.2 _ _ h) (k p e R s m args below meth c H locs cells slots ar Z B S P F L c1 c2 K)
theorem pw_iload_g {i : Nat} {x : Int32} (d : decode (mB M) pc = .ok (.iload i, 2)) (h : ls[i]? = some (some (.int x))) (k : PW X M b1 b2 (pc + 2) ls (.int x :: st) σ μ Q) : PW X M b1 b2 pc ls st σ μ Q :=
  fun p e R s m args below meth c H locs cells slots ar Z B S P F L c1 c2 K => lv_iload B.1 B.2.1 d (L.2.2 _ _ h) (k p e R s m args below meth c H locs cells slots ar Z B S P F L c1 c2 K)
theorem pw_iload_0 {t : List (Option Value)} {x : Int32} (d : decode (mB M) pc = .ok (.iload_n 0, 1)) (k : PW X M b1 b2 (pc + 1) (some (.int x) :: t) (.int x :: st) σ μ Q) : PW X M b1 b2 pc (some (.int x) :: t) st σ μ Q := pw_iload_gn d rfl k
theorem pw_iload_1 {v0 : Option Value} {t : List (Option Value)} {x : Int32} (d : decode (mB M) pc = .ok (.iload_n 1, 1)) (k : PW X M b1 b2 (pc + 1) (v0 :: some (.int x) :: t) (.int x :: st) σ μ Q) : PW X M b1 b2 pc (v0 :: some (.int x) :: t) st σ μ Q := pw_iload_gn d rfl k
theorem pw_iload_2 {v0 v1 : Option Value} {t : List (Option Value)} {x : Int32} (d : decode (mB M) pc = .ok (.iload_n 2, 1)) (k : PW X M b1 b2 (pc + 1) (v0 :: v1 :: some (.int x) :: t) (.int x :: st) σ μ Q) : PW X M b1 b2 pc (v0 :: v1 :: some (.int x) :: t) st σ μ Q := pw_iload_gn d rfl k
theorem pw_iload_3 {v0 v1 v2 : Option Value} {t : List (Option Value)} {x : Int32} (d : decode (mB M) pc = .ok (.iload_n 3, 1)) (k : PW X M b1 b2 (pc + 1) (v0 :: v1 :: v2 :: some (.int x) :: t) (.int x :: st) σ μ Q) : PW X M b1 b2 pc (v0 :: v1 :: v2 :: some (.int x) :: t) st σ μ Q := pw_iload_gn d rfl k
theorem pw_iload_4 {v0 v1 v2 v3 : Option Value} {t : List (Option Value)} {x : Int32} (d : decode (mB M) pc = .ok (.iload 4, 2)) (k : PW X M b1 b2 (pc + 2) (v0 :: v1 :: v2 :: v3 :: some (.int x) :: t) (.int x :: st) σ μ Q) : PW X M b1 b2 pc (v0 :: v1 :: v2 :: v3 :: some (.int x) :: t) st σ μ Q := pw_iload_g d rfl k
theorem pw_iload_5 {v0 v1 v2 v3 v4 : Option Value} {t : List (Option Value)} {x : Int32} (d : decode (mB M) pc = .ok (.iload 5, 2)) (k : PW X M b1 b2 (pc + 2) (v0 :: v1 :: v2 :: v3 :: v4 :: some (.int x) :: t) (.int x :: st) σ μ Q) : PW X M b1 b2 pc (v0 :: v1 :: v2 :: v3 :: v4 :: some (.int x) :: t) st σ μ Q := pw_iload_g d rfl k
theorem pw_iload_6 {v0 v1 v2 v3 v4 v5 : Option Value} {t : List (Option Value)} {x : Int32} (d : decode (mB M) pc = .ok (.iload 6, 2)) (k : PW X M b1 b2 (pc + 2) (v0 :: v1 :: v2 :: v3 :: v4 :: v5 :: some (.int x) :: t) (.int x :: st) σ μ Q) : PW X M b1 b2 pc (v0 :: v1 :: v2 :: v3 :: v4 :: v5 :: some (.int x) :: t) st σ μ Q := pw_iload_g d rfl k
theorem pw_iload_7 {v0 v1 v2 v3 v4 v5 v6 : Option Value} {t : List (Option Value)} {x : Int32} (d : decode (mB M) pc = .ok (.iload 7, 2)) (k : PW X M b1 b2 (pc + 2) (v0 :: v1 :: v2 :: v3 :: v4 :: v5 :: v6 :: some (.int x) :: t) (.int x :: st) σ μ Q) : PW X M b1 b2 pc (v0 :: v1 :: v2 :: v3 :: v4 :: v5 :: v6 :: some (.int x) :: t) st σ μ Q := pw_iload_g d rfl k
theorem pw_iload_8 {v0 v1 v2 v3 v4 v5 v6 v7 : Option Value} {t : List (Option Value)} {x : Int32} (d : decode (mB M) pc = .ok (.iload 8, 2)) (k : PW X M b1 b2 (pc + 2) (v0 :: v1 :: v2 :: v3 :: v4 :: v5 :: v6 :: v7 :: some (.int x) :: t) (.int x :: st) σ μ Q) : PW X M b1 b2 pc (v0 :: v1 :: v2 :: v3 :: v4 :: v5 :: v6 :: v7 :: some (.int x) :: t) st σ μ Q := pw_iload_g d rfl k
theorem pw_iload_9 {v0 v1 v2 v3 v4 v5 v6 v7 v8 : Option Value} {t : List (Option Value)} {x : Int32} (d : decode (mB M) pc = .ok (.iload 9, 2)) (k : PW X M b1 b2 (pc + 2) (v0 :: v1 :: v2 :: v3 :: v4 :: v5 :: v6 :: v7 :: v8 :: some (.int x) :: t) (.int x :: st) σ μ Q) : PW X M b1 b2 pc (v0 :: v1 :: v2 :: v3 :: v4 :: v5 :: v6 :: v7 :: v8 :: some (.int x) :: t) st σ μ Q := pw_iload_g d rfl k
theorem pw_iload_10 {v0 v1 v2 v3 v4 v5 v6 v7 v8 v9 : Option Value} {t : List (Option Value)} {x : Int32} (d : decode (mB M) pc = .ok (.iload 10, 2)) (k : PW X M b1 b2 (pc + 2) (v0 :: v1 :: v2 :: v3 :: v4 :: v5 :: v6 :: v7 :: v8 :: v9 :: some (.int x) :: t) (.int x :: st) σ μ Q) : PW X M b1 b2 pc (v0 :: v1 :: v2 :: v3 :: v4 :: v5 :: v6 :: v7 :: v8 :: v9 :: some (.int x) :: t) st σ μ Q := pw_iload_g d rfl k
theorem pw_iload_11 {v0 v1 v2 v3 v4 v5 v6 v7 v8 v9 v10 : Option Value} {t : List (Option Value)} {x : Int32} (d : decode (mB M) pc = .ok (.iload 11, 2)) (k : PW X M b1 b2 (pc + 2) (v0 :: v1 :: v2 :: v3 :: v4 :: v5 :: v6 :: v7 :: v8 :: v9 :: v10 :: some (.int x) :: t) (.int x :: st) σ μ Q) : PW X M b1 b2 pc (v0 :: v1 :: v2 :: v3 :: v4 :: v5 :: v6 :: v7 :: v8 :: v9 :: v10 :: some (.int x) :: t) st σ μ Q := pw_iload_g d rfl k
theorem pw_iload_12 {v0 v1 v2 v3 v4 v5 v6 v7 v8 v9 v10 v11 : Option Value} {t : List (Option Value)} {x : Int32} (d : decode (mB M) pc = .ok (.iload 12, 2)) (k : PW X M b1 b2 (pc + 2) (v0 :: v1 :: v2 :: v3 :: v4 :: v5 :: v6 :: v7 :: v8 :: v9 :: v10 :: v11 :: some (.int x) :: t) (.int x :: st) σ μ Q) : PW X M b1 b2 pc (v0 :: v1 :: v2 :: v3 :: v4 :: v5 :: v6 :: v7 :: v8 :: v9 :: v10 :: v11 :: some (.int x) :: t) st σ μ Q := pw_iload_g d rfl k
theorem pw_iload_13 {v0 v1 v2 v3 v4 v5 v6 v7 v8 v9 v10 v11 v12 : Option Value} {t : List (Option Value)} {x : Int32} (d : decode (mB M) pc = .ok (.iload 13, 2)) (k : PW X M b1 b2 (pc + 2) (v0 :: v1 :: v2 :: v3 :: v4 :: v5 :: v6 :: v7 :: v8 :: v9 :: v10 :: v11 :: v12 :: some (.int x) :: t) (.int x :: st) σ μ Q) : PW X M b1 b2 pc (v0 :: v1 :: v2 :: v3 :: v4 :: v5 :: v6 :: v7 :: v8 :: v9 :: v10 :: v11 :: v12 :: some (.int x) :: t) st σ μ Q := pw_iload_g d rfl k
theorem pw_iload_14 {v0 v1 v2 v3 v4 v5 v6 v7 v8 v9 v10 v11 v12 v13 : Option Value} {t : List (Option Value)} {x : Int32} (d : decode (mB M) pc = .ok (.iload 14, 2)) (k : PW X M b1 b2 (pc + 2) (v0 :: v1 :: v2 :: v3 :: v4 :: v5 :: v6 :: v7 :: v8 :: v9 :: v10 :: v11 :: v12 :: v13 :: some (.int x) :: t) (.int x :: st) σ μ Q) : PW X M b1 b2 pc (v0 :: v1 :: v2 :: v3 :: v4 :: v5 :: v6 :: v7 :: v8 :: v9 :: v10 :: v11 :: v12 :: v13 :: some (.int x) :: t) st σ μ Q := pw_iload_g d rfl k
theorem pw_iload_15 {v0 v1 v2 v3 v4 v5 v6 v7 v8 v9 v10 v11 v12 v13 v14 : Option Value} {t : List (Option Value)} {x : Int32} (d : decode (mB M) pc = .ok (.iload 15, 2)) (k : PW X M b1 b2 (pc + 2) (v0 :: v1 :: v2 :: v3 :: v4 :: v5 :: v6 :: v7 :: v8 :: v9 :: v10 :: v11 :: v12 :: v13 :: v14 :: some (.int x) :: t) (.int x :: st) σ μ Q) : PW X M b1 b2 pc (v0 :: v1 :: v2 :: v3 :: v4 :: v5 :: v6 :: v7 :: v8 :: v9 :: v10 :: v11 :: v12 :: v13 :: v14 :: some (.int x) :: t) st σ μ Q := pw_iload_g d rfl k
theorem pw_iload_16 {v0 v1 v2 v3 v4 v5 v6 v7 v8 v9 v10 v11 v12 v13 v14 v15 : Option Value} {t : List (Option Value)} {x : Int32} (d : decode (mB M) pc = .ok (.iload 16, 2)) (k : PW X M b1 b2 (pc + 2) (v0 :: v1 :: v2 :: v3 :: v4 :: v5 :: v6 :: v7 :: v8 :: v9 :: v10 :: v11 :: v12 :: v13 :: v14 :: v15 :: some (.int x) :: t) (.int x :: st) σ μ Q) : PW X M b1 b2 pc (v0 :: v1 :: v2 :: v3 :: v4 :: v5 :: v6 :: v7 :: v8 :: v9 :: v10 :: v11 :: v12 :: v13 :: v14 :: v15 :: some (.int x) :: t) st σ μ Q := pw_iload_g d rfl k
theorem pw_iload_17 {v0 v1 v2 v3 v4 v5 v6 v7 v8 v9 v10 v11 v12 v13 v14 v15 v16 : Option Value} {t : List (Option Value)} {x : Int32} (d : decode (mB M) pc = .ok (.iload 17, 2)) (k : PW X M b1 b2 (pc + 2) (v0 :: v1 :: v2 :: v3 :: v4 :: v5 :: v6 :: v7 :: v8 :: v9 :: v10 :: v11 :: v12 :: v13 :: v14 :: v15 :: v16 :: some (.int x) :: t) (.int x :: st) σ μ Q) : PW X M b1 b2 pc (v0 :: v1 :: v2 :: v3 :: v4 :: v5 :: v6 :: v7 :: v8 :: v9 :: v10 :: v11 :: v12 :: v13 :: v14 :: v15 :: v16 :: some (.int x) :: t) st σ μ Q := pw_iload_g d rfl k
theorem pw_iload_18 {v0 v1 v2 v3 v4 v5 v6 v7 v8 v9 v10 v11 v12 v13 v14 v15 v16 v17 : Option Value} {t : List (Option Value)} {x : Int32} (d : decode (mB M) pc = .ok (.iload 18, 2)) (k : PW X M b1 b2 (pc + 2) (v0 :: v1 :: v2 :: v3 :: v4 :: v5 :: v6 :: v7 :: v8 :: v9 :: v10 :: v11 :: v12 :: v13 :: v14 :: v15 :: v16 :: v17 :: some (.int x) :: t) (.int x :: st) σ μ Q) : PW X M b1 b2 pc (v0 :: v1 :: v2 :: v3 :: v4 :: v5 :: v6 :: v7 :: v8 :: v9 :: v10 :: v11 :: v12 :: v13 :: v14 :: v15 :: v16 :: v17 :: some (.int x) :: t) st σ μ Q := pw_iload_g d rfl k
theorem pw_iload_19 {v0 v1 v2 v3 v4 v5 v6 v7 v8 v9 v10 v11 v12 v13 v14 v15 v16 v17 v18 : Option Value} {t : List (Option Value)} {x : Int32} (d : decode (mB M) pc = .ok (.iload 19, 2)) (k : PW X M b1 b2 (pc + 2) (v0 :: v1 :: v2 :: v3 :: v4 :: v5 :: v6 :: v7 :: v8 :: v9 :: v10 :: v11 :: v12 :: v13 :: v14 :: v15 :: v16 :: v17 :: v18 :: some (.int x) :: t) (.int x :: st) σ μ Q) : PW X M b1 b2 pc (v0 :: v1 :: v2 :: v3 :: v4 :: v5 :: v6 :: v7 :: v8 :: v9 :: v10 :: v11 :: v12 :: v13 :: v14 :: v15 :: v16 :: v17 :: v18 :: some (.int x) :: t) st σ μ Q := pw_iload_g d rfl k
theorem pw_iload_20 {v0 v1 v2 v3 v4 v5 v6 v7 v8 v9 v10 v11 v12 v13 v14 v15 v16 v17 v18 v19 : Option Value} {t : List (Option Value)} {x : Int32} (d : decode (mB M) pc = .ok (.iload 20, 2)) (k : PW X M b1 b2 (pc + 2) (v0 :: v1 :: v2 :: v3 :: v4 :: v5 :: v6 :: v7 :: v8 :: v9 :: v10 :: v11 :: v12 :: v13 :: v14 :: v15 :: v16 :: v17 :: v18 :: v19 :: some (.int x) :: t) (.int x :: st) σ μ Q) : PW X M b1 b2 pc (v0 :: v1 :: v2 :: v3 :: v4 :: v5 :: v6 :: v7 :: v8 :: v9 :: v10 :: v11 :: v12 :: v13 :: v14 :: v15 :: v16 :: v17 :: v18 :: v19 :: some (.int x) :: t) st σ μ Q := pw_iload_g d rfl k
theorem pw_iload_21 {v0 v1 v2 v3 v4 v5 v6 v7 v8 v9 v10 v11 v12 v13 v14 v15 v16 v17 v18 v19 v20 : Option Value} {t : List (Option Value)} {x : Int32} (d : decode (mB M) pc = .ok (.iload 21, 2)) (k : PW X M b1 b2 (pc + 2) (v0 :: v1 :: v2 :: v3 :: v4 :: v5 :: v6 :: v7 :: v8 :: v9 :: v10 :: v11 :: v12 :: v13 :: v14 :: v15 :: v16 :: v17 :: v18 :: v19 :: v20 :: some (.int x) :: t) (.int x :: st) σ μ Q) : PW X M b1 b2 pc (v0 :: v1 :: v2 :: v3 :: v4 :: v5 :: v6 :: v7 :: v8 :: v9 :: v10 :: v11 :: v12 :: v13 :: v14 :: v15 :: v16 :: v17 :: v18 :: v19 :: v20 :: some (.int x) :: t) st σ μ Q := pw_iload_g d rfl k
theorem pw_iload_22 {v0 v1 v2 v3 v4 v5 v6 v7 v8 v9 v10 v11 v12 v13 v14 v15 v16 v17 v18 v19 v20 v21 : Option Value} {t : List (Option Value)} {x : Int32} (d : decode (mB M) pc = .ok (.iload 22, 2)) (k : PW X M b1 b2 (pc + 2) (v0 :: v1 :: v2 :: v3 :: v4 :: v5 :: v6 :: v7 :: v8 :: v9 :: v10 :: v11 :: v12 :: v13 :: v14 :: v15 :: v16 :: v17 :: v18 :: v19 :: v20 :: v21 :: some (.int x) :: t) (.int x :: st) σ μ Q) : PW X M b1 b2 pc (v0 :: v1 :: v2 :: v3 :: v4 :: v5 :: v6 :: v7 :: v8 :: v9 :: v10 :: v11 :: v12 :: v13 :: v14 :: v15 :: v16 :: v17 :: v18 :: v19 :: v20 :: v21 :: some (.int x) :: t) st σ μ Q := pw_iload_g d rfl k
theorem pw_iload_23 {v0 v1 v2 v3 v4 v5 v6 v7 v8 v9 v10 v11 v12 v13 v14 v15 v16 v17 v18 v19 v20 v21 v22 : Option Value} {t : List (Option Value)} {x : Int32} (d : decode (mB M) pc = .ok (.iload 23, 2)) (k : PW X M b1 b2 (pc + 2) (v0 :: v1 :: v2 :: v3 :: v4 :: v5 :: v6 :: v7 :: v8 :: v9 :: v10 :: v11 :: v12 :: v13 :: v14 :: v15 :: v16 :: v17 :: v18 :: v19 :: v20 :: v21 :: v22 :: some (.int x) :: t) (.int x :: st) σ μ Q) : PW X M b1 b2 pc (v0 :: v1 :: v2 :: v3 :: v4 :: v5 :: v6 :: v7 :: v8 :: v9 :: v10 :: v11 :: v12 :: v13 :: v14 :: v15 :: v16 :: v17 :: v18 :: v19 :: v20 :: v21 :: v22 :: some (.int x) :: t) st σ μ Q := pw_iload_g d rfl k
theorem pw_iload_24 {v0 v1 v2 v3 v4 v5 v6 v7 v8 v9 v10 v11 v12 v13 v14 v15 v16 v17 v18 v19 v20 v21 v22 v23 : Option Value} {t : List (Option Value)} {x : Int32} (d : decode (mB M) pc = .ok (.iload 24, 2)) (k : PW X M b1 b2 (pc + 2) (v0 :: v1 :: v2 :: v3 :: v4 :: v5 :: v6 :: v7 :: v8 :: v9 :: v10 :: v11 :: v12 :: v13 :: v14 :: v15 :: v16 :: v17 :: v18 :: v19 :: v20 :: v21 :: v22 :: v23 :: some (.int x) :: t) (.int x :: st) σ μ Q) : PW X M b1 b2 pc (v0 :: v1 :: v2 :: v3 :: v4 :: v5 :: v6 :: v7 :: v8 :: v9 :: v10 :: v11 :: v12 :: v13 :: v14 :: v15 :: v16 :: v17 :: v18 :: v19 :: v20 :: v21 :: v22 :: v23 :: some (.int x) :: t) st σ μ Q := pw_iload_g d rfl k
theorem pw_iload_25 {v0 v1 v2 v3 v4 v5 v6 v7 v8 v9 v10 v11 v12 v13 v14 v15 v16 v17 v18 v19 v20 v21 v22 v23 v24 : Option Value} {t : List (Option Value)} {x : Int32} (d : decode (mB M) pc = .ok (.iload 25, 2)) (k : PW X M b1 b2 (pc + 2) (v0 :: v1 :: v2 :: v3 :: v4 :: v5 :: v6 :: v7 :: v8 :: v9 :: v10 :: v11 :: v12 :: v13 :: v14 :: v15 :: v16 :: v17 :: v18 :: v19 :: v20 :: v21 :: v22 :: v23 :: v24 :: some (.int x) :: t) (.int x :: st) σ μ Q) : PW X M b1 b2 pc (v0 :: v1 :: v2 :: v3 :: v4 :: v5 :: v6 :: v7 :: v8 :: v9 :: v10 :: v11 :: v12 :: v13 :: v14 :: v15 :: v16 :: v17 :: v18 :: v19 :: v20 :: v21 :: v22 :: v23 :: v24 :: some (.int x) :: t) st σ μ Q := pw_iload_g d rfl k
theorem pw_iload_26 {v0 v1 v2 v3 v4 v5 v6 v7 v8 v9 v10 v11 v12 v13 v14 v15 v16 v17 v18 v19 v20 v21 v22 v23 v24 v25 : Option Value} {t : List (Option Value)} {x : Int32} (d : decode (mB M) pc = .ok (.iload 26, 2)) (k : PW X M b1 b2 (pc + 2) (v0 :: v1 :: v2 :: v3 :: v4 :: v5 :: v6 :: v7 :: v8 :: v9 :: v10 :: v11 :: v12 :: v13 :: v14 :: v15 :: v16 :: v17 :: v18 :: v19 :: v20 :: v21 :: v22 :: v23 :: v24 :: v25 :: some (.int x) :: t) (.int x :: st) σ μ Q) : PW X M b1 b2 pc (v0 :: v1 :: v2 :: v3 :: v4 :: v5 :: v6 :: v7 :: v8 :: v9 :: v10 :: v11 :: v12 :: v13 :: v14 :: v15 :: v16 :: v17 :: v18 :: v19 :: v20 :: v21 :: v22 :: v23 :: v24 :: v25 :: some (.int x) :: t) st σ μ Q := pw_iload_g d rfl k
theorem pw_aload_gn {n : Fin 4} {x : Nat} (d : decode (mB M) pc = .ok (.aload_n n, 1)) (h : ls[(n : Nat)]? = some (some (.ref x))) (k : PW X M b1 b2 (pc + 1) ls (.ref x :: st) σ μ Q) : PW X M b1 b2 pc ls st σ μ Q :=
  fun p e R s m args below meth c H locs cells slots ar Z B S P F L c1 c2 K => lv_aload_n B.1 B.2.1 d rfl (L.2.2 _ _ h) (k p e R s m args below meth c H locs cells slots ar Z B S P F L c1 c2 K)
theorem pw_aload_g {i : Nat} {x : Nat} (d : decode (mB M) pc = .ok (.aload i, 2)) (h : ls[i]? = some (some (.ref x))) (k : PW X M b1 b2 (pc + 2) ls (.ref x :: st) σ μ Q) : PW X M b1 b2 pc ls st σ μ Q :=
  fun p e R s m args below meth c H locs cells slots ar Z B S P F L c1 c2 K => lv_aload B.1 B.2.1 d (L.2.2 _ _ h) (k p e R s m args below meth c H locs cells slots ar Z B S P F L c1 c2 K)
theorem pw_aload_0 {t : List (Option Value)} {x : Nat} (d : decode (mB M) pc = .ok (.aload_n 0, 1)) (k : PW X M b1 b2 (pc + 1) (some (.ref x) :: t) (.ref x :: st) σ μ Q) : PW X M b1 b2 pc (some (.ref x) :: t) st σ μ Q := pw_aload_gn d rfl k
theorem pw_aload_1 {v0 : Option Value} {t : List (Option Value)} {x : Nat} (d : decode (mB M) pc = .ok (.aload_n 1, 1)) (k : PW X M b1 b2 (pc + 1) (v0 :: some (.ref x) :: t) (.ref x :: st) σ μ Q) : PW X M b1 b2 pc (v0 :: some (.ref x) :: t) st σ μ Q := pw_aload_gn d rfl k
theorem pw_aload_2 {v0 v1 : Option Value} {t : List (Option Value)} {x : Nat} (d : decode (mB M) pc = .ok (.aload_n 2, 1)) (k : PW X M b1 b2 (pc + 1) (v0 :: v1 :: some (.ref x) :: t) (.ref x :: st) σ μ Q) : PW X M b1 b2 pc (v0 :: v1 :: some (.ref x) :: t) st σ μ Q := pw_aload_gn d rfl k
theorem pw_aload_3 {v0 v1 v2 : Option Value} {t : List (Option Value)} {x : Nat} (d : decode (mB M) pc = .ok (.aload_n 3, 1)) (k : PW X M b1 b2 (pc + 1) (v0 :: v1 :: v2 :: some (.ref x) :: t) (.ref x :: st) σ μ Q) : PW X M b1 b2 pc (v0 :: v1 :: v2 :: some (.ref x) :: t) st σ μ Q := pw_aload_gn d rfl k
theorem pw_aload_4 {v0 v1 v2 v3 : Option Value} {t : List (Option Value)} {x : Nat} (d : decode (mB M) pc = .ok (.aload 4, 2)) (k : PW X M b1 b2 (pc + 2) (v0 :: v1 :: v2 :: v3 :: some (.ref x) :: t) (.ref x :: st) σ μ Q) : PW X M b1 b2 pc (v0 :: v1 :: v2 :: v3 :: some (.ref x) :: t) st σ μ Q := pw_aload_g d rfl k
theorem pw_aload_5 {v0 v1 v2 v3 v4 : Option Value} {t : List (Option Value)} {x : Nat} (d : decode (mB M) pc = .ok (.aload 5, 2)) (k : PW X M b1 b2 (pc + 2) (v0 :: v1 :: v2 :: v3 :: v4 :: some (.ref x) :: t) (.ref x :: st) σ μ Q) : PW X M b1 b2 pc (v0 :: v1 :: v2 :: v3 :: v4 :: some (.ref x) :: t) st σ μ Q := pw_aload_g d rfl k
theorem pw_aload_6 {v0 v1 v2 v3 v4 v5 : Option Value} {t : List (Option Value)} {x : Nat} (d : decode (mB M) pc = .ok (.aload 6, 2)) (k : PW X M b1 b2 (pc + 2) (v0 :: v1 :: v2 :: v3 :: v4 :: v5 :: some (.ref x) :: t) (.ref x :: st) σ μ Q) : PW X M b1 b2 pc (v0 :: v1 :: v2 :: v3 :: v4 :: v5 :: some (.ref x) :: t) st σ μ Q := pw_aload_g d rfl k
theorem pw_aload_7 {v0 v1 v2 v3 v4 v5 v6 : Option Value} {t : List (Option Value)} {x : Nat} (d : decode (mB M) pc = .ok (.aload 7, 2)) (k : PW X M b1 b2 (pc + 2) (v0 :: v1 :: v2 :: v3 :: v4 :: v5 :: v6 :: some (.ref x) :: t) (.ref x :: st) σ μ Q) : PW X M b1 b2 pc (v0 :: v1 :: v2 :: v3 :: v4 :: v5 :: v6 :: some (.ref x) :: t) st σ μ Q := pw_aload_g d rfl k
theorem pw_aload_8 {v0 v1 v2 v3 v4 v5 v6 v7 : Option Value} {t : List (Option Value)} {x : Nat} (d : decode (mB M) pc = .ok (.aload 8, 2)) (k : PW X M b1 b2 (pc + 2) (v0 :: v1 :: v2 :: v3 :: v4 :: v5 :: v6 :: v7 :: some (.ref x) :: t) (.ref x :: st) σ μ Q) : PW X M b1 b2 pc (v0 :: v1 :: v2 :: v3 :: v4 :: v5 :: v6 :: v7 :: some (.ref x) :: t) st σ μ Q := pw_aload_g d rfl k
theorem pw_aload_9 {v0 v1 v2 v3 v4 v5 v6 v7 v8 : Option Value} {t : List (Option Value)} {x : Nat} (d : decode (mB M) pc = .ok (.aload 9, 2)) (k : PW X M b1 b2 (pc + 2) (v0 :: v1 :: v2 :: v3 :: v4 :: v5 :: v6 :: v7 :: v8 :: some (.ref x) :: t) (.ref x :: st) σ μ Q) : PW X M b1 b2 pc (v0 :: v1 :: v2 :: v3 :: v4 :: v5 :: v6 :: v7 :: v8 :: some (.ref x) :: t) st σ μ Q := pw_aload_g d rfl k
theorem pw_aload_10 {v0 v1 v2 v3 v4 v5 v6 v7 v8 v9 : Option Value} {t : List (Option Value)} {x : Nat} (d : decode (mB M) pc = .ok (.aload 10, 2)) (k : PW X M b1 b2 (pc + 2) (v0 :: v1 :: v2 :: v3 :: v4 :: v5 :: v6 :: v7 :: v8 :: v9 :: some (.ref x) :: t) (.ref x :: st) σ μ Q) : PW X M b1 b2 pc (v0 :: v1 :: v2 :: v3 :: v4 :: v5 :: v6 :: v7 :: v8 :: v9 :: some (.ref x) :: t) st σ μ Q := pw_aload_g d rfl k
theorem pw_aload_11 {v0 v1 v2 v3 v4 v5 v6 v7 v8 v9 v10 : Option Value} {t : List (Option Value)} {x : Nat} (d : decode (mB M) pc = .ok (.aload 11, 2)) (k : PW X M b1 b2 (pc + 2) (v0 :: v1 :: v2 :: v3 :: v4 :: v5 :: v6 :: v7 :: v8 :: v9 :: v10 :: some (.ref x) :: t) (.ref x :: st) σ μ Q) : PW X M b1 b2 pc (v0 :: v1 :: v2 :: v3 :: v4 :: v5 :: v6 :: v7 :: v8 :: v9 :: v10 :: some (.ref x) :: t) st σ μ Q := pw_aload_g d rfl k
theorem pw_aload_12 {v0 v1 v2 v3 v4 v5 v6 v7 v8 v9 v10 v11 : Option Value} {t : List (Option Value)} {x : Nat} (d : decode (mB M) pc = .ok (.aload 12, 2)) (k : PW X M b1 b2 (pc + 2) (v0 :: v1 :: v2 :: v3 :: v4 :: v5 :: v6 :: v7 :: v8 :: v9 :: v10 :: v11 :: some (.ref x) :: t) (.ref x :: st) σ μ Q) : PW X M b1 b2 pc (v0 :: v1 :: v2 :: v3 :: v4 :: v5 :: v6 :: v7 :: v8 :: v9 :: v10 :: v11 :: some (.ref x) :: t) st σ μ Q := pw_aload_g d rfl k
theorem pw_aload_13 {v0 v1 v2 v3 v4 v5 v6 v7 v8 v9 v10 v11 v12 : Option Value} {t : List (Option Value)} {x : Nat} (d : decode (mB M) pc = .ok (.aload 13, 2)) (k : PW X M b1 b2 (pc + 2) (v0 :: v1 :: v2 :: v3 :: v4 :: v5 :: v6 :: v7 :: v8 :: v9 :: v10 :: v11 :: v12 :: some (.ref x) :: t) (.ref x :: st) σ μ Q) : PW X M b1 b2 pc (v0 :: v1 :: v2 :: v3 :: v4 :: v5 :: v6 :: v7 :: v8 :: v9 :: v10 :: v11 :: v12 :: some (.ref x) :: t) st σ μ Q := pw_aload_g d rfl k
theorem pw_aload_14 {v0 v1 v2 v3 v4 v5 v6 v7 v8 v9 v10 v11 v12 v13 : Option Value} {t : List (Option Value)} {x : Nat} (d : decode (mB M) pc = .ok (.aload 14, 2)) (k : PW X M b1 b2 (pc + 2) (v0 :: v1 :: v2 :: v3 :: v4 :: v5 :: v6 :: v7 :: v8 :: v9 :: v10 :: v11 :: v12 :: v13 :: some (.ref x) :: t) (.ref x :: st) σ μ Q) : PW X M b1 b2 pc (v0 :: v1 :: v2 :: v3 :: v4 :: v5 :: v6 :: v7 :: v8 :: v9 :: v10 :: v11 :: v12 :: v13 :: some (.ref x) :: t) st σ μ Q := pw_aload_g d rfl k
theorem pw_aload_15 {v0 v1 v2 v3 v4 v5 v6 v7 v8 v9 v10 v11 v12 v13 v14 : Option Value} {t : List (Option Value)} {x : Nat} (d : decode (mB M) pc = .ok (.aload 15, 2)) (k : PW X M b1 b2 (pc + 2) (v0 :: v1 :: v2 :: v3 :: v4 :: v5 :: v6 :: v7 :: v8 :: v9 :: v10 :: v11 :: v12 :: v13 :: v14 :: some (.ref x) :: t) (.ref x :: st) σ μ Q) : PW X M b1 b2 pc (v0 :: v1 :: v2 :: v3 :: v4 :: v5 :: v6 :: v7 :: v8 :: v9 :: v10 :: v11 :: v12 :: v13 :: v14 :: some (.ref x) :: t) st σ μ Q := pw_aload_g d rfl k
theorem pw_aload_16 {v0 v1 v2 v3 v4 v5 v6 v7 v8 v9 v10 v11 v12 v13 v14 v15 : Option Value} {t : List (Option Value)} {x : Nat} (d : decode (mB M) pc = .ok (.aload 16, 2)) (k : PW X M b1 b2 (pc + 2) (v0 :: v1 :: v2 :: v3 :: v4 :: v5 :: v6 :: v7 :: v8 :: v9 :: v10 :: v11 :: v12 :: v13 :: v14 :: v15 :: some (.ref x) :: t) (.ref x :: st) σ μ Q) : PW X M b1 b2 pc (v0 :: v1 :: v2 :: v3 :: v4 :: v5 :: v6 :: v7 :: v8 :: v9 :: v10 :: v11 :: v12 :: v13 :: v14 :: v15 :: some (.ref x) :: t) st σ μ Q := pw_aload_g d rfl k
theorem pw_aload_17 {v0 v1 v2 v3 v4 v5 v6 v7 v8 v9 v10 v11 v12 v13 v14 v15 v16 : Option Value} {t : List (Option Value)} {x : Nat} (d : decode (mB M) pc = .ok (.aload 17, 2)) (k : PW X M b1 b2 (pc + 2) (v0 :: v1 :: v2 :: v3 :: v4 :: v5 :: v6 :: v7 :: v8 :: v9 :: v10 :: v11 :: v12 :: v13 :: v14 :: v15 :: v16 :: some (.ref x) :: t) (.ref x :: st) σ μ Q) : PW X M b1 b2 pc (v0 :: v1 :: v2 :: v3 :: v4 :: v5 :: v6 :: v7 :: v8 :: v9 :: v10 :: v11 :: v12 :: v13 :: v14 :: v15 :: v16 :: some (.ref x) :: t) st σ μ Q := pw_aload_g d rfl k
theorem pw_aload_18 {v0 v1 v2 v3 v4 v5 v6 v7 v8 v9 v10 v11 v12 v13 v14 v15 v16 v17 : Option Value} {t : List (Option Value)} {x : Nat} (d : decode (mB M) pc = .ok (.aload 18, 2)) (k : PW X M b1 b2 (pc + 2) (v0 :: v1 :: v2 :: v3 :: v4 :: v5 :: v6 :: v7 :: v8 :: v9 :: v10 :: v11 :: v12 :: v13 :: v14 :: v15 :: v16 :: v17 :: some (.ref x) :: t) (.ref x :: st) σ μ Q) : PW X M b1 b2 pc (v0 :: v1 :: v2 :: v3 :: v4 :: v5 :: v6 :: v7 :: v8 :: v9 :: v10 :: v11 :: v12 :: v13 :: v14 :: v15 :: v16 :: v17 :: some (.ref x) :: t) st σ μ Q := pw_aload_g d rfl k
theorem pw_aload_19 {v0 v1 v2 v3 v4 v5 v6 v7 v8 v9 v10 v11 v12 v13 v14 v15 v16 v17 v18 : Option Value} {t : List (Option Value)} {x : Nat} (d : decode (mB M) pc = .ok (.aload 19, 2)) (k : PW X M b1 b2 (pc + 2) (v0 :: v1 :: v2 :: v3 :: v4 :: v5 :: v6 :: v7 :: v8 :: v9 :: v10 :: v11 :: v12 :: v13 :: v14 :: v15 :: v16 :: v17 :: v18 :: some (.ref x) :: t) (.ref x :: st) σ μ Q) : PW X M b1 b2 pc (v0 :: v1 :: v2 :: v3 :: v4 :: v5 :: v6 :: v7 :: v8 :: v9 :: v10 :: v11 :: v12 :: v13 :: v14 :: v15 :: v16 :: v17 :: v18 :: some (.ref x) :: t) st σ μ Q := pw_aload_g d rfl k
theorem pw_aload_20 {v0 v1 v2 v3 v4 v5 v6 v7 v8 v9 v10 v11 v12 v13 v14 v15 v16 v17 v18 v19 : Option Value} {t : List (Option Value)} {x : Nat} (d : decode (mB M) pc = .ok (.aload 20, 2)) (k : PW X M b1 b2 (pc + 2) (v0 :: v1 :: v2 :: v3 :: v4 :: v5 :: v6 :: v7 :: v8 :: v9 :: v10 :: v11 :: v12 :: v13 :: v14 :: v15 :: v16 :: v17 :: v18 :: v19 :: some (.ref x) :: t) (.ref x :: st) σ μ Q) : PW X M b1 b2 pc (v0 :: v1 :: v2 :: v3 :: v4 :: v5 :: v6 :: v7 :: v8 :: v9 :: v10 :: v11 :: v12 :: v13 :: v14 :: v15 :: v16 :: v17 :: v18 :: v19 :: some (.ref x) :: t) st σ μ Q := pw_aload_g d rfl k
theorem pw_aload_21 {v0 v1 v2 v3 v4 v5 v6 v7 v8 v9 v10 v11 v12 v13 v14 v15 v16 v17 v18 v19 v20 : Option Value} {t : List (Option Value)} {x : Nat} (d : decode (mB M) pc = .ok (.aload 21, 2)) (k : PW X M b1 b2 (pc + 2) (v0 :: v1 :: v2 :: v3 :: v4 :: v5 :: v6 :: v7 :: v8 :: v9 :: v10 :: v11 :: v12 :: v13 :: v14 :: v15 :: v16 :: v17 :: v18 :: v19 :: v20 :: some (.ref x) :: t) (.ref x :: st) σ μ Q) : PW X M b1 b2 pc (v0 :: v1 :: v2 :: v3 :: v4 :: v5 :: v6 :: v7 :: v8 :: v9 :: v10 :: v11 :: v12 :: v13 :: v14 :: v15 :: v16 :: v17 :: v18 :: v19 :: v20 :: some (.ref x) :: t) st σ μ Q := pw_aload_g d rfl k
theorem pw_aload_22 {v0 v1 v2 v3 v4 v5 v6 v7 v8 v9 v10 v11 v12 v13 v14 v15 v16 v17 v18 v19 v20 v21 : Option Value} {t : List (Option Value)} {x : Nat} (d : decode (mB M) pc = .ok (.aload 22, 2)) (k : PW X M b1 b2 (pc + 2) (v0 :: v1 :: v2 :: v3 :: v4 :: v5 :: v6 :: v7 :: v8 :: v9 :: v10 :: v11 :: v12 :: v13 :: v14 :: v15 :: v16 :: v17 :: v18 :: v19 :: v20 :: v21 :: some (.ref x) :: t) (.ref x :: st) σ μ Q) : PW X M b1 b2 pc (v0 :: v1 :: v2 :: v3 :: v4 :: v5 :: v6 :: v7 :: v8 :: v9 :: v10 :: v11 :: v12 :: v13 :: v14 :: v15 :: v16 :: v17 :: v18 :: v19 :: v20 :: v21 :: some (.ref x) :: t) st σ μ Q := pw_aload_g d rfl k
theorem pw_aload_23 {v0 v1 v2 v3 v4 v5 v6 v7 v8 v9 v10 v11 v12 v13 v14 v15 v16 v17 v18 v19 v20 v21 v22 : Option Value} {t : List (Option Value)} {x : Nat} (d : decode (mB M) pc = .ok (.aload 23, 2)) (k : PW X M b1 b2 (pc + 2) (v0 :: v1 :: v2 :: v3 :: v4 :: v5 :: v6 :: v7 :: v8 :: v9 :: v10 :: v11 :: v12 :: v13 :: v14 :: v15 :: v16 :: v17 :: v18 :: v19 :: v20 :: v21 :: v22 :: some (.ref x) :: t) (.ref x :: st) σ μ Q) : PW X M b1 b2 pc (v0 :: v1 :: v2 :: v3 :: v4 :: v5 :: v6 :: v7 :: v8 :: v9 :: v10 :: v11 :: v12 :: v13 :: v14 :: v15 :: v16 :: v17 :: v18 :: v19 :: v20 :: v21 :: v22 :: some (.ref x) :: t) st σ μ Q := pw_aload_g d rfl k
theorem pw_aload_24 {v0 v1 v2 v3 v4 v5 v6 v7 v8 v9 v10 v11 v12 v13 v14 v15 v16 v17 v18 v19 v20 v21 v22 v23 : Option Value} {t : List (Option Value)} {x : Nat} (d : decode (mB M) pc = .ok (.aload 24, 2)) (k : PW X M b1 b2 (pc + 2) (v0 :: v1 :: v2 :: v3 :: v4 :: v5 :: v6 :: v7 :: v8 :: v9 :: v10 :: v11 :: v12 :: v13 :: v14 :: v15 :: v16 :: v17 :: v18 :: v19 :: v20 :: v21 :: v22 :: v23 :: some (.ref x) :: t) (.ref x :: st) σ μ Q) : PW X M b1 b2 pc (v0 :: v1 :: v2 :: v3 :: v4 :: v5 :: v6 :: v7 :: v8 :: v9 :: v10 :: v11 :: v12 :: v13 :: v14 :: v15 :: v16 :: v17 :: v18 :: v19 :: v20 :: v21 :: v22 :: v23 :: some (.ref x) :: t) st σ μ Q := pw_aload_g d rfl k
theorem pw_aload_25 {v0 v1 v2 v3 v4 v5 v6 v7 v8 v9 v10 v11 v12 v13 v14 v15 v16 v17 v18 v19 v20 v21 v22 v23 v24 : Option Value} {t : List (Option Value)} {x : Nat} (d : decode (mB M) pc = .ok (.aload 25, 2)) (k : PW X M b1 b2 (pc + 2) (v0 :: v1 :: v2 :: v3 :: v4 :: v5 :: v6 :: v7 :: v8 :: v9 :: v10 :: v11 :: v12 :: v13 :: v14 :: v15 :: v16 :: v17 :: v18 :: v19 :: v20 :: v21 :: v22 :: v23 :: v24 :: some (.ref x) :: t) (.ref x :: st) σ μ Q) : PW X M b1 b2 pc (v0 :: v1 :: v2 :: v3 :: v4 :: v5 :: v6 :: v7 :: v8 :: v9 :: v10 :: v11 :: v12 :: v13 :: v14 :: v15 :: v16 :: v17 :: v18 :: v19 :: v20 :: v21 :: v22 :: v23 :: v24 :: some (.ref x) :: t) st σ μ Q := pw_aload_g d rfl k
theorem pw_aload_26 {v0 v1 v2 v3 v4 v5 v6 v7 v8 v9 v10 v11 v12 v13 v14 v15 v16 v17 v18 v19 v20 v21 v22 v23 v24 v25 : Option Value} {t : List (Option Value)} {x : Nat} (d : decode (mB M) pc = .ok (.aload 26, 2)) (k : PW X M b1 b2 (pc + 2) (v0 :: v1 :: v2 :: v3 :: v4 :: v5 :: v6 :: v7 :: v8 :: v9 :: v10 :: v11 :: v12 :: v13 :: v14 :: v15 :: v16 :: v17 :: v18 :: v19 :: v20 :: v21 :: v22 :: v23 :: v24 :: v25 :: some (.ref x) :: t) (.ref x :: st) σ μ Q) : PW X M b1 b2 pc (v0 :: v1 :: v2 :: v3 :: v4 :: v5 :: v6 :: v7 :: v8 :: v9 :: v10 :: v11 :: v12 :: v13 :: v14 :: v15 :: v16 :: v17 :: v18 :: v19 :: v20 :: v21 :: v22 :: v23 :: v24 :: v25 :: some (.ref x) :: t) st σ μ Q := pw_aload_g d rfl k
def pw_c1 (o : Option Value) : Option Value := match o with
  | some w => if w.category = 2 then none else some w
  | none => none
def pw_al (ls : List (Option Value)) : List (Nat × Value) := ls.zipIdx.filterMap (fun q => q.1.map (fun v => (q.2, v)))
theorem pw_al_mem {ls : List (Option Value)} {i : Nat} {v : Value} : (i, v) ∈ pw_al ls ↔ ls[i]? = some (some v) := by
  unfold pw_al
  rw [List.mem_filterMap]
  constructor
  · rintro ⟨⟨o, j⟩, h1, h2⟩
    have h3 := List.mem_zipIdx_iff_getElem?.mp h1
    cases o with
    | none => cases h2
    | some w =>
      simp only [Option.map_some, Option.some.injEq, Prod.mk.injEq] at h2
      obtain ⟨rfl, rfl⟩ := h2
      exact h3
  · intro h
    exact ⟨(some v, i), List.mem_zipIdx_iff_getElem?.mpr h, rfl⟩
theorem pw_Lal {ar : Array Slot} {n : Nat} (h : pw_L ar n ls) : lv_has ar n (pw_al ls) := ⟨h.1, h.2.1, fun q hq => h.2.2 q.1 q.2 (pw_al_mem.mp hq)⟩
theorem pw_Lset1 {ar : Array Slot} {n i : Nat} {v : Value} {ls' : List (Option Value)} (h : lv_has ar n ((i, v) :: (pw_al ls).filter (fun q => !(q.1 == i) && !(q.1 + 1 == i && q.2.category == 2))))
    (hl : ∀ (j : Nat) (w : Value), ls'[j]? = some (some w) → (j = i ∧ w = v) ∨ (j ≠ i ∧ ls[j]? = some (some w) ∧ (j + 1 = i → w.category ≠ 2))) : pw_L ar n ls' := by
  refine ⟨h.1, h.2.1, fun j w hj => ?_⟩
  rcases hl j w hj with ⟨rfl, rfl⟩ | ⟨h1, h2, h3⟩
  · exact h.2.2 (j, w) List.mem_cons_self
  · refine h.2.2 (j, w) (List.mem_cons_of_mem _ (List.mem_filter.mpr ⟨pw_al_mem.mpr h2, ?_⟩))
    by_cases h4 : j + 1 = i
    · have := h3 h4
      simp [h1, this]
    · simp [h1, h4]
theorem pw_Lset2 {ar : Array Slot} {n i : Nat} {v : Value} {ls' : List (Option Value)} (h : lv_has ar n ((i, v) :: (pw_al ls).filter (fun q => !(q.1 == i) && (!(q.1 == i + 1) && !(q.1 + 1 == i && q.2.category == 2)))))
    (hl : ∀ (j : Nat) (w : Value), ls'[j]? = some (some w) → (j = i ∧ w = v) ∨ (j ≠ i ∧ j ≠ i + 1 ∧ ls[j]? = some (some w) ∧ (j + 1 = i → w.category ≠ 2))) : pw_L ar n ls' := by
  refine ⟨h.1, h.2.1, fun j w hj => ?_⟩
  rcases hl j w hj with ⟨rfl, rfl⟩ | ⟨h1, h1', h2, h3⟩
  · exact h.2.2 (j, w) List.mem_cons_self
  · refine h.2.2 (j, w) (List.mem_cons_of_mem _ (List.mem_filter.mpr ⟨pw_al_mem.mpr h2, ?_⟩))
    by_cases h4 : j + 1 = i
    · have := h3 h4
      simp [h1, h1', this]
    · simp [h1, h1', h4]
theorem pw_c1_2 {o : Option Value} {w : Value} (h : pw_c1 o = o) (hw : o = some w) : w.category ≠ 2 := by
  subst hw
  intro h2
  simp [pw_c1, h2] at h
theorem pw_istore_gn {n : Fin 4} {x : Int32} {ls' : List (Option Value)} (d : decode (mB M) pc = .ok (.istore_n n, 1)) (hn : (n : Nat) < mL M) (hl : ∀ (j : Nat) (w : Value), ls'[j]? = some (some w) → (j = (n : Nat) ∧ w = .int x) ∨ (j ≠ (n : Nat) ∧ ls[j]? = some (some w) ∧ (j + 1 = (n : Nat) → w.category ≠ 2))) (k : PW X M b1 b2 (pc + 1) ls' st σ μ Q) : PW X M b1 b2 pc ls (.int x :: st) σ μ Q :=
  fun p e R s m args below meth c H locs cells slots ar Z B S P F L c1 c2 K => lv_istore_n B.1 B.2.1 d rfl (pw_Lal L) hn rfl (fun ar' h => k p e R s m args below meth c H locs cells slots ar' Z B S P F (pw_Lset1 h hl) c1 c2 K)
theorem pw_istore_g {n : Nat} {x : Int32} {ls' : List (Option Value)} (d : decode (mB M) pc = .ok (.istore n, 2)) (hn : n < mL M) (hl : ∀ (j : Nat) (w : Value), ls'[j]? = some (some w) → (j = n ∧ w = .int x) ∨ (j ≠ n ∧ ls[j]? = some (some w) ∧ (j + 1 = n → w.category ≠ 2))) (k : PW X M b1 b2 (pc + 2) ls' st σ μ Q) : PW X M b1 b2 pc ls (.int x :: st) σ μ Q :=
  fun p e R s m args below meth c H locs cells slots ar Z B S P F L c1 c2 K => lv_istore B.1 B.2.1 d (pw_Lal L) hn rfl (fun ar' h => k p e R s m args below meth c H locs cells slots ar' Z B S P F (pw_Lset1 h hl) c1 c2 K)
theorem pw_istore_0 {o : Option Value} {t : List (Option Value)} {x : Int32} (d : decode (mB M) pc = .ok (.istore_n 0, 1)) (hn : 0 < mL M) (k : PW X M b1 b2 (pc + 1) (some (.int x) :: t) st σ μ Q) : PW X M b1 b2 pc (o :: t) (.int x :: st) σ μ Q := by
  refine pw_istore_gn (ls' := some (.int x) :: t) d hn ?_ k
  intro j w hj
  match j, hj with
  | 0, hj => exact Or.inl ⟨rfl, (Option.some.inj (Option.some.inj hj)).symm⟩
  | j + 1, hj => exact Or.inr ⟨by omega, hj, by omega⟩
theorem pw_istore_1 {v0 : Option Value} {o : Option Value} {t : List (Option Value)} {x : Int32} (d : decode (mB M) pc = .ok (.istore_n 1, 1)) (hn : 1 < mL M) (k : PW X M b1 b2 (pc + 1) (v0 :: some (.int x) :: t) st σ μ Q) (h1 : pw_c1 v0 = v0 := by rfl) : PW X M b1 b2 pc (v0 :: o :: t) (.int x :: st) σ μ Q := by
  refine pw_istore_gn (ls' := v0 :: some (.int x) :: t) d hn ?_ k
  intro j w hj
  match j, hj with
  | 0, hj => exact Or.inr ⟨by omega, hj, fun _ => pw_c1_2 h1 (Option.some.inj hj)⟩
  | 1, hj => exact Or.inl ⟨rfl, (Option.some.inj (Option.some.inj hj)).symm⟩
  | j + 2, hj => exact Or.inr ⟨by omega, hj, by omega⟩
theorem pw_istore_2 {v0 v1 : Option Value} {o : Option Value} {t : List (Option Value)} {x : Int32} (d : decode (mB M) pc = .ok (.istore_n 2, 1)) (hn : 2 < mL M) (k : PW X M b1 b2 (pc + 1) (v0 :: v1 :: some (.int x) :: t) st σ μ Q) (h1 : pw_c1 v1 = v1 := by rfl) : PW X M b1 b2 pc (v0 :: v1 :: o :: t) (.int x :: st) σ μ Q := by
  refine pw_istore_gn (ls' := v0 :: v1 :: some (.int x) :: t) d hn ?_ k
  intro j w hj
  match j, hj with
  | 0, hj => exact Or.inr ⟨by omega, hj, by omega⟩
  | 1, hj => exact Or.inr ⟨by omega, hj, fun _ => pw_c1_2 h1 (Option.some.inj hj)⟩
  | 2, hj => exact Or.inl ⟨rfl, (Option.some.inj (Option.some.inj hj)).symm⟩
  | j + 3, hj => exact Or.inr ⟨by omega, hj, by omega⟩
theorem pw_istore_3 {v0 v1 v2 : Option Value} {o : Option Value} {t : List (Option Value)} {x : Int32} (d : decode (mB M) pc = .ok (.istore_n 3, 1)) (hn : 3 < mL M) (k : PW X M b1 b2 (pc + 1) (v0 :: v1 :: v2 :: some (.int x) :: t) st σ μ Q) (h1 : pw_c1 v2 = v2 := by rfl) : PW X M b1 b2 pc (v0 :: v1 :: v2 :: o :: t) (.int x :: st) σ μ Q := by
  refine pw_istore_gn (ls' := v0 :: v1 :: v2 :: some (.int x) :: t) d hn ?_ k
  intro j w hj
  match j, hj with
  | 0, hj => exact Or.inr ⟨by omega, hj, by omega⟩
  | 1, hj => exact Or.inr ⟨by omega, hj, by omega⟩
  | 2, hj => exact Or.inr ⟨by omega, hj, fun _ => pw_c1_2 h1 (Option.some.inj hj)⟩
  | 3, hj => exact Or.inl ⟨rfl, (Option.some.inj (Option.some.inj hj)).symm⟩
  | j + 4, hj => exact Or.inr ⟨by omega, hj, by omega⟩
theorem pw_istore_4 {v0 v1 v2 v3 : Option Value} {o : Option Value} {t : List (Option Value)} {x : Int32} (d : decode (mB M) pc = .ok (.istore 4, 2)) (hn : 4 < mL M) (k : PW X M b1 b2 (pc + 2) (v0 :: v1 :: v2 :: v3 :: some (.int x) :: t) st σ μ Q) (h1 : pw_c1 v3 = v3 := by rfl) : PW X M b1 b2 pc (v0 :: v1 :: v2 :: v3 :: o :: t) (.int x :: st) σ μ Q := by
  refine pw_istore_g (ls' := v0 :: v1 :: v2 :: v3 :: some (.int x) :: t) d hn ?_ k
  intro j w hj
  match j, hj with
  | 0, hj => exact Or.inr ⟨by omega, hj, by omega⟩
  | 1, hj => exact Or.inr ⟨by omega, hj, by omega⟩
  | 2, hj => exact Or.inr ⟨by omega, hj, by omega⟩
  | 3, hj => exact Or.inr ⟨by omega, hj, fun _ => pw_c1_2 h1 (Option.some.inj hj)⟩
  | 4, hj => exact Or.inl ⟨rfl, (Option.some.inj (Option.some.inj hj)).symm⟩
  | j + 5, hj => exact Or.inr ⟨by omega, hj, by omega⟩
theorem pw_istore_5 {v0 v1 v2 v3 v4 : Option Value} {o : Option Value} {t : List (Option Value)} {x : Int32} (d : decode (mB M) pc = .ok (.istore 5, 2)) (hn : 5 < mL M) (k : PW X M b1 b2 (pc + 2) (v0 :: v1 :: v2 :: v3 :: v4 :: some (.int x) :: t) st σ μ Q) (h1 : pw_c1 v4 = v4 := by rfl) : PW X M b1 b2 pc (v0 :: v1 :: v2 :: v3 :: v4 :: o :: t) (.int x :: st) σ μ Q := by
  refine pw_istore_g (ls' := v0 :: v1 :: v2 :: v3 :: v4 :: some (.int x) :: t) d hn ?_ k
  intro j w hj
  match j, hj with
  | 0, hj => exact Or.inr ⟨by omega, hj, by omega⟩
  | 1, hj => exact Or.inr ⟨by omega, hj, by omega⟩
  | 2, hj => exact Or.inr ⟨by omega, hj, by omega⟩
  | 3, hj => exact Or.inr ⟨by omega, hj, by omega⟩
  | 4, hj => exact Or.inr ⟨by omega, hj, fun _ => pw_c1_2 h1 (Option.some.inj hj)⟩
  | 5, hj => exact Or.inl ⟨rfl, (Option.some.inj (Option.some.inj hj)).symm⟩
  | j + 6, hj => exact Or.inr ⟨by omega, hj, by omega⟩
theorem pw_istore_6 {v0 v1 v2 v3 v4 v5 : Option Value} {o : Option Value} {t : List (Option Value)} {x : Int32} (d : decode (mB M) pc = .ok (.istore 6, 2)) (hn : 6 < mL M) (k : PW X M b1 b2 (pc + 2) (v0 :: v1 :: v2 :: v3 :: v4 :: v5 :: some (.int x) :: t) st σ μ Q) (h1 : pw_c1 v5 = v5 := by rfl) : PW X M b1 b2 pc (v0 :: v1 :: v2 :: v3 :: v4 :: v5 :: o :: t) (.int x :: st) σ μ Q := by
  refine pw_istore_g (ls' := v0 :: v1 :: v2 :: v3 :: v4 :: v5 :: some (.int x) :: t) d hn ?_ k
  intro j w hj
  match j, hj with
  | 0, hj => exact Or.inr ⟨by omega, hj, by omega⟩
  | 1, hj => exact Or.inr ⟨by omega, hj, by omega⟩
  | 2, hj => exact Or.inr ⟨by omega, hj, by omega⟩
  | 3, hj => exact Or.inr ⟨by omega, hj, by omega⟩
  | 4, hj => exact Or.inr ⟨by omega, hj, by omega⟩
  | 5, hj => exact Or.inr ⟨by omega, hj, fun _ => pw_c1_2 h1 (Option.some.inj hj)⟩
  | 6, hj => exact Or.inl ⟨rfl, (Option.some.inj (Option.some.inj hj)).symm⟩
  | j + 7, hj => exact Or.inr ⟨by omega, hj, by omega⟩
theorem pw_istore_7 {v0 v1 v2 v3 v4 v5 v6 : Option Value} {o : Option Value} {t : List (Option Value)} {x : Int32} (d : decode (mB M) pc = .ok (.istore 7, 2)) (hn : 7 < mL M) (k : PW X M b1 b2 (pc + 2) (v0 :: v1 :: v2 :: v3 :: v4 :: v5 :: v6 :: some (.int x) :: t) st σ μ Q) (h1 : pw_c1 v6 = v6 := by rfl) : PW X M b1 b2 pc (v0 :: v1 :: v2 :: v3 :: v4 :: v5 :: v6 :: o :: t) (.int x :: st) σ μ Q := by
  refine pw_istore_g (ls' := v0 :: v1 :: v2 :: v3 :: v4 :: v5 :: v6 :: some (.int x) :: t) d hn ?_ k
  intro j w hj
  match j, hj with
  | 0, hj => exact Or.inr ⟨by omega, hj, by omega⟩
  | 1, hj => exact Or.inr ⟨by omega, hj, by omega⟩
  | 2, hj => exact Or.inr ⟨by omega, hj, by omega⟩
  | 3, hj => exact Or.inr ⟨by omega, hj, by omega⟩
  | 4, hj => exact Or.inr ⟨by omega, hj, by omega⟩
  | 5, hj => exact Or.inr ⟨by omega, hj, by omega⟩
  | 6, hj => exact Or.inr ⟨by omega, hj, fun _ => pw_c1_2 h1 (Option.some.inj hj)⟩
  | 7, hj => exact Or.inl ⟨rfl, (Option.some.inj (Option.some.inj hj)).symm⟩
  | j + 8, hj => exact Or.inr ⟨by omega, hj, by omega⟩
theorem pw_istore_8 {v0 v1 v2 v3 v4 v5 v6 v7 : Option Value} {o : Option Value} {t : List (Option Value)} {x : Int32} (d : decode (mB M) pc = .ok (.istore 8, 2)) (hn : 8 < mL M) (k : PW X M b1 b2 (pc + 2) (v0 :: v1 :: v2 :: v3 :: v4 :: v5 :: v6 :: v7 :: some (.int x) :: t) st σ μ Q) (h1 : pw_c1 v7 = v7 := by rfl) : PW X M b1 b2 pc (v0 :: v1 :: v2 :: v3 :: v4 :: v5 :: v6 :: v7 :: o :: t) (.int x :: st) σ μ Q := by
  refine pw_istore_g (ls' := v0 :: v1 :: v2 :: v3 :: v4 :: v5 :: v6 :: v7 :: some (.int x) :: t) d hn ?_ k
  intro j w hj
  match j, hj with
  | 0, hj => exact Or.inr ⟨by omega, hj, by omega⟩
  | 1, hj => exact Or.inr ⟨by omega, hj, by omega⟩
  | 2, hj => exact Or.inr ⟨by omega, hj, by omega⟩
  | 3, hj => exact Or.inr ⟨by omega, hj, by omega⟩
  | 4, hj => exact Or.inr ⟨by omega, hj, by omega⟩
  | 5, hj => exact Or.inr ⟨by omega, hj, by omega⟩
  | 6, hj => exact Or.inr ⟨by omega, hj, by omega⟩
  | 7, hj => exact Or.inr ⟨by omega, hj, fun _ => pw_c1_2 h1 (Option.some.inj hj)⟩
  | 8, hj => exact Or.inl ⟨rfl, (Option.some.inj (Option.some.inj hj)).symm⟩
  | j + 9, hj => exact Or.inr ⟨by omega, hj, by omega⟩
theorem pw_istore_9 {v0 v1 v2 v3 v4 v5 v6 v7 v8 : Option Value} {o : Option Value} {t : List (Option Value)} {x : Int32} (d : decode (mB M) pc = .ok (.istore 9, 2)) (hn : 9 < mL M) (k : PW X M b1 b2 (pc + 2) (v0 :: v1 :: v2 :: v3 :: v4 :: v5 :: v6 :: v7 :: v8 :: some (.int x) :: t) st σ μ Q) (h1 : pw_c1 v8 = v8 := by rfl) : PW X M b1 b2 pc (v0 :: v1 :: v2 :: v3 :: v4 :: v5 :: v6 :: v7 :: v8 :: o :: t) (.int x :: st) σ μ Q := by
  refine pw_istore_g (ls' := v0 :: v1 :: v2 :: v3 :: v4 :: v5 :: v6 :: v7 :: v8 :: some (.int x) :: t) d hn ?_ k
  intro j w hj
  match j, hj with
  | 0, hj => exact Or.inr ⟨by omega, hj, by omega⟩
  | 1, hj => exact Or.inr ⟨by omega, hj, by omega⟩
  | 2, hj => exact Or.inr ⟨by omega, hj, by omega⟩
  | 3, hj => exact Or.inr ⟨by omega, hj, by omega⟩
  | 4, hj => exact Or.inr ⟨by omega, hj, by omega⟩
  | 5, hj => exact Or.inr ⟨by omega, hj, by omega⟩
  | 6, hj => exact Or.inr ⟨by omega, hj, by omega⟩
  | 7, hj => exact Or.inr ⟨by omega, hj, by omega⟩
  | 8, hj => exact Or.inr ⟨by omega, hj, fun _ => pw_c1_2 h1 (Option.some.inj hj)⟩
  | 9, hj => exact Or.inl ⟨rfl, (Option.some.inj (Option.some.inj hj)).symm⟩
  | j + 10, hj => exact Or.inr ⟨by omega, hj, by omega⟩
theorem pw_istore_10 {v0 v1 v2 v3 v4 v5 v6 v7 v8 v9 : Option Value} {o : Option Value} {t : List (Option Value)} {x : Int32} (d : decode (mB M) pc = .ok (.istore 10, 2)) (hn : 10 < mL M) (k : PW X M b1 b2 (pc + 2) (v0 :: v1 :: v2 :: v3 :: v4 :: v5 :: v6 :: v7 :: v8 :: v9 :: some (.int x) :: t) st σ μ Q) (h1 : pw_c1 v9 = v9 := by rfl) : PW X M b1 b2 pc (v0 :: v1 :: v2 :: v3 :: v4 :: v5 :: v6 :: v7 :: v8 :: v9 :: o :: t) (.int x :: st) σ μ Q := by
  refine pw_istore_g (ls' := v0 :: v1 :: v2 :: v3 :: v4 :: v5 :: v6 :: v7 :: v8 :: v9 :: some (.int x) :: t) d hn ?_ k
  intro j w hj
  match j, hj with
  | 0, hj => exact Or.inr ⟨by omega, hj, by omega⟩
  | 1, hj => exact Or.inr ⟨by omega, hj, by omega⟩
  | 2, hj => exact Or.inr ⟨by omega, hj, by omega⟩
  | 3, hj => exact Or.inr ⟨by omega, hj, by omega⟩
  | 4, hj => exact Or.inr ⟨by omega, hj, by omega⟩
  | 5, hj => exact Or.inr ⟨by omega, hj, by omega⟩
  | 6, hj => exact Or.inr ⟨by omega, hj, by omega⟩
  | 7, hj => exact Or.inr ⟨by omega, hj, by omega⟩
  | 8, hj => exact Or.inr ⟨by omega, hj, by omega⟩
  | 9, hj => exact Or.inr ⟨by omega, hj, fun _ => pw_c1_2 h1 (Option.some.inj hj)⟩
  | 10, hj => exact Or.inl ⟨rfl, (Option.some.inj (Option.some.inj hj)).symm⟩
  | j + 11, hj => exact Or.inr ⟨by omega, hj, by omega⟩
theorem pw_istore_11 {v0 v1 v2 v3 v4 v5 v6 v7 v8 v9 v10 : Option Value} {o : Option Value} {t : List (Option Value)} {x : Int32} (d : decode (mB M) pc = .ok (.istore 11, 2)) (hn : 11 < mL M) (k : PW X M b1 b2 (pc + 2) (v0 :: v1 :: v2 :: v3 :: v4 :: v5 :: v6 :: v7 :: v8 :: v9 :: v10 :: some (.int x) :: t) st σ μ Q) (h1 : pw_c1 v10 = v10 := by rfl) : PW X M b1 b2 pc (v0 :: v1 :: v2 :: v3 :: v4 :: v5 :: v6 :: v7 :: v8 :: v9 :: v10 :: o :: t) (.int x :: st) σ μ Q := by
  refine pw_istore_g (ls' := v0 :: v1 :: v2 :: v3 :: v4 :: v5 :: v6 :: v7 :: v8 :: v9 :: v10 :: some (.int x) :: t) d hn ?_ k
  intro j w hj
  match j, hj with
  | 0, hj => exact Or.inr ⟨by omega, hj, by omega⟩
  | 1, hj => exact Or.inr ⟨by omega, hj, by omega⟩
  | 2, hj => exact Or.inr ⟨by omega, hj, by omega⟩
  | 3, hj => exact Or.inr ⟨by omega, hj, by omega⟩
  | 4, hj => exact Or.inr ⟨by omega, hj, by omega⟩
  | 5, hj => exact Or.inr ⟨by omega, hj, by omega⟩
  | 6, hj => exact Or.inr ⟨by omega, hj, by omega⟩
  | 7, hj => exact Or.inr ⟨by omega, hj, by omega⟩
  | 8, hj => exact Or.inr ⟨by omega, hj, by omega⟩
  | 9, hj => exact Or.inr ⟨by omega, hj, by omega⟩
  | 10, hj => exact Or.inr ⟨by omega, hj, fun _ => pw_c1_2 h1 (Option.some.inj hj)⟩
  | 11, hj => exact Or.inl ⟨rfl, (Option.some.inj (Option.some.inj hj)).symm⟩
  | j + 12, hj => exact Or.inr ⟨by omega, hj, by omega⟩
theorem pw_istore_12 {v0 v1 v2 v3 v4 v5 v6 v7 v8 v9 v10 v11 : Option Value} {o : Option Value} {t : List (Option Value)} {x : Int32} (d : decode (mB M) pc = .ok (.istore 12, 2)) (hn : 12 < mL M) (k : PW X M b1 b2 (pc + 2) (v0 :: v1 :: v2 :: v3 :: v4 :: v5 :: v6 :: v7 :: v8 :: v9 :: v10 :: v11 :: some (.int x) :: t) st σ μ Q) (h1 : pw_c1 v11 = v11 := by rfl) : PW X M b1 b2 pc (v0 :: v1 :: v2 :: v3 :: v4 :: v5 :: v6 :: v7 :: v8 :: v9 :: v10 :: v11 :: o :: t) (.int x :: st) σ μ Q := by
  refine pw_istore_g (ls' := v0 :: v1 :: v2 :: v3 :: v4 :: v5 :: v6 :: v7 :: v8 :: v9 :: v10 :: v11 :: some (.int x) :: t) d hn ?_ k
  intro j w hj
  match j, hj with
  | 0, hj => exact Or.inr ⟨by omega, hj, by omega⟩
  | 1, hj => exact Or.inr ⟨by omega, hj, by omega⟩
  | 2, hj => exact Or.inr ⟨by omega, hj, by omega⟩
  | 3, hj => exact Or.inr ⟨by omega, hj, by omega⟩
  | 4, hj => exact Or.inr ⟨by omega, hj, by omega⟩
  | 5, hj => exact Or.inr ⟨by omega, hj, by omega⟩
  | 6, hj => exact Or.inr ⟨by omega, hj, by omega⟩
  | 7, hj => exact Or.inr ⟨by omega, hj, by omega⟩
  | 8, hj => exact Or.inr ⟨by omega, hj, by omega⟩
  | 9, hj => exact Or.inr ⟨by omega, hj, by omega⟩
  | 10, hj => exact Or.inr ⟨by omega, hj, by omega⟩
  | 11, hj => exact Or.inr ⟨by omega, hj, fun _ => pw_c1_2 h1 (Option.some.inj hj)⟩
  | 12, hj => exact Or.inl ⟨rfl, (Option.some.inj (Option.some.inj hj)).symm⟩
  | j + 13, hj => exact Or.inr ⟨by omega, hj, by omega⟩
theorem pw_istore_13 {v0 v1 v2 v3 v4 v5 v6 v7 v8 v9 v10 v11 v12 : Option Value} {o : Option Value} {t : List (Option Value)} {x : Int32} (d : decode (mB M) pc = .ok (.istore 13, 2)) (hn : 13 < mL M) (k : PW X M b1 b2 (pc + 2) (v0 :: v1 :: v2 :: v3 :: v4 :: v5 :: v6 :: v7 :: v8 :: v9 :: v10 :: v11 :: v12 :: some (.int x) :: t) st σ μ Q) (h1 : pw_c1 v12 = v12 := by rfl) : PW X M b1 b2 pc (v0 :: v1 :: v2 :: v3 :: v4 :: v5 :: v6 :: v7 :: v8 :: v9 :: v10 :: v11 :: v12 :: o :: t) (.int x :: st) σ μ Q := by
  refine pw_istore_g (ls' := v0 :: v1 :: v2 :: v3 :: v4 :: v5 :: v6 :: v7 :: v8 :: v9 :: v10 :: v11 :: v12 :: some (.int x) :: t) d hn ?_ k
  intro j w hj
  match j, hj with
  | 0, hj => exact Or.inr ⟨by omega, hj, by omega⟩
  | 1, hj => exact Or.inr ⟨by omega, hj, by omega⟩
  | 2, hj => exact Or.inr ⟨by omega, hj, by omega⟩
  | 3, hj => exact Or.inr ⟨by omega, hj, by omega⟩
  | 4, hj => exact Or.inr ⟨by omega, hj, by omega⟩
  | 5, hj => exact Or.inr ⟨by omega, hj, by omega⟩
  | 6, hj => exact Or.inr ⟨by omega, hj, by omega⟩
  | 7, hj => exact Or.inr ⟨by omega, hj, by omega⟩
  | 8, hj => exact Or.inr ⟨by omega, hj, by omega⟩
  | 9, hj => exact Or.inr ⟨by omega, hj, by omega⟩
  | 10, hj => exact Or.inr ⟨by omega, hj, by omega⟩
  | 11, hj => exact Or.inr ⟨by omega, hj, by omega⟩
  | 12, hj => exact Or.inr ⟨by omega, hj, fun _ => pw_c1_2 h1 (Option.some.inj hj)⟩
  | 13, hj => exact Or.inl ⟨rfl, (Option.some.inj (Option.some.inj hj)).symm⟩
  | j + 14, hj => exact Or.inr ⟨by omega, hj, by omega⟩
theorem pw_istore_14 {v0 v1 v2 v3 v4 v5 v6 v7 v8 v9 v10 v11 v12 v13 : Option Value} {o : Option Value} {t : List (Option Value)} {x : Int32} (d : decode (mB M) pc = .ok (.istore 14, 2)) (hn : 14 < mL M) (k : PW X M b1 b2 (pc + 2) (v0 :: v1 :: v2 :: v3 :: v4 :: v5 :: v6 :: v7 :: v8 :: v9 :: v10 :: v11 :: v12 :: v13 :: some (.int x) :: t) st σ μ Q) (h1 : pw_c1 v13 = v13 := by rfl) : PW X M b1 b2 pc (v0 :: v1 :: v2 :: v3 :: v4 :: v5 :: v6 :: v7 :: v8 :: v9 :: v10 :: v11 :: v12 :: v13 :: o :: t) (.int x :: st) σ μ Q := by
  refine pw_istore_g (ls' := v0 :: v1 :: v2 :: v3 :: v4 :: v5 :: v6 :: v7 :: v8 :: v9 :: v10 :: v11 :: v12 :: v13 :: some (.int x) :: t) d hn ?_ k
  intro j w hj
  match j, hj with
  | 0, hj => exact Or.inr ⟨by omega, hj, by omega⟩
  | 1, hj => exact Or.inr ⟨by omega, hj, by omega⟩
  | 2, hj => exact Or.inr ⟨by omega, hj, by omega⟩
  | 3, hj => exact Or.inr ⟨by omega, hj, by omega⟩
  | 4, hj => exact Or.inr ⟨by omega, hj, by omega⟩
  | 5, hj => exact Or.inr ⟨by omega, hj, by omega⟩
  | 6, hj => exact Or.inr ⟨by omega, hj, by omega⟩
  | 7, hj => exact Or.inr ⟨by omega, hj, by omega⟩
  | 8, hj => exact Or.inr ⟨by omega, hj, by omega⟩
  | 9, hj => exact Or.inr ⟨by omega, hj, by omega⟩
  | 10, hj => exact Or.inr ⟨by omega, hj, by omega⟩
  | 11, hj => exact Or.inr ⟨by omega, hj, by omega⟩
  | 12, hj => exact Or.inr ⟨by omega, hj, by omega⟩
  | 13, hj => exact Or.inr ⟨by omega, hj, fun _ => pw_c1_2 h1 (Option.some.inj hj)⟩
  | 14, hj => exact Or.inl ⟨rfl, (Option.some.inj (Option.some.inj hj)).symm⟩
  | j + 15, hj => exact Or.inr ⟨by omega, hj, by omega⟩
theorem pw_istore_15 {v0 v1 v2 v3 v4 v5 v6 v7 v8 v9 v10 v11 v12 v13 v14 : Option Value} {o : Option Value} {t : List (Option Value)} {x : Int32} (d : decode (mB M) pc = .ok (.istore 15, 2)) (hn : 15 < mL M) (k : PW X M b1 b2 (pc + 2) (v0 :: v1 :: v2 :: v3 :: v4 :: v5 :: v6 :: v7 :: v8 :: v9 :: v10 :: v11 :: v12 :: v13 :: v14 :: some (.int x) :: t) st σ μ Q) (h1 : pw_c1 v14 = v14 := by rfl) : PW X M b1 b2 pc (v0 :: v1 :: v2 :: v3 :: v4 :: v5 :: v6 :: v7 :: v8 :: v9 :: v10 :: v11 :: v12 :: v13 :: v14 :: o :: t) (.int x :: st) σ μ Q := by
  refine pw_istore_g (ls' := v0 :: v1 :: v2 :: v3 :: v4 :: v5 :: v6 :: v7 :: v8 :: v9 :: v10 :: v11 :: v12 :: v13 :: v14 :: some (.int x) :: t) d hn ?_ k
  intro j w hj
  match j, hj with
  | 0, hj => exact Or.inr ⟨by omega, hj, by omega⟩
  | 1, hj => exact Or.inr ⟨by omega, hj, by omega⟩
  | 2, hj => exact Or.inr ⟨by omega, hj, by omega⟩
  | 3, hj => exact Or.inr ⟨by omega, hj, by omega⟩
  | 4, hj => exact Or.inr ⟨by omega, hj, by omega⟩
  | 5, hj => exact Or.inr ⟨by omega, hj, by omega⟩
  | 6, hj => exact Or.inr ⟨by omega, hj, by omega⟩
  | 7, hj => exact Or.inr ⟨by omega, hj, by omega⟩
  | 8, hj => exact Or.inr ⟨by omega, hj, by omega⟩
  | 9, hj => exact Or.inr ⟨by omega, hj, by omega⟩
  | 10, hj => exact Or.inr ⟨by omega, hj, by omega⟩
  | 11, hj => exact Or.inr ⟨by omega, hj, by omega⟩
  | 12, hj => exact Or.inr ⟨by omega, hj, by omega⟩
  | 13, hj => exact Or.inr ⟨by omega, hj, by omega⟩
  | 14, hj => exact Or.inr ⟨by omega, hj, fun _ => pw_c1_2 h1 (Option.some.inj hj)⟩
  | 15, hj => exact Or.inl ⟨rfl, (Option.some.inj (Option.some.inj hj)).symm⟩
  | j + 16, hj => exact Or.inr ⟨by omega, hj, by omega⟩
theorem pw_istore_16 {v0 v1 v2 v3 v4 v5 v6 v7 v8 v9 v10 v11 v12 v13 v14 v15 : Option Value} {o : Option Value} {t : List (Option Value)} {x : Int32} (d : decode (mB M) pc = .ok (.istore 16, 2)) (hn : 16 < mL M) (k : PW X M b1 b2 (pc + 2) (v0 :: v1 :: v2 :: v3 :: v4 :: v5 :: v6 :: v7 :: v8 :: v9 :: v10 :: v11 :: v12 :: v13 :: v14 :: v15 :: some (.int x) :: t) st σ μ Q) (h1 : pw_c1 v15 = v15 := by rfl) : PW X M b1 b2 pc (v0 :: v1 :: v2 :: v3 :: v4 :: v5 :: v6 :: v7 :: v8 :: v9 :: v10 :: v11 :: v12 :: v13 :: v14 :: v15 :: o :: t) (.int x :: st) σ μ Q := by
  refine pw_istore_g (ls' := v0 :: v1 :: v2 :: v3 :: v4 :: v5 :: v6 :: v7 :: v8 :: v9 :: v10 :: v11 :: v12 :: v13 :: v14 :: v15 :: some (.int x) :: t) d hn ?_ k
  intro j w hj
  match j, hj with
  | 0, hj => exact Or.inr ⟨by omega, hj, by omega⟩
  | 1, hj => exact Or.inr ⟨by omega, hj, by omega⟩
  | 2, hj => exact Or.inr ⟨by omega, hj, by omega⟩
  | 3, hj => exact Or.inr ⟨by omega, hj, by omega⟩
  | 4, hj => exact Or.inr ⟨by omega, hj, by omega⟩
  | 5, hj => exact Or.inr ⟨by omega, hj, by omega⟩
  | 6, hj => exact Or.inr ⟨by omega, hj, by omega⟩
  | 7, hj => exact Or.inr ⟨by omega, hj, by omega⟩
  | 8, hj => exact Or.inr ⟨by omega, hj, by omega⟩
  | 9, hj => exact Or.inr ⟨by omega, hj, by omega⟩
  | 10, hj => exact Or.inr ⟨by omega, hj, by omega⟩
  | 11, hj => exact Or.inr ⟨by omega, hj, by omega⟩
  | 12, hj => exact Or.inr ⟨by omega, hj, by omega⟩
  | 13, hj => exact Or.inr ⟨by omega, hj, by omega⟩
  | 14, hj => exact Or.inr ⟨by omega, hj, by omega⟩
  | 15, hj => exact Or.inr ⟨by omega, hj, fun _ => pw_c1_2 h1 (Option.some.inj hj)⟩
  | 16, hj => exact Or.inl ⟨rfl, (Option.some.inj (Option.some.inj hj)).symm⟩
  | j + 17, hj => exact Or.inr ⟨by omega, hj, by omega⟩
theorem pw_istore_17 {v0 v1 v2 v3 v4 v5 v6 v7 v8 v9 v10 v11 v12 v13 v14 v15 v16 : Option Value} {o : Option Value} {t : List (Option Value)} {x : Int32} (d : decode (mB M) pc = .ok (.istore 17, 2)) (hn : 17 < mL M) (k : PW X M b1 b2 (pc + 2) (v0 :: v1 :: v2 :: v3 :: v4 :: v5 :: v6 :: v7 :: v8 :: v9 :: v10 :: v11 :: v12 :: v13 :: v14 :: v15 :: v16 :: some (.int x) :: t) st σ μ Q) (h1 : pw_c1 v16 = v16 := by rfl) : PW X M b1 b2 pc (v0 :: v1 :: v2 :: v3 :: v4 :: v5 :: v6 :: v7 :: v8 :: v9 :: v10 :: v11 :: v12 :: v13 :: v14 :: v15 :: v16 :: o :: t) (.int x :: st) σ μ Q := by
  refine pw_istore_g (ls' := v0 :: v1 :: v2 :: v3 :: v4 :: v5 :: v6 :: v7 :: v8 :: v9 :: v10 :: v11 :: v12 :: v13 :: v14 :: v15 :: v16 :: some (.int x) :: t) d hn ?_ k
  intro j w hj
  match j, hj with
  | 0, hj => exact Or.inr ⟨by omega, hj, by omega⟩
  | 1, hj => exact Or.inr ⟨by omega, hj, by omega⟩
  | 2, hj => exact Or.inr ⟨by omega, hj, by omega⟩
  | 3, hj => exact Or.inr ⟨by omega, hj, by omega⟩
  | 4, hj => exact Or.inr ⟨by omega, hj, by omega⟩
  | 5, hj => exact Or.inr ⟨by omega, hj, by omega⟩
  | 6, hj => exact Or.inr ⟨by omega, hj, by omega⟩
  | 7, hj => exact Or.inr ⟨by omega, hj, by omega⟩
  | 8, hj => exact Or.inr ⟨by omega, hj, by omega⟩
  | 9, hj => exact Or.inr ⟨by omega, hj, by omega⟩
  | 10, hj => exact Or.inr ⟨by omega, hj, by omega⟩
  | 11, hj => exact Or.inr ⟨by omega, hj, by omega⟩
  | 12, hj => exact Or.inr ⟨by omega, hj, by omega⟩
  | 13, hj => exact Or.inr ⟨by omega, hj, by omega⟩
  | 14, hj => exact Or.inr ⟨by omega, hj, by omega⟩
  | 15, hj => exact Or.inr ⟨by omega, hj, by omega⟩
  | 16, hj => exact Or.inr ⟨by omega, hj, fun _ => pw_c1_2 h1 (Option.some.inj hj)⟩
  | 17, hj => exact Or.inl ⟨rfl, (Option.some.inj (Option.some.inj hj)).symm⟩
  | j + 18, hj => exact Or.inr ⟨by omega, hj, by omega⟩
theorem pw_istore_18 {v0 v1 v2 v3 v4 v5 v6 v7 v8 v9 v10 v11 v12 v13 v14 v15 v16 v17 : Option Value} {o : Option Value} {t : List (Option Value)} {x : Int32} (d : decode (mB M) pc = .ok (.istore 18, 2)) (hn : 18 < mL M) (k : PW X M b1 b2 (pc + 2) (v0 :: v1 :: v2 :: v3 :: v4 :: v5 :: v6 :: v7 :: v8 :: v9 :: v10 :: v11 :: v12 :: v13 :: v14 :: v15 :: v16 :: v17 :: some (.int x) :: t) st σ μ Q) (h1 : pw_c1 v17 = v17 := by rfl) : PW X M b1 b2 pc (v0 :: v1 :: v2 :: v3 :: v4 :: v5 :: v6 :: v7 :: v8 :: v9 :: v10 :: v11 :: v12 :: v13 :: v14 :: v15 :: v16 :: v17 :: o :: t) (.int x :: st) σ μ Q := by
  refine pw_istore_g (ls' := v0 :: v1 :: v2 :: v3 :: v4 :: v5 :: v6 :: v7 :: v8 :: v9 :: v10 :: v11 :: v12 :: v13 :: v14 :: v15 :: v16 :: v17 :: some (.int x) :: t) d hn ?_ k
  intro j w hj
  match j, hj with
  | 0, hj => exact Or.inr ⟨by omega, hj, by omega⟩
  | 1, hj => exact Or.inr ⟨by omega, hj, by omega⟩
  | 2, hj => exact Or.inr ⟨by omega, hj, by omega⟩
  | 3, hj => exact Or.inr ⟨by omega, hj, by omega⟩
  | 4, hj => exact Or.inr ⟨by omega, hj, by omega⟩
  | 5, hj => exact Or.inr ⟨by omega, hj, by omega⟩
  | 6, hj => exact Or.inr ⟨by omega, hj, by omega⟩
  | 7, hj => exact Or.inr ⟨by omega, hj, by omega⟩
  | 8, hj => exact Or.inr ⟨by omega, hj, by omega⟩
  | 9, hj => exact Or.inr ⟨by omega, hj, by omega⟩
  | 10, hj => exact Or.inr ⟨by omega, hj, by omega⟩
  | 11, hj => exact Or.inr ⟨by omega, hj, by omega⟩
  | 12, hj => exact Or.inr ⟨by omega, hj, by omega⟩
  | 13, hj => exact Or.inr ⟨by omega, hj, by omega⟩
  | 14, hj => exact Or.inr ⟨by omega, hj, by omega⟩
  | 15, hj => exact Or.inr ⟨by omega, hj, by omega⟩
  | 16, hj => exact Or.inr ⟨by omega, hj, by omega⟩
  | 17, hj => exact Or.inr ⟨by omega, hj, fun _ => pw_c1_2 h1 (Option.some.inj hj)⟩
  | 18, hj => exact Or.inl ⟨rfl, (Option.some.inj (Option.some.inj hj)).symm⟩
  | j + 19, hj => exact Or.inr ⟨by omega, hj, by omega⟩
theorem pw_istore_19 {v0 v1 v2 v3 v4 v5 v6 v7 v8 v9 v10 v11 v12 v13 v14 v15 v16 v17 v18 : Option Value} {o : Option Value} {t : List (Option Value)} {x : Int32} (d : decode (mB M) pc = .ok (.istore 19, 2)) (hn : 19 < mL M) (k : PW X M b1 b2 (pc + 2) (v0 :: v1 :: v2 :: v3 :: v4 :: v5 :: v6 :: v7 :: v8 :: v9 :: v10 :: v11 :: v12 :: v13 :: v14 :: v15 :: v16 :: v17 :: v18 :: some (.int x) :: t) st σ μ Q) (h1 : pw_c1 v18 = v18 := by rfl) : PW X M b1 b2 pc (v0 :: v1 :: v2 :: v3 :: v4 :: v5 :: v6 :: v7 :: v8 :: v9 :: v10 :: v11 :: v12 :: v13 :: v14 :: v15 :: v16 :: v17 :: v18 :: o :: t) (.int x :: st) σ μ Q := by
  refine pw_istore_g (ls' := v0 :: v1 :: v2 :: v3 :: v4 :: v5 :: v6 :: v7 :: v8 :: v9 :: v10 :: v11 :: v12 :: v13 :: v14 :: v15 :: v16 :: v17 :: v18 :: some (.int x) :: t) d hn ?_ k
  intro j w hj
  match j, hj with
  | 0, hj => exact Or.inr ⟨by omega, hj, by omega⟩
  | 1, hj => exact Or.inr ⟨by omega, hj, by omega⟩
  | 2, hj => exact Or.inr ⟨by omega, hj, by omega⟩
  | 3, hj => exact Or.inr ⟨by omega, hj, by omega⟩
  | 4, hj => exact Or.inr ⟨by omega, hj, by omega⟩
  | 5, hj => exact Or.inr ⟨by omega, hj, by omega⟩
  | 6, hj => exact Or.inr ⟨by omega, hj, by omega⟩
  | 7, hj => exact Or.inr ⟨by omega, hj, by omega⟩
  | 8, hj => exact Or.inr ⟨by omega, hj, by omega⟩
  | 9, hj => exact Or.inr ⟨by omega, hj, by omega⟩
  | 10, hj => exact Or.inr ⟨by omega, hj, by omega⟩
  | 11, hj => exact Or.inr ⟨by omega, hj, by omega⟩
  | 12, hj => exact Or.inr ⟨by omega, hj, by omega⟩
  | 13, hj => exact Or.inr ⟨by omega, hj, by omega⟩
  | 14, hj => exact Or.inr ⟨by omega, hj, by omega⟩
  | 15, hj => exact Or.inr ⟨by omega, hj, by omega⟩
  | 16, hj => exact Or.inr ⟨by omega, hj, by omega⟩
  | 17, hj => exact Or.inr ⟨by omega, hj, by omega⟩
  | 18, hj => exact Or.inr ⟨by omega, hj, fun _ => pw_c1_2 h1 (Option.some.inj hj)⟩
  | 19, hj => exact Or.inl ⟨rfl, (Option.some.inj (Option.some.inj hj)).symm⟩
  | j + 20, hj => exact Or.inr ⟨by omega, hj, by omega⟩
theorem pw_istore_20 {v0 v1 v2 v3 v4 v5 v6 v7 v8 v9 v10 v11 v12 v13 v14 v15 v16 v17 v18 v19 : Option Value} {o : Option Value} {t : List (Option Value)} {x : Int32} (d : decode (mB M) pc = .ok (.istore 20, 2)) (hn : 20 < mL M) (k : PW X M b1 b2 (pc + 2) (v0 :: v1 :: v2 :: v3 :: v4 :: v5 :: v6 :: v7 :: v8 :: v9 :: v10 :: v11 :: v12 :: v13 :: v14 :: v15 :: v16 :: v17 :: v18 :: v19 :: some (.int x) :: t) st σ μ Q) (h1 : pw_c1 v19 = v19 := by rfl) : PW X M b1 b2 pc (v0 :: v1 :: v2 :: v3 :: v4 :: v5 :: v6 :: v7 :: v8 :: v9 :: v10 :: v11 :: v12 :: v13 :: v14 :: v15 :: v16 :: v17 :: v18 :: v19 :: o :: t) (.int x :: st) σ μ Q := by
  refine pw_istore_g (ls' := v0 :: v1 :: v2 :: v3 :: v4 :: v5 :: v6 :: v7 :: v8 :: v9 :: v10 :: v11 :: v12 :: v13 :: v14 :: v15 :: v16 :: v17 :: v18 :: v19 :: some (.int x) :: t) d hn ?_ k
  intro j w hj
  match j, hj with
  | 0, hj => exact Or.inr ⟨by omega, hj, by omega⟩
  | 1, hj => exact Or.inr ⟨by omega, hj, by omega⟩
  | 2, hj => exact Or.inr ⟨by omega, hj, by omega⟩
  | 3, hj => exact Or.inr ⟨by omega, hj, by omega⟩
  | 4, hj => exact Or.inr ⟨by omega, hj, by omega⟩
  | 5, hj => exact Or.inr ⟨by omega, hj, by omega⟩
  | 6, hj => exact Or.inr ⟨by omega, hj, by omega⟩
  | 7, hj => exact Or.inr ⟨by omega, hj, by omega⟩
  | 8, hj => exact Or.inr ⟨by omega, hj, by omega⟩
  | 9, hj => exact Or.inr ⟨by omega, hj, by omega⟩
  | 10, hj => exact Or.inr ⟨by omega, hj, by omega⟩
  | 11, hj => exact Or.inr ⟨by omega, hj, by omega⟩
  | 12, hj => exact Or.inr ⟨by omega, hj, by omega⟩
  | 13, hj => exact Or.inr ⟨by omega, hj, by omega⟩
  | 14, hj => exact Or.inr ⟨by omega, hj, by omega⟩
  | 15, hj => exact Or.inr ⟨by omega, hj, by omega⟩
  | 16, hj => exact Or.inr ⟨by omega, hj, by omega⟩
  | 17, hj => exact Or.inr ⟨by omega, hj, by omega⟩
  | 18, hj => exact Or.inr ⟨by omega, hj, by omega⟩
  | 19, hj => exact Or.inr ⟨by omega, hj, fun _ => pw_c1_2 h1 (Option.some.inj hj)⟩
  | 20, hj => exact Or.inl ⟨rfl, (Option.some.inj (Option.some.inj hj)).symm⟩
  | j + 21, hj => exact Or.inr ⟨by omega, hj, by omega⟩
theorem pw_istore_21 {v0 v1 v2 v3 v4 v5 v6 v7 v8 v9 v10 v11 v12 v13 v14 v15 v16 v17 v18 v19 v20 : Option Value} {o : Option Value} {t : List (Option Value)} {x : Int32} (d : decode (mB M) pc = .ok (.istore 21, 2)) (hn : 21 < mL M) (k : PW X M b1 b2 (pc + 2) (v0 :: v1 :: v2 :: v3 :: v4 :: v5 :: v6 :: v7 :: v8 :: v9 :: v10 :: v11 :: v12 :: v13 :: v14 :: v15 :: v16 :: v17 :: v18 :: v19 :: v20 :: some (.int x) :: t) st σ μ Q) (h1 : pw_c1 v20 = v20 := by rfl) : PW X M b1 b2 pc (v0 :: v1 :: v2 :: v3 :: v4 :: v5 :: v6 :: v7 :: v8 :: v9 :: v10 :: v11 :: v12 :: v13 :: v14 :: v15 :: v16 :: v17 :: v18 :: v19 :: v20 :: o :: t) (.int x :: st) σ μ Q := by
  refine pw_istore_g (ls' := v0 :: v1 :: v2 :: v3 :: v4 :: v5 :: v6 :: v7 :: v8 :: v9 :: v10 :: v11 :: v12 :: v13 :: v14 :: v15 :: v16 :: v17 :: v18 :: v19 :: v20 :: some (.int x) :: t) d hn ?_ k
  intro j w hj
  match j, hj with
  | 0, hj => exact Or.inr ⟨by omega, hj, by omega⟩
  | 1, hj => exact Or.inr ⟨by omega, hj, by omega⟩
  | 2, hj => exact Or.inr ⟨by omega, hj, by omega⟩
  | 3, hj => exact Or.inr ⟨by omega, hj, by omega⟩
  | 4, hj => exact Or.inr ⟨by omega, hj, by omega⟩
  | 5, hj => exact Or.inr ⟨by omega, hj, by omega⟩
  | 6, hj => exact Or.inr ⟨by omega, hj, by omega⟩
  | 7, hj => exact Or.inr ⟨by omega, hj, by omega⟩
  | 8, hj => exact Or.inr ⟨by omega, hj, by omega⟩
  | 9, hj => exact Or.inr ⟨by omega, hj, by omega⟩
  | 10, hj => exact Or.inr ⟨by omega, hj, by omega⟩
  | 11, hj => exact Or.inr ⟨by omega, hj, by omega⟩
  | 12, hj => exact Or.inr ⟨by omega, hj, by omega⟩
  | 13, hj => exact Or.inr ⟨by omega, hj, by omega⟩
  | 14, hj => exact Or.inr ⟨by omega, hj, by omega⟩
  | 15, hj => exact Or.inr ⟨by omega, hj, by omega⟩
  | 16, hj => exact Or.inr ⟨by omega, hj, by omega⟩
  | 17, hj => exact Or.inr ⟨by omega, hj, by omega⟩
  | 18, hj => exact Or.inr ⟨by omega, hj, by omega⟩
  | 19, hj => exact Or.inr ⟨by omega, hj, by omega⟩
  | 20, hj => exact Or.inr ⟨by omega, hj, fun _ => pw_c1_2 h1 (Option.some.inj hj)⟩
  | 21, hj => exact Or.inl ⟨rfl, (Option.some.inj (Option.some.inj hj)).symm⟩
  | j + 22, hj => exact Or.inr ⟨by omega, hj, by omega⟩
theorem pw_istore_22 {v0 v1 v2 v3 v4 v5 v6 v7 v8 v9 v10 v11 v12 v13 v14 v15 v16 v17 v18 v19 v20 v21 : Option Value} {o : Option Value} {t : List (Option Value)} {x : Int32} (d : decode (mB M) pc = .ok (.istore 22, 2)) (hn : 22 < mL M) (k : PW X M b1 b2 (pc + 2) (v0 :: v1 :: v2 :: v3 :: v4 :: v5 :: v6 :: v7 :: v8 :: v9 :: v10 :: v11 :: v12 :: v13 :: v14 :: v15 :: v16 :: v17 :: v18 :: v19 :: v20 :: v21 :: some (.int x) :: t) st σ μ Q) (h1 : pw_c1 v21 = v21 := by rfl) : PW X M b1 b2 pc (v0 :: v1 :: v2 :: v3 :: v4 :: v5 :: v6 :: v7 :: v8 :: v9 :: v10 :: v11 :: v12 :: v13 :: v14 :: v15 :: v16 :: v17 :: v18 :: v19 :: v20 :: v21 :: o :: t) (.int x :: st) σ μ Q := by
  refine pw_istore_g (ls' := v0 :: v1 :: v2 :: v3 :: v4 :: v5 :: v6 :: v7 :: v8 :: v9 :: v10 :: v11 :: v12 :: v13 :: v14 :: v15 :: v16 :: v17 :: v18 :: v19 :: v20 :: v21 :: some (.int x) :: t) d hn ?_ k
  intro j w hj
  match j, hj with
  | 0, hj => exact Or.inr ⟨by omega, hj, by omega⟩
  | 1, hj => exact Or.inr ⟨by omega, hj, by omega⟩
  | 2, hj => exact Or.inr ⟨by omega, hj, by omega⟩
  | 3, hj => exact Or.inr ⟨by omega, hj, by omega⟩
  | 4, hj => exact Or.inr ⟨by omega, hj, by omega⟩
  | 5, hj => exact Or.inr ⟨by omega, hj, by omega⟩
  | 6, hj => exact Or.inr ⟨by omega, hj, by omega⟩
  | 7, hj => exact Or.inr ⟨by omega, hj, by omega⟩
  | 8, hj => exact Or.inr ⟨by omega, hj, by omega⟩
  | 9, hj => exact Or.inr ⟨by omega, hj, by omega⟩
  | 10, hj => exact Or.inr ⟨by omega, hj, by omega⟩
  | 11, hj => exact Or.inr ⟨by omega, hj, by omega⟩
  | 12, hj => exact Or.inr ⟨by omega, hj, by omega⟩
  | 13, hj => exact Or.inr ⟨by omega, hj, by omega⟩
  | 14, hj => exact Or.inr ⟨by omega, hj, by omega⟩
  | 15, hj => exact Or.inr ⟨by omega, hj, by omega⟩
  | 16, hj => exact Or.inr ⟨by omega, hj, by omega⟩
  | 17, hj => exact Or.inr ⟨by omega, hj, by omega⟩
  | 18, hj => exact Or.inr ⟨by omega, hj, by omega⟩
  | 19, hj => exact Or.inr ⟨by omega, hj, by omega⟩
  | 20, hj => exact Or.inr ⟨by omega, hj, by omega⟩
  | 21, hj => exact Or.inr ⟨by omega, hj, fun _ => pw_c1_2 h1 (Option.some.inj hj)⟩
  | 22, hj => exact Or.inl ⟨rfl, (Option.some.inj (Option.some.inj hj)).symm⟩
  | j + 23, hj => exact Or.inr ⟨by omega, hj, by omega⟩
theorem pw_istore_23 {v0 v1 v2 v3 v4 v5 v6 v7 v8 v9 v10 v11 v12 v13 v14 v15 v16 v17 v18 v19 v20 v21 v22 : Option Value} {o : Option Value} {t : List (Option Value)} {x : Int32} (d : decode (mB M) pc = .ok (.istore 23, 2)) (hn : 23 < mL M) (k : PW X M b1 b2 (pc + 2) (v0 :: v1 :: v2 :: v3 :: v4 :: v5 :: v6 :: v7 :: v8 :: v9 :: v10 :: v11 :: v12 :: v13 :: v14 :: v15 :: v16 :: v17 :: v18 :: v19 :: v20 :: v21 :: v22 :: some (.int x) :: t) st σ μ Q) (h1 : pw_c1 v22 = v22 := by rfl) : PW X M b1 b2 pc (v0 :: v1 :: v2 :: v3 :: v4 :: v5 :: v6 :: v7 :: v8 :: v9 :: v10 :: v11 :: v12 :: v13 :: v14 :: v15 :: v16 :: v17 :: v18 :: v19 :: v20 :: v21 :: v22 :: o :: t) (.int x :: st) σ μ Q := by
  refine pw_istore_g (ls' := v0 :: v1 :: v2 :: v3 :: v4 :: v5 :: v6 :: v7 :: v8 :: v9 :: v10 :: v11 :: v12 :: v13 :: v14 :: v15 :: v16 :: v17 :: v18 :: v19 :: v20 :: v21 :: v22 :: some (.int x) :: t) d hn ?_ k
  intro j w hj
  match j, hj with
  | 0, hj => exact Or.inr ⟨by omega, hj, by omega⟩
  | 1, hj => exact Or.inr ⟨by omega, hj, by omega⟩
  | 2, hj => exact Or.inr ⟨by omega, hj, by omega⟩
  | 3, hj => exact Or.inr ⟨by omega, hj, by omega⟩
  | 4, hj => exact Or.inr ⟨by omega, hj, by omega⟩
  | 5, hj => exact Or.inr ⟨by omega, hj, by omega⟩
  | 6, hj => exact Or.inr ⟨by omega, hj, by omega⟩
  | 7, hj => exact Or.inr ⟨by omega, hj, by omega⟩
  | 8, hj => exact Or.inr ⟨by omega, hj, by omega⟩
  | 9, hj => exact Or.inr ⟨by omega, hj, by omega⟩
  | 10, hj => exact Or.inr ⟨by omega, hj, by omega⟩
  | 11, hj => exact Or.inr ⟨by omega, hj, by omega⟩
  | 12, hj => exact Or.inr ⟨by omega, hj, by omega⟩
  | 13, hj => exact Or.inr ⟨by omega, hj, by omega⟩
  | 14, hj => exact Or.inr ⟨by omega, hj, by omega⟩
  | 15, hj => exact Or.inr ⟨by omega, hj, by omega⟩
  | 16, hj => exact Or.inr ⟨by omega, hj, by omega⟩
  | 17, hj => exact Or.inr ⟨by omega, hj, by omega⟩
  | 18, hj => exact Or.inr ⟨by omega, hj, by omega⟩
  | 19, hj => exact Or.inr ⟨by omega, hj, by omega⟩
  | 20, hj => exact Or.inr ⟨by omega, hj, by omega⟩
  | 21, hj => exact Or.inr ⟨by omega, hj, by omega⟩
  | 22, hj => exact Or.inr ⟨by omega, hj, fun _ => pw_c1_2 h1 (Option.some.inj hj)⟩
  | 23, hj => exact Or.inl ⟨rfl, (Option.some.inj (Option.some.inj hj)).symm⟩
  | j + 24, hj => exact Or.inr ⟨by omega, hj, by omega⟩
theorem pw_istore_24 {v0 v1 v2 v3 v4 v5 v6 v7 v8 v9 v10 v11 v12 v13 v14 v15 v16 v17 v18 v19 v20 v21 v22 v23 : Option Value} {o : Option Value} {t : List (Option Value)} {x : Int32} (d : decode (mB M) pc = .ok (.istore 24, 2)) (hn : 24 < mL M) (k : PW X M b1 b2 (pc + 2) (v0 :: v1 :: v2 :: v3 :: v4 :: v5 :: v6 :: v7 :: v8 :: v9 :: v10 :: v11 :: v12 :: v13 :: v14 :: v15 :: v16 :: v17 :: v18 :: v19 :: v20 :: v21 :: v22 :: v23 :: some (.int x) :: t) st σ μ Q) (h1 : pw_c1 v23 = v23 := by rfl) : PW X M b1 b2 pc (v0 :: v1 :: v2 :: v3 :: v4 :: v5 :: v6 :: v7 :: v8 :: v9 :: v10 :: v11 :: v12 :: v13 :: v14 :: v15 :: v16 :: v17 :: v18 :: v19 :: v20 :: v21 :: v22 :: v23 :: o :: t) (.int x :: st) σ μ Q := by
  refine pw_istore_g (ls' := v0 :: v1 :: v2 :: v3 :: v4 :: v5 :: v6 :: v7 :: v8 :: v9 :: v10 :: v11 :: v12 :: v13 :: v14 :: v15 :: v16 :: v17 :: v18 :: v19 :: v20 :: v21 :: v22 :: v23 :: some (.int x) :: t) d hn ?_ k
  intro j w hj
  match j, hj with
  | 0, hj => exact Or.inr ⟨by omega, hj, by omega⟩
  | 1, hj => exact Or.inr ⟨by omega, hj, by omega⟩
  | 2, hj => exact Or.inr ⟨by omega, hj, by omega⟩
  | 3, hj => exact Or.inr ⟨by omega, hj, by omega⟩
  | 4, hj => exact Or.inr ⟨by omega, hj, by omega⟩
  | 5, hj => exact Or.inr ⟨by omega, hj, by omega⟩
  | 6, hj => exact Or.inr ⟨by omega, hj, by omega⟩
  | 7, hj => exact Or.inr ⟨by omega, hj, by omega⟩
  | 8, hj => exact Or.inr ⟨by omega, hj, by omega⟩
  | 9, hj => exact Or.inr ⟨by omega, hj, by omega⟩
  | 10, hj => exact Or.inr ⟨by omega, hj, by omega⟩
  | 11, hj => exact Or.inr ⟨by omega, hj, by omega⟩
  | 12, hj => exact Or.inr ⟨by omega, hj, by omega⟩
  | 13, hj => exact Or.inr ⟨by omega, hj, by omega⟩
  | 14, hj => exact Or.inr ⟨by omega, hj, by omega⟩
  | 15, hj => exact Or.inr ⟨by omega, hj, by omega⟩
  | 16, hj => exact Or.inr ⟨by omega, hj, by omega⟩
  | 17, hj => exact Or.inr ⟨by omega, hj, by omega⟩
  | 18, hj => exact Or.inr ⟨by omega, hj, by omega⟩
  | 19, hj => exact Or.inr ⟨by omega, hj, by omega⟩
  | 20, hj => exact Or.inr ⟨by omega, hj, by omega⟩
  | 21, hj => exact Or.inr ⟨by omega, hj, by omega⟩
  | 22, hj => exact Or.inr ⟨by omega, hj, by omega⟩
  | 23, hj => exact Or.inr ⟨by omega, hj, fun _ => pw_c1_2 h1 (Option.some.inj hj)⟩
  | 24, hj => exact Or.inl ⟨rfl, (Option.some.inj (Option.some.inj hj)).symm⟩
  | j + 25, hj => exact Or.inr ⟨by omega, hj, by omega⟩
theorem pw_istore_25 {v0 v1 v2 v3 v4 v5 v6 v7 v8 v9 v10 v11 v12 v13 v14 v15 v16 v17 v18 v19 v20 v21 v22 v23 v24 : Option Value} {o : Option Value} {t : List (Option Value)} {x : Int32} (d : decode (mB M) pc = .ok (.istore 25, 2)) (hn : 25 < mL M) (k : PW X M b1 b2 (pc + 2) (v0 :: v1 :: v2 :: v3 :: v4 :: v5 :: v6 :: v7 :: v8 :: v9 :: v10 :: v11 :: v12 :: v13 :: v14 :: v15 :: v16 :: v17 :: v18 :: v19 :: v20 :: v21 :: v22 :: v23 :: v24 :: some (.int x) :: t) st σ μ Q) (h1 : pw_c1 v24 = v24 := by rfl) : PW X M b1 b2 pc (v0 :: v1 :: v2 :: v3 :: v4 :: v5 :: v6 :: v7 :: v8 :: v9 :: v10 :: v11 :: v12 :: v13 :: v14 :: v15 :: v16 :: v17 :: v18 :: v19 :: v20 :: v21 :: v22 :: v23 :: v24 :: o :: t) (.int x :: st) σ μ Q := by
  refine pw_istore_g (ls' := v0 :: v1 :: v2 :: v3 :: v4 :: v5 :: v6 :: v7 :: v8 :: v9 :: v10 :: v11 :: v12 :: v13 :: v14 :: v15 :: v16 :: v17 :: v18 :: v19 :: v20 :: v21 :: v22 :: v23 :: v24 :: some (.int x) :: t) d hn ?_ k
  intro j w hj
  match j, hj with
  | 0, hj => exact Or.inr ⟨by omega, hj, by omega⟩
  | 1, hj => exact Or.inr ⟨by omega, hj, by omega⟩
  | 2, hj => exact Or.inr ⟨by omega, hj, by omega⟩
  | 3, hj => exact Or.inr ⟨by omega, hj, by omega⟩
  | 4, hj => exact Or.inr ⟨by omega, hj, by omega⟩
  | 5, hj => exact Or.inr ⟨by omega, hj, by omega⟩
  | 6, hj => exact Or.inr ⟨by omega, hj, by omega⟩
  | 7, hj => exact Or.inr ⟨by omega, hj, by omega⟩
  | 8, hj => exact Or.inr ⟨by omega, hj, by omega⟩
  | 9, hj => exact Or.inr ⟨by omega, hj, by omega⟩
  | 10, hj => exact Or.inr ⟨by omega, hj, by omega⟩
  | 11, hj => exact Or.inr ⟨by omega, hj, by omega⟩
  | 12, hj => exact Or.inr ⟨by omega, hj, by omega⟩
  | 13, hj => exact Or.inr ⟨by omega, hj, by omega⟩
  | 14, hj => exact Or.inr ⟨by omega, hj, by omega⟩
  | 15, hj => exact Or.inr ⟨by omega, hj, by omega⟩
  | 16, hj => exact Or.inr ⟨by omega, hj, by omega⟩
  | 17, hj => exact Or.inr ⟨by omega, hj, by omega⟩
  | 18, hj => exact Or.inr ⟨by omega, hj, by omega⟩
  | 19, hj => exact Or.inr ⟨by omega, hj, by omega⟩
  | 20, hj => exact Or.inr ⟨by omega, hj, by omega⟩
  | 21, hj => exact Or.inr ⟨by omega, hj, by omega⟩
  | 22, hj => exact Or.inr ⟨by omega, hj, by omega⟩
  | 23, hj => exact Or.inr ⟨by omega, hj, by omega⟩
  | 24, hj => exact Or.inr ⟨by omega, hj, fun _ => pw_c1_2 h1 (Option.some.inj hj)⟩
  | 25, hj => exact Or.inl ⟨rfl, (Option.some.inj (Option.some.inj hj)).symm⟩
  | j + 26, hj => exact Or.inr ⟨by omega, hj, by omega⟩
theorem pw_istore_26 {v0 v1 v2 v3 v4 v5 v6 v7 v8 v9 v10 v11 v12 v13 v14 v15 v16 v17 v18 v19 v20 v21 v22 v23 v24 v25 : Option Value} {o : Option Value} {t : List (Option Value)} {x : Int32} (d : decode (mB M) pc = .ok (.istore 26, 2)) (hn : 26 < mL M) (k : PW X M b1 b2 (pc + 2) (v0 :: v1 :: v2 :: v3 :: v4 :: v5 :: v6 :: v7 :: v8 :: v9 :: v10 :: v11 :: v12 :: v13 :: v14 :: v15 :: v16 :: v17 :: v18 :: v19 :: v20 :: v21 :: v22 :: v23 :: v24 :: v25 :: some (.int x) :: t) st σ μ Q) (h1 : pw_c1 v25 = v25 := by rfl) : PW X M b1 b2 pc (v0 :: v1 :: v2 :: v3 :: v4 :: v5 :: v6 :: v7 :: v8 :: v9 :: v10 :: v11 :: v12 :: v13 :: v14 :: v15 :: v16 :: v17 :: v18 :: v19 :: v20 :: v21 :: v22 :: v23 :: v24 :: v25 :: o :: t) (.int x :: st) σ μ Q := by
  refine pw_istore_g (ls' := v0 :: v1 :: v2 :: v3 :: v4 :: v5 :: v6 :: v7 :: v8 :: v9 :: v10 :: v11 :: v12 :: v13 :: v14 :: v15 :: v16 :: v17 :: v18 :: v19 :: v20 :: v21 :: v22 :: v23 :: v24 :: v25 :: some (.int x) :: t) d hn ?_ k
  intro j w hj
  match j, hj with
  | 0, hj => exact Or.inr ⟨by omega, hj, by omega⟩
  | 1, hj => exact Or.inr ⟨by omega, hj, by omega⟩
  | 2, hj => exact Or.inr ⟨by omega, hj, by omega⟩
  | 3, hj => exact Or.inr ⟨by omega, hj, by omega⟩
  | 4, hj => exact Or.inr ⟨by omega, hj, by omega⟩
  | 5, hj => exact Or.inr ⟨by omega, hj, by omega⟩
  | 6, hj => exact Or.inr ⟨by omega, hj, by omega⟩
  | 7, hj => exact Or.inr ⟨by omega, hj, by omega⟩
  | 8, hj => exact Or.inr ⟨by omega, hj, by omega⟩
  | 9, hj => exact Or.inr ⟨by omega, hj, by omega⟩
  | 10, hj => exact Or.inr ⟨by omega, hj, by omega⟩
  | 11, hj => exact Or.inr ⟨by omega, hj, by omega⟩
  | 12, hj => exact Or.inr ⟨by omega, hj, by omega⟩
  | 13, hj => exact Or.inr ⟨by omega, hj, by omega⟩
  | 14, hj => exact Or.inr ⟨by omega, hj, by omega⟩
  | 15, hj => exact Or.inr ⟨by omega, hj, by omega⟩
  | 16, hj => exact Or.inr ⟨by omega, hj, by omega⟩
  | 17, hj => exact Or.inr ⟨by omega, hj, by omega⟩
  | 18, hj => exact Or.inr ⟨by omega, hj, by omega⟩
  | 19, hj => exact Or.inr ⟨by omega, hj, by omega⟩
  | 20, hj => exact Or.inr ⟨by omega, hj, by omega⟩
  | 21, hj => exact Or.inr ⟨by omega, hj, by omega⟩
  | 22, hj => exact Or.inr ⟨by omega, hj, by omega⟩
  | 23, hj => exact Or.inr ⟨by omega, hj, by omega⟩
  | 24, hj => exact Or.inr ⟨by omega, hj, by omega⟩
  | 25, hj => exact Or.inr ⟨by omega, hj, fun _ => pw_c1_2 h1 (Option.some.inj hj)⟩
  | 26, hj => exact Or.inl ⟨rfl, (Option.some.inj (Option.some.inj hj)).symm⟩
  | j + 27, hj => exact Or.inr ⟨by omega, hj, by omega⟩
theorem pw_astore_gn {n : Fin 4} {x : Nat} {ls' : List (Option Value)} (d : decode (mB M) pc = .ok (.astore_n n, 1)) (hn : (n : Nat) < mL M) (hl : ∀ (j : Nat) (w : Value), ls'[j]? = some (some w) → (j = (n : Nat) ∧ w = .ref x) ∨ (j ≠ (n : Nat) ∧ ls[j]? = some (some w) ∧ (j + 1 = (n : Nat) → w.category ≠ 2))) (k : PW X M b1 b2 (pc + 1) ls' st σ μ Q) : PW X M b1 b2 pc ls (.ref x :: st) σ μ Q :=
  fun p e R s m args below meth c H locs cells slots ar Z B S P F L c1 c2 K => lv_astore_n B.1 B.2.1 d rfl (pw_Lal L) hn rfl (fun ar' h => k p e R s m args below meth c H locs cells slots ar' Z B S P F (pw_Lset1 h hl) c1 c2 K)
theorem pw_astore_g {n : Nat} {x : Nat} {ls' : List (Option Value)} (d : decode (mB M) pc = .ok (.astore n, 2)) (hn : n < mL M) (hl : ∀ (j : Nat) (w : Value), ls'[j]? = some (some w) → (j = n ∧ w = .ref x) ∨ (j ≠ n ∧ ls[j]? = some (some w) ∧ (j + 1 = n → w.category ≠ 2))) (k : PW X M b1 b2 (pc + 2) ls' st σ μ Q) : PW X M b1 b2 pc ls (.ref x :: st) σ μ Q :=
  fun p e R s m args below meth c H locs cells slots ar Z B S P F L c1 c2 K => lv_astore B.1 B.2.1 d (pw_Lal L) hn rfl (fun ar' h => k p e R s m args below meth c H locs cells slots ar' Z B S P F (pw_Lset1 h hl) c1 c2 K)
theorem pw_astore_0 {o : Option Value} {t : List (Option Value)} {x : Nat} (d : decode (mB M) pc = .ok (.astore_n 0, 1)) (hn : 0 < mL M) (k : PW X M b1 b2 (pc + 1) (some (.ref x) :: t) st σ μ Q) : PW X M b1 b2 pc (o :: t) (.ref x :: st) σ μ Q := by
  refine pw_astore_gn (ls' := some (.ref x) :: t) d hn ?_ k
  intro j w hj
  match j, hj with
  | 0, hj => exact Or.inl ⟨rfl, (Option.some.inj (Option.some.inj hj)).symm⟩
  | j + 1, hj => exact Or.inr ⟨by omega, hj, by omega⟩
theorem pw_astore_1 {v0 : Option Value} {o : Option Value} {t : List (Option Value)} {x : Nat} (d : decode (mB M) pc = .ok (.astore_n 1, 1)) (hn : 1 < mL M) (k : PW X M b1 b2 (pc + 1) (v0 :: some (.ref x) :: t) st σ μ Q) (h1 : pw_c1 v0 = v0 := by rfl) : PW X M b1 b2 pc (v0 :: o :: t) (.ref x :: st) σ μ Q := by
  refine pw_astore_gn (ls' := v0 :: some (.ref x) :: t) d hn ?_ k
  intro j w hj
  match j, hj with
  | 0, hj => exact Or.inr ⟨by omega, hj, fun _ => pw_c1_2 h1 (Option.some.inj hj)⟩
  | 1, hj => exact Or.inl ⟨rfl, (Option.some.inj (Option.some.inj hj)).symm⟩
  | j + 2, hj => exact Or.inr ⟨by omega, hj, by omega⟩
theorem pw_astore_2 {v0 v1 : Option Value} {o : Option Value} {t : List (Option Value)} {x : Nat} (d : decode (mB M) pc = .ok (.astore_n 2, 1)) (hn : 2 < mL M) (k : PW X M b1 b2 (pc + 1) (v0 :: v1 :: some (.ref x) :: t) st σ μ Q) (h1 : pw_c1 v1 = v1 := by rfl) : PW X M b1 b2 pc (v0 :: v1 :: o :: t) (.ref x :: st) σ μ Q := by
  refine pw_astore_gn (ls' := v0 :: v1 :: some (.ref x) :: t) d hn ?_ k
  intro j w hj
  match j, hj with
  | 0, hj => exact Or.inr ⟨by omega, hj, by omega⟩
  | 1, hj => exact Or.inr ⟨by omega, hj, fun _ => pw_c1_2 h1 (Option.some.inj hj)⟩
  | 2, hj => exact Or.inl ⟨rfl, (Option.some.inj (Option.some.inj hj)).symm⟩
  | j + 3, hj => exact Or.inr ⟨by omega, hj, by omega⟩
theorem pw_astore_3 {v0 v1 v2 : Option Value} {o : Option Value} {t : List (Option Value)} {x : Nat} (d : decode (mB M) pc = .ok (.astore_n 3, 1)) (hn : 3 < mL M) (k : PW X M b1 b2 (pc + 1) (v0 :: v1 :: v2 :: some (.ref x) :: t) st σ μ Q) (h1 : pw_c1 v2 = v2 := by rfl) : PW X M b1 b2 pc (v0 :: v1 :: v2 :: o :: t) (.ref x :: st) σ μ Q := by
  refine pw_astore_gn (ls' := v0 :: v1 :: v2 :: some (.ref x) :: t) d hn ?_ k
  intro j w hj
  match j, hj with
  | 0, hj => exact Or.inr ⟨by omega, hj, by omega⟩
  | 1, hj => exact Or.inr ⟨by omega, hj, by omega⟩
  | 2, hj => exact Or.inr ⟨by omega, hj, fun _ => pw_c1_2 h1 (Option.some.inj hj)⟩
  | 3, hj => exact Or.inl ⟨rfl, (Option.some.inj (Option.some.inj hj)).symm⟩
  | j + 4, hj => exact Or.inr ⟨by omega, hj, by omega⟩
theorem pw_astore_4 {v0 v1 v2 v3 : Option Value} {o : Option Value} {t : List (Option Value)} {x : Nat} (d : decode (mB M) pc = .ok (.astore 4, 2)) (hn : 4 < mL M) (k : PW X M b1 b2 (pc + 2) (v0 :: v1 :: v2 :: v3 :: some (.ref x) :: t) st σ μ Q) (h1 : pw_c1 v3 = v3 := by rfl) : PW X M b1 b2 pc (v0 :: v1 :: v2 :: v3 :: o :: t) (.ref x :: st) σ μ Q := by
  refine pw_astore_g (ls' := v0 :: v1 :: v2 :: v3 :: some (.ref x) :: t) d hn ?_ k
  intro j w hj
  match j, hj with
  | 0, hj => exact Or.inr ⟨by omega, hj, by omega⟩
  | 1, hj => exact Or.inr ⟨by omega, hj, by omega⟩
  | 2, hj => exact Or.inr ⟨by omega, hj, by omega⟩
  | 3, hj => exact Or.inr ⟨by omega, hj, fun _ => pw_c1_2 h1 (Option.some.inj hj)⟩
  | 4, hj => exact Or.inl ⟨rfl, (Option.some.inj (Option.some.inj hj)).symm⟩
  | j + 5, hj => exact Or.inr ⟨by omega, hj, by omega⟩
theorem pw_astore_5 {v0 v1 v2 v3 v4 : Option Value} {o : Option Value} {t : List (Option Value)} {x : Nat} (d : decode (mB M) pc = .ok (.astore 5, 2)) (hn : 5 < mL M) (k : PW X M b1 b2 (pc + 2) (v0 :: v1 :: v2 :: v3 :: v4 :: some (.ref x) :: t) st σ μ Q) (h1 : pw_c1 v4 = v4 := by rfl) : PW X M b1 b2 pc (v0 :: v1 :: v2 :: v3 :: v4 :: o :: t) (.ref x :: st) σ μ Q := by
  refine pw_astore_g (ls' := v0 :: v1 :: v2 :: v3 :: v4 :: some (.ref x) :: t) d hn ?_ k
  intro j w hj
  match j, hj with
  | 0, hj => exact Or.inr ⟨by omega, hj, by omega⟩
  | 1, hj => exact Or.inr ⟨by omega, hj, by omega⟩
  | 2, hj => exact Or.inr ⟨by omega, hj, by omega⟩
  | 3, hj => exact Or.inr ⟨by omega, hj, by omega⟩
  | 4, hj => exact Or.inr ⟨by omega, hj, fun _ => pw_c1_2 h1 (Option.some.inj hj)⟩
  | 5, hj => exact Or.inl ⟨rfl, (Option.some.inj (Option.some.inj hj)).symm⟩
  | j + 6, hj => exact Or.inr ⟨by omega, hj, by omega⟩
theorem pw_astore_6 {v0 v1 v2 v3 v4 v5 : Option Value} {o : Option Value} {t : List (Option Value)} {x : Nat} (d : decode (mB M) pc = .ok (.astore 6, 2)) (hn : 6 < mL M) (k : PW X M b1 b2 (pc + 2) (v0 :: v1 :: v2 :: v3 :: v4 :: v5 :: some (.ref x) :: t) st σ μ Q) (h1 : pw_c1 v5 = v5 := by rfl) : PW X M b1 b2 pc (v0 :: v1 :: v2 :: v3 :: v4 :: v5 :: o :: t) (.ref x :: st) σ μ Q := by
  refine pw_astore_g (ls' := v0 :: v1 :: v2 :: v3 :: v4 :: v5 :: some (.ref x) :: t) d hn ?_ k
  intro j w hj
  match j, hj with
  | 0, hj => exact Or.inr ⟨by omega, hj, by omega⟩
  | 1, hj => exact Or.inr ⟨by omega, hj, by omega⟩
  | 2, hj => exact Or.inr ⟨by omega, hj, by omega⟩
  | 3, hj => exact Or.inr ⟨by omega, hj, by omega⟩
  | 4, hj => exact Or.inr ⟨by omega, hj, by omega⟩
  | 5, hj => exact Or.inr ⟨by omega, hj, fun _ => pw_c1_2 h1 (Option.some.inj hj)⟩
  | 6, hj => exact Or.inl ⟨rfl, (Option.some.inj (Option.some.inj hj)).symm⟩
  | j + 7, hj => exact Or.inr ⟨by omega, hj, by omega⟩
theorem pw_astore_7 {v0 v1 v2 v3 v4 v5 v6 : Option Value} {o : Option Value} {t : List (Option Value)} {x : Nat} (d : decode (mB M) pc = .ok (.astore 7, 2)) (hn : 7 < mL M) (k : PW X M b1 b2 (pc + 2) (v0 :: v1 :: v2 :: v3 :: v4 :: v5 :: v6 :: some (.ref x) :: t) st σ μ Q) (h1 : pw_c1 v6 = v6 := by rfl) : PW X M b1 b2 pc (v0 :: v1 :: v2 :: v3 :: v4 :: v5 :: v6 :: o :: t) (.ref x :: st) σ μ Q := by
  refine pw_astore_g (ls' := v0 :: v1 :: v2 :: v3 :: v4 :: v5 :: v6 :: some (.ref x) :: t) d hn ?_ k
  intro j w hj
  match j, hj with
  | 0, hj => exact Or.inr ⟨by omega, hj, by omega⟩
  | 1, hj => exact Or.inr ⟨by omega, hj, by omega⟩
  | 2, hj => exact Or.inr ⟨by omega, hj, by omega⟩
  | 3, hj => exact Or.inr ⟨by omega, hj, by omega⟩
  | 4, hj => exact Or.inr ⟨by omega, hj, by omega⟩
  | 5, hj => exact Or.inr ⟨by omega, hj, by omega⟩
  | 6, hj => exact Or.inr ⟨by omega, hj, fun _ => pw_c1_2 h1 (Option.some.inj hj)⟩
  | 7, hj => exact Or.inl ⟨rfl, (Option.some.inj (Option.some.inj hj)).symm⟩
  | j + 8, hj => exact Or.inr ⟨by omega, hj, by omega⟩
theorem pw_astore_8 {v0 v1 v2 v3 v4 v5 v6 v7 : Option Value} {o : Option Value} {t : List (Option Value)} {x : Nat} (d : decode (mB M) pc = .ok (.astore 8, 2)) (hn : 8 < mL M) (k : PW X M b1 b2 (pc + 2) (v0 :: v1 :: v2 :: v3 :: v4 :: v5 :: v6 :: v7 :: some (.ref x) :: t) st σ μ Q) (h1 : pw_c1 v7 = v7 := by rfl) : PW X M b1 b2 pc (v0 :: v1 :: v2 :: v3 :: v4 :: v5 :: v6 :: v7 :: o :: t) (.ref x :: st) σ μ Q := by
  refine pw_astore_g (ls' := v0 :: v1 :: v2 :: v3 :: v4 :: v5 :: v6 :: v7 :: some (.ref x) :: t) d hn ?_ k
  intro j w hj
  match j, hj with
  | 0, hj => exact Or.inr ⟨by omega, hj, by omega⟩
  | 1, hj => exact Or.inr ⟨by omega, hj, by omega⟩
  | 2, hj => exact Or.inr ⟨by omega, hj, by omega⟩
  | 3, hj => exact Or.inr ⟨by omega, hj, by omega⟩
  | 4, hj => exact Or.inr ⟨by omega, hj, by omega⟩
  | 5, hj => exact Or.inr ⟨by omega, hj, by omega⟩
  | 6, hj => exact Or.inr ⟨by omega, hj, by omega⟩
  | 7, hj => exact Or.inr ⟨by omega, hj, fun _ => pw_c1_2 h1 (Option.some.inj hj)⟩
  | 8, hj => exact Or.inl ⟨rfl, (Option.some.inj (Option.some.inj hj)).symm⟩
  | j + 9, hj => exact Or.inr ⟨by omega, hj, by omega⟩
theorem pw_astore_9 {v0 v1 v2 v3 v4 v5 v6 v7 v8 : Option Value} {o : Option Value} {t : List (Option Value)} {x : Nat} (d : decode (mB M) pc = .ok (.astore 9, 2)) (hn : 9 < mL M) (k : PW X M b1 b2 (pc + 2) (v0 :: v1 :: v2 :: v3 :: v4 :: v5 :: v6 :: v7 :: v8 :: some (.ref x) :: t) st σ μ Q) (h1 : pw_c1 v8 = v8 := by rfl) : PW X M b1 b2 pc (v0 :: v1 :: v2 :: v3 :: v4 :: v5 :: v6 :: v7 :: v8 :: o :: t) (.ref x :: st) σ μ Q := by
  refine pw_astore_g (ls' := v0 :: v1 :: v2 :: v3 :: v4 :: v5 :: v6 :: v7 :: v8 :: some (.ref x) :: t) d hn ?_ k
  intro j w hj
  match j, hj with
  | 0, hj => exact Or.inr ⟨by omega, hj, by omega⟩
  | 1, hj => exact Or.inr ⟨by omega, hj, by omega⟩
  | 2, hj => exact Or.inr ⟨by omega, hj, by omega⟩
  | 3, hj => exact Or.inr ⟨by omega, hj, by omega⟩
  | 4, hj => exact Or.inr ⟨by omega, hj, by omega⟩
  | 5, hj => exact Or.inr ⟨by omega, hj, by omega⟩
  | 6, hj => exact Or.inr ⟨by omega, hj, by omega⟩
  | 7, hj => exact Or.inr ⟨by omega, hj, by omega⟩
  | 8, hj => exact Or.inr ⟨by omega, hj, fun _ => pw_c1_2 h1 (Option.some.inj hj)⟩
  | 9, hj => exact Or.inl ⟨rfl, (Option.some.inj (Option.some.inj hj)).symm⟩
  | j + 10, hj => exact Or.inr ⟨by omega, hj, by omega⟩
theorem pw_astore_10 {v0 v1 v2 v3 v4 v5 v6 v7 v8 v9 : Option Value} {o : Option Value} {t : List (Option Value)} {x : Nat} (d : decode (mB M) pc = .ok (.astore 10, 2)) (hn : 10 < mL M) (k : PW X M b1 b2 (pc + 2) (v0 :: v1 :: v2 :: v3 :: v4 :: v5 :: v6 :: v7 :: v8 :: v9 :: some (.ref x) :: t) st σ μ Q) (h1 : pw_c1 v9 = v9 := by rfl) : PW X M b1 b2 pc (v0 :: v1 :: v2 :: v3 :: v4 :: v5 :: v6 :: v7 :: v8 :: v9 :: o :: t) (.ref x :: st) σ μ Q := by
  refine pw_astore_g (ls' := v0 :: v1 :: v2 :: v3 :: v4 :: v5 :: v6 :: v7 :: v8 :: v9 :: some (.ref x) :: t) d hn ?_ k
  intro j w hj
  match j, hj with
  | 0, hj => exact Or.inr ⟨by omega, hj, by omega⟩
  | 1, hj => exact Or.inr ⟨by omega, hj, by omega⟩
  | 2, hj => exact Or.inr ⟨by omega, hj, by omega⟩
  | 3, hj => exact Or.inr ⟨by omega, hj, by omega⟩
  | 4, hj => exact Or.inr ⟨by omega, hj, by omega⟩
  | 5, hj => exact Or.inr ⟨by omega, hj, by omega⟩
  | 6, hj => exact Or.inr ⟨by omega, hj, by omega⟩
  | 7, hj => exact Or.inr ⟨by omega, hj, by omega⟩
  | 8, hj => exact Or.inr ⟨by omega, hj, by omega⟩
  | 9, hj => exact Or.inr ⟨by omega, hj, fun _ => pw_c1_2 h1 (Option.some.inj hj)⟩
  | 10, hj => exact Or.inl ⟨rfl, (Option.some.inj (Option.some.inj hj)).symm⟩
  | j + 11, hj => exact Or.inr ⟨by omega, hj, by omega⟩
theorem pw_astore_11 {v0 v1 v2 v3 v4 v5 v6 v7 v8 v9 v10 : Option Value} {o : Option Value} {t : List (Option Value)} {x : Nat} (d : decode (mB M) pc = .ok (.astore 11, 2)) (hn : 11 < mL M) (k : PW X M b1 b2 (pc + 2) (v0 :: v1 :: v2 :: v3 :: v4 :: v5 :: v6 :: v7 :: v8 :: v9 :: v10 :: some (.ref x) :: t) st σ μ Q) (h1 : pw_c1 v10 = v10 := by rfl) : PW X M b1 b2 pc (v0 :: v1 :: v2 :: v3 :: v4 :: v5 :: v6 :: v7 :: v8 :: v9 :: v10 :: o :: t) (.ref x :: st) σ μ Q := by
  refine pw_astore_g (ls' := v0 :: v1 :: v2 :: v3 :: v4 :: v5 :: v6 :: v7 :: v8 :: v9 :: v10 :: some (.ref x) :: t) d hn ?_ k
  intro j w hj
  match j, hj with
  | 0, hj => exact Or.inr ⟨by omega, hj, by omega⟩
  | 1, hj => exact Or.inr ⟨by omega, hj, by omega⟩
  | 2, hj => exact Or.inr ⟨by omega, hj, by omega⟩
  | 3, hj => exact Or.inr ⟨by omega, hj, by omega⟩
  | 4, hj => exact Or.inr ⟨by omega, hj, by omega⟩
  | 5, hj => exact Or.inr ⟨by omega, hj, by omega⟩
  | 6, hj => exact Or.inr ⟨by omega, hj, by omega⟩
  | 7, hj => exact Or.inr ⟨by omega, hj, by omega⟩
  | 8, hj => exact Or.inr ⟨by omega, hj, by omega⟩
  | 9, hj => exact Or.inr ⟨by omega, hj, by omega⟩
  | 10, hj => exact Or.inr ⟨by omega, hj, fun _ => pw_c1_2 h1 (Option.some.inj hj)⟩
  | 11, hj => exact Or.inl ⟨rfl, (Option.some.inj (Option.some.inj hj)).symm⟩
  | j + 12, hj => exact Or.inr ⟨by omega, hj, by omega⟩
theorem pw_astore_12 {v0 v1 v2 v3 v4 v5 v6 v7 v8 v9 v10 v11 : Option Value} {o : Option Value} {t : List (Option Value)} {x : Nat} (d : decode (mB M) pc = .ok (.astore 12, 2)) (hn : 12 < mL M) (k : PW X M b1 b2 (pc + 2) (v0 :: v1 :: v2 :: v3 :: v4 :: v5 :: v6 :: v7 :: v8 :: v9 :: v10 :: v11 :: some (.ref x) :: t) st σ μ Q) (h1 : pw_c1 v11 = v11 := by rfl) : PW X M b1 b2 pc (v0 :: v1 :: v2 :: v3 :: v4 :: v5 :: v6 :: v7 :: v8 :: v9 :: v10 :: v11 :: o :: t) (.ref x :: st) σ μ Q := by
  refine pw_astore_g (ls' := v0 :: v1 :: v2 :: v3 :: v4 :: v5 :: v6 :: v7 :: v8 :: v9 :: v10 :: v11 :: some (.ref x) :: t) d hn ?_ k
  intro j w hj
  match j, hj with
  | 0, hj => exact Or.inr ⟨by omega, hj, by omega⟩
  | 1, hj => exact Or.inr ⟨by omega, hj, by omega⟩
  | 2, hj => exact Or.inr ⟨by omega, hj, by omega⟩
  | 3, hj => exact Or.inr ⟨by omega, hj, by omega⟩
  | 4, hj => exact Or.inr ⟨by omega, hj, by omega⟩
  | 5, hj => exact Or.inr ⟨by omega, hj, by omega⟩
  | 6, hj => exact Or.inr ⟨by omega, hj, by omega⟩
  | 7, hj => exact Or.inr ⟨by omega, hj, by omega⟩
  | 8, hj => exact Or.inr ⟨by omega, hj, by omega⟩
  | 9, hj => exact Or.inr ⟨by omega, hj, by omega⟩
  | 10, hj => exact Or.inr ⟨by omega, hj, by omega⟩
  | 11, hj => exact Or.inr ⟨by omega, hj, fun _ => pw_c1_2 h1 (Option.some.inj hj)⟩
  | 12, hj => exact Or.inl ⟨rfl, (Option.some.inj (Option.some.inj hj)).symm⟩
  | j + 13, hj => exact Or.inr ⟨by omega, hj, by omega⟩
theorem pw_astore_13 {v0 v1 v2 v3 v4 v5 v6 v7 v8 v9 v10 v11 v12 : Option Value} {o : Option Value} {t : List (Option Value)} {x : Nat} (d : decode (mB M) pc = .ok (.astore 13, 2)) (hn : 13 < mL M) (k : PW X M b1 b2 (pc + 2) (v0 :: v1 :: v2 :: v3 :: v4 :: v5 :: v6 :: v7 :: v8 :: v9 :: v10 :: v11 :: v12 :: some (.ref x) :: t) st σ μ Q) (h1 : pw_c1 v12 = v12 := by rfl) : PW X M b1 b2 pc (v0 :: v1 :: v2 :: v3 :: v4 :: v5 :: v6 :: v7 :: v8 :: v9 :: v10 :: v11 :: v12 :: o :: t) (.ref x :: st) σ μ Q := by
  refine pw_astore_g (ls' := v0 :: v1 :: v2 :: v3 :: v4 :: v5 :: v6 :: v7 :: v8 :: v9 :: v10 :: v11 :: v12 :: some (.ref x) :: t) d hn ?_ k
  intro j w hj
  match j, hj with
  | 0, hj => exact Or.inr ⟨by omega, hj, by omega⟩
  | 1, hj => exact Or.inr ⟨by omega, hj, by omega⟩
  | 2, hj => exact Or.inr ⟨by omega, hj, by omega⟩
  | 3, hj => exact Or.inr ⟨by omega, hj, by omega⟩
  | 4, hj => exact Or.inr ⟨by omega, hj, by omega⟩
  | 5, hj => exact Or.inr ⟨by omega, hj, by omega⟩
  | 6, hj => exact Or.inr ⟨by omega, hj, by omega⟩
  | 7, hj => exact Or.inr ⟨by omega, hj, by omega⟩
  | 8, hj => exact Or.inr ⟨by omega, hj, by omega⟩
  | 9, hj => exact Or.inr ⟨by omega, hj, by omega⟩
  | 10, hj => exact Or.inr ⟨by omega, hj, by omega⟩
  | 11, hj => exact Or.inr ⟨by omega, hj, by omega⟩
  | 12, hj => exact Or.inr ⟨by omega, hj, fun _ => pw_c1_2 h1 (Option.some.inj hj)⟩
  | 13, hj => exact Or.inl ⟨rfl, (Option.some.inj (Option.some.inj hj)).symm⟩
  | j + 14, hj => exact Or.inr ⟨by omega, hj, by omega⟩
theorem pw_astore_14 {v0 v1 v2 v3 v4 v5 v6 v7 v8 v9 v10 v11 v12 v13 : Option Value} {o : Option Value} {t : List (Option Value)} {x : Nat} (d : decode (mB M) pc = .ok (.astore 14, 2)) (hn : 14 < mL M) (k : PW X M b1 b2 (pc + 2) (v0 :: v1 :: v2 :: v3 :: v4 :: v5 :: v6 :: v7 :: v8 :: v9 :: v10 :: v11 :: v12 :: v13 :: some (.ref x) :: t) st σ μ Q) (h1 : pw_c1 v13 = v13 := by rfl) : PW X M b1 b2 pc (v0 :: v1 :: v2 :: v3 :: v4 :: v5 :: v6 :: v7 :: v8 :: v9 :: v10 :: v11 :: v12 :: v13 :: o :: t) (.ref x :: st) σ μ Q := by
  refine pw_astore_g (ls' := v0 :: v1 :: v2 :: v3 :: v4 :: v5 :: v6 :: v7 :: v8 :: v9 :: v10 :: v11 :: v12 :: v13 :: some (.ref x) :: t) d hn ?_ k
  intro j w hj
  match j, hj with
  | 0, hj => exact Or.inr ⟨by omega, hj, by omega⟩
  | 1, hj => exact Or.inr ⟨by omega, hj, by omega⟩
  | 2, hj => exact Or.inr ⟨by omega, hj, by omega⟩
  | 3, hj => exact Or.inr ⟨by omega, hj, by omega⟩
  | 4, hj => exact Or.inr ⟨by omega, hj, by omega⟩
  | 5, hj => exact Or.inr ⟨by omega, hj, by omega⟩
  | 6, hj => exact Or.inr ⟨by omega, hj, by omega⟩
  | 7, hj => exact Or.inr ⟨by omega, hj, by omega⟩
  | 8, hj => exact Or.inr ⟨by omega, hj, by omega⟩
  | 9, hj => exact Or.inr ⟨by omega, hj, by omega⟩
  | 10, hj => exact Or.inr ⟨by omega, hj, by omega⟩
  | 11, hj => exact Or.inr ⟨by omega, hj, by omega⟩
  | 12, hj => exact Or.inr ⟨by omega, hj, by omega⟩
  | 13, hj => exact Or.inr ⟨by omega, hj, fun _ => pw_c1_2 h1 (Option.some.inj hj)⟩
  | 14, hj => exact Or.inl ⟨rfl, (Option.some.inj (Option.some.inj hj)).symm⟩
  | j + 15, hj => exact Or.inr ⟨by omega, hj, by omega⟩
theorem pw_astore_15 {v0 v1 v2 v3 v4 v5 v6 v7 v8 v9 v10 v11 v12 v13 v14 : Option Value} {o : Option Value} {t : List (Option Value)} {x : Nat} (d : decode (mB M) pc = .ok (.astore 15, 2)) (hn : 15 < mL M) (k : PW X M b1 b2 (pc + 2) (v0 :: v1 :: v2 :: v3 :: v4 :: v5 :: v6 :: v7 :: v8 :: v9 :: v10 :: v11 :: v12 :: v13 :: v14 :: some (.ref x) :: t) st σ μ Q) (h1 : pw_c1 v14 = v14 := by rfl) : PW X M b1 b2 pc (v0 :: v1 :: v2 :: v3 :: v4 :: v5 :: v6 :: v7 :: v8 :: v9 :: v10 :: v11 :: v12 :: v13 :: v14 :: o :: t) (.ref x :: st) σ μ Q := by
  refine pw_astore_g (ls' := v0 :: v1 :: v2 :: v3 :: v4 :: v5 :: v6 :: v7 :: v8 :: v9 :: v10 :: v11 :: v12 :: v13 :: v14 :: some (.ref x) :: t) d hn ?_ k
  intro j w hj
  match j, hj with
  | 0, hj => exact Or.inr ⟨by omega, hj, by omega⟩
  | 1, hj => exact Or.inr ⟨by omega, hj, by omega⟩
  | 2, hj => exact Or.inr ⟨by omega, hj, by omega⟩
  | 3, hj => exact Or.inr ⟨by omega, hj, by omega⟩
  | 4, hj => exact Or.inr ⟨by omega, hj, by omega⟩
  | 5, hj => exact Or.inr ⟨by omega, hj, by omega⟩
  | 6, hj => exact Or.inr ⟨by omega, hj, by omega⟩
  | 7, hj => exact Or.inr ⟨by omega, hj, by omega⟩
  | 8, hj => exact Or.inr ⟨by omega, hj, by omega⟩
  | 9, hj => exact Or.inr ⟨by omega, hj, by omega⟩
  | 10, hj => exact Or.inr ⟨by omega, hj, by omega⟩
  | 11, hj => exact Or.inr ⟨by omega, hj, by omega⟩
  | 12, hj => exact Or.inr ⟨by omega, hj, by omega⟩
  | 13, hj => exact Or.inr ⟨by omega, hj, by omega⟩
  | 14, hj => exact Or.inr ⟨by omega, hj, fun _ => pw_c1_2 h1 (Option.some.inj hj)⟩
  | 15, hj => exact Or.inl ⟨rfl, (Option.some.inj (Option.some.inj hj)).symm⟩
  | j + 16, hj => exact Or.inr ⟨by omega, hj, by omega⟩
theorem pw_astore_16 {v0 v1 v2 v3 v4 v5 v6 v7 v8 v9 v10 v11 v12 v13 v14 v15 : Option Value} {o : Option Value} {t : List (Option Value)} {x : Nat} (d : decode (mB M) pc = .ok (.astore 16, 2)) (hn : 16 < mL M) (k : PW X M b1 b2 (pc + 2) (v0 :: v1 :: v2 :: v3 :: v4 :: v5 :: v6 :: v7 :: v8 :: v9 :: v10 :: v11 :: v12 :: v13 :: v14 :: v15 :: some (.ref x) :: t) st σ μ Q) (h1 : pw_c1 v15 = v15 := by rfl) : PW X M b1 b2 pc (v0 :: v1 :: v2 :: v3 :: v4 :: v5 :: v6 :: v7 :: v8 :: v9 :: v10 :: v11 :: v12 :: v13 :: v14 :: v15 :: o :: t) (.ref x :: st) σ μ Q := by
  refine pw_astore_g (ls' := v0 :: v1 :: v2 :: v3 :: v4 :: v5 :: v6 :: v7 :: v8 :: v9 :: v10 :: v11 :: v12 :: v13 :: v14 :: v15 :: some (.ref x) :: t) d hn ?_ k
  intro j w hj
  match j, hj with
  | 0, hj => exact Or.inr ⟨by omega, hj, by omega⟩
  | 1, hj => exact Or.inr ⟨by omega, hj, by omega⟩
  | 2, hj => exact Or.inr ⟨by omega, hj, by omega⟩
  | 3, hj => exact Or.inr ⟨by omega, hj, by omega⟩
  | 4, hj => exact Or.inr ⟨by omega, hj, by omega⟩
  | 5, hj => exact Or.inr ⟨by omega, hj, by omega⟩
  | 6, hj => exact Or.inr ⟨by omega, hj, by omega⟩
  | 7, hj => exact Or.inr ⟨by omega, hj, by omega⟩
  | 8, hj => exact Or.inr ⟨by omega, hj, by omega⟩
  | 9, hj => exact Or.inr ⟨by omega, hj, by omega⟩
  | 10, hj => exact Or.inr ⟨by omega, hj, by omega⟩
  | 11, hj => exact Or.inr ⟨by omega, hj, by omega⟩
  | 12, hj => exact Or.inr ⟨by omega, hj, by omega⟩
  | 13, hj => exact Or.inr ⟨by omega, hj, by omega⟩
  | 14, hj => exact Or.inr ⟨by omega, hj, by omega⟩
  | 15, hj => exact Or.inr ⟨by omega, hj, fun _ => pw_c1_2 h1 (Option.some.inj hj)⟩
  | 16, hj => exact Or.inl ⟨rfl, (Option.some.inj (Option.some.inj hj)).symm⟩
  | j + 17, hj => exact Or.inr ⟨by omega, hj, by omega⟩
theorem pw_astore_17 {v0 v1 v2 v3 v4 v5 v6 v7 v8 v9 v10 v11 v12 v13 v14 v15 v16 : Option Value} {o : Option Value} {t : List (Option Value)} {x : Nat} (d : decode (mB M) pc = .ok (.astore 17, 2)) (hn : 17 < mL M) (k : PW X M b1 b2 (pc + 2) (v0 :: v1 :: v2 :: v3 :: v4 :: v5 :: v6 :: v7 :: v8 :: v9 :: v10 :: v11 :: v12 :: v13 :: v14 :: v15 :: v16 :: some (.ref x) :: t) st σ μ Q) (h1 : pw_c1 v16 = v16 := by rfl) : PW X M b1 b2 pc (v0 :: v1 :: v2 :: v3 :: v4 :: v5 :: v6 :: v7 :: v8 :: v9 :: v10 :: v11 :: v12 :: v13 :: v14 :: v15 :: v16 :: o :: t) (.ref x :: st) σ μ Q := by
  refine pw_astore_g (ls' := v0 :: v1 :: v2 :: v3 :: v4 :: v5 :: v6 :: v7 :: v8 :: v9 :: v10 :: v11 :: v12 :: v13 :: v14 :: v15 :: v16 :: some (.ref x) :: t) d hn ?_ k
  intro j w hj
  match j, hj with
  | 0, hj => exact Or.inr ⟨by omega, hj, by omega⟩
  | 1, hj => exact Or.inr ⟨by omega, hj, by omega⟩
  | 2, hj => exact Or.inr ⟨by omega, hj, by omega⟩
  | 3, hj => exact Or.inr ⟨by omega, hj, by omega⟩
  | 4, hj => exact Or.inr ⟨by omega, hj, by omega⟩
  | 5, hj => exact Or.inr ⟨by omega, hj, by omega⟩
  | 6, hj => exact Or.inr ⟨by omega, hj, by omega⟩
  | 7, hj => exact Or.inr ⟨by omega, hj, by omega⟩
  | 8, hj => exact Or.inr ⟨by omega, hj, by omega⟩
  | 9, hj => exact Or.inr ⟨by omega, hj, by omega⟩
  | 10, hj => exact Or.inr ⟨by omega, hj, by omega⟩
  | 11, hj => exact Or.inr ⟨by omega, hj, by omega⟩
  | 12, hj => exact Or.inr ⟨by omega, hj, by omega⟩
  | 13, hj => exact Or.inr ⟨by omega, hj, by omega⟩
  | 14, hj => exact Or.inr ⟨by omega, hj, by omega⟩
  | 15, hj => exact Or.inr ⟨by omega, hj, by omega⟩
  | 16, hj => exact Or.inr ⟨by omega, hj, fun _ => pw_c1_2 h1 (Option.some.inj hj)⟩
  | 17, hj => exact Or.inl ⟨rfl, (Option.some.inj (Option.some.inj hj)).symm⟩
  | j + 18, hj => exact Or.inr ⟨by omega, hj, by omega⟩
theorem pw_astore_18 {v0 v1 v2 v3 v4 v5 v6 v7 v8 v9 v10 v11 v12 v13 v14 v15 v16 v17 : Option Value} {o : Option Value} {t : List (Option Value)} {x : Nat} (d : decode (mB M) pc = .ok (.astore 18, 2)) (hn : 18 < mL M) (k : PW X M b1 b2 (pc + 2) (v0 :: v1 :: v2 :: v3 :: v4 :: v5 :: v6 :: v7 :: v8 :: v9 :: v10 :: v11 :: v12 :: v13 :: v14 :: v15 :: v16 :: v17 :: some (.ref x) :: t) st σ μ Q) (h1 : pw_c1 v17 = v17 := by rfl) : PW X M b1 b2 pc (v0 :: v1 :: v2 :: v3 :: v4 :: v5 :: v6 :: v7 :: v8 :: v9 :: v10 :: v11 :: v12 :: v13 :: v14 :: v15 :: v16 :: v17 :: o :: t) (.ref x :: st) σ μ Q := by
  refine pw_astore_g (ls' := v0 :: v1 :: v2 :: v3 :: v4 :: v5 :: v6 :: v7 :: v8 :: v9 :: v10 :: v11 :: v12 :: v13 :: v14 :: v15 :: v16 :: v17 :: some (.ref x) :: t) d hn ?_ k
  intro j w hj
  match j, hj with
  | 0, hj => exact Or.inr ⟨by omega, hj, by omega⟩
  | 1, hj => exact Or.inr ⟨by omega, hj, by omega⟩
  | 2, hj => exact Or.inr ⟨by omega, hj, by omega⟩
  | 3, hj => exact Or.inr ⟨by omega, hj, by omega⟩
  | 4, hj => exact Or.inr ⟨by omega, hj, by omega⟩
  | 5, hj => exact Or.inr ⟨by omega, hj, by omega⟩
  | 6, hj => exact Or.inr ⟨by omega, hj, by omega⟩
  | 7, hj => exact Or.inr ⟨by omega, hj, by omega⟩
  | 8, hj => exact Or.inr ⟨by omega, hj, by omega⟩
  | 9, hj => exact Or.inr ⟨by omega, hj, by omega⟩
  | 10, hj => exact Or.inr ⟨by omega, hj, by omega⟩
  | 11, hj => exact Or.inr ⟨by omega, hj, by omega⟩
  | 12, hj => exact Or.inr ⟨by omega, hj, by omega⟩
  | 13, hj => exact Or.inr ⟨by omega, hj, by omega⟩
  | 14, hj => exact Or.inr ⟨by omega, hj, by omega⟩
  | 15, hj => exact Or.inr ⟨by omega, hj, by omega⟩
  | 16, hj => exact Or.inr ⟨by omega, hj, by omega⟩
  | 17, hj => exact Or.inr ⟨by omega, hj, fun _ => pw_c1_2 h1 (Option.some.inj hj)⟩
  | 18, hj => exact Or.inl ⟨rfl, (Option.some.inj (Option.some.inj hj)).symm⟩
  | j + 19, hj => exact Or.inr ⟨by omega, hj, by omega⟩
theorem pw_astore_19 {v0 v1 v2 v3 v4 v5 v6 v7 v8 v9 v10 v11 v12 v13 v14 v15 v16 v17 v18 : Option Value} {o : Option Value} {t : List (Option Value)} {x : Nat} (d : decode (mB M) pc = .ok (.astore 19, 2)) (hn : 19 < mL M) (k : PW X M b1 b2 (pc + 2) (v0 :: v1 :: v2 :: v3 :: v4 :: v5 :: v6 :: v7 :: v8 :: v9 :: v10 :: v11 :: v12 :: v13 :: v14 :: v15 :: v16 :: v17 :: v18 :: some (.ref x) :: t) st σ μ Q) (h1 : pw_c1 v18 = v18 := by rfl) : PW X M b1 b2 pc (v0 :: v1 :: v2 :: v3 :: v4 :: v5 :: v6 :: v7 :: v8 :: v9 :: v10 :: v11 :: v12 :: v13 :: v14 :: v15 :: v16 :: v17 :: v18 :: o :: t) (.ref x :: st) σ μ Q := by
  refine pw_astore_g (ls' := v0 :: v1 :: v2 :: v3 :: v4 :: v5 :: v6 :: v7 :: v8 :: v9 :: v10 :: v11 :: v12 :: v13 :: v14 :: v15 :: v16 :: v17 :: v18 :: some (.ref x) :: t) d hn ?_ k
  intro j w hj
  match j, hj with
  | 0, hj => exact Or.inr ⟨by omega, hj, by omega⟩
  | 1, hj => exact Or.inr ⟨by omega, hj, by omega⟩
  | 2, hj => exact Or.inr ⟨by omega, hj, by omega⟩
  | 3, hj => exact Or.inr ⟨by omega, hj, by omega⟩
  | 4, hj => exact Or.inr ⟨by omega, hj, by omega⟩
  | 5, hj => exact Or.inr ⟨by omega, hj, by omega⟩
  | 6, hj => exact Or.inr ⟨by omega, hj, by omega⟩
  | 7, hj => exact Or.inr ⟨by omega, hj, by omega⟩
  | 8, hj => exact Or.inr ⟨by omega, hj, by omega⟩
  | 9, hj => exact Or.inr ⟨by omega, hj, by omega⟩
  | 10, hj => exact Or.inr ⟨by omega, hj, by omega⟩
  | 11, hj => exact Or.inr ⟨by omega, hj, by omega⟩
  | 12, hj => exact Or.inr ⟨by omega, hj, by omega⟩
  | 13, hj => exact Or.inr ⟨by omega, hj, by omega⟩
  | 14, hj => exact Or.inr ⟨by omega, hj, by omega⟩
  | 15, hj => exact Or.inr ⟨by omega, hj, by omega⟩
  | 16, hj => exact Or.inr ⟨by omega, hj, by omega⟩
  | 17, hj => exact Or.inr ⟨by omega, hj, by omega⟩
  | 18, hj => exact Or.inr ⟨by omega, hj, fun _ => pw_c1_2 h1 (Option.some.inj hj)⟩
  | 19, hj => exact Or.inl ⟨rfl, (Option.some.inj (Option.some.inj hj)).symm⟩
  | j + 20, hj => exact Or.inr ⟨by omega, hj, by omega⟩
theorem pw_astore_20 {v0 v1 v2 v3 v4 v5 v6 v7 v8 v9 v10 v11 v12 v13 v14 v15 v16 v17 v18 v19 : Option Value} {o : Option Value} {t : List (Option Value)} {x : Nat} (d : decode (mB M) pc = .ok (.astore 20, 2)) (hn : 20 < mL M) (k : PW X M b1 b2 (pc + 2) (v0 :: v1 :: v2 :: v3 :: v4 :: v5 :: v6 :: v7 :: v8 :: v9 :: v10 :: v11 :: v12 :: v13 :: v14 :: v15 :: v16 :: v17 :: v18 :: v19 :: some (.ref x) :: t) st σ μ Q) (h1 : pw_c1 v19 = v19 := by rfl) : PW X M b1 b2 pc (v0 :: v1 :: v2 :: v3 :: v4 :: v5 :: v6 :: v7 :: v8 :: v9 :: v10 :: v11 :: v12 :: v13 :: v14 :: v15 :: v16 :: v17 :: v18 :: v19 :: o :: t) (.ref x :: st) σ μ Q := by
  refine pw_astore_g (ls' := v0 :: v1 :: v2 :: v3 :: v4 :: v5 :: v6 :: v7 :: v8 :: v9 :: v10 :: v11 :: v12 :: v13 :: v14 :: v15 :: v16 :: v17 :: v18 :: v19 :: some (.ref x) :: t) d hn ?_ k
  intro j w hj
  match j, hj with
  | 0, hj => exact Or.inr ⟨by omega, hj, by omega⟩
  | 1, hj => exact Or.inr ⟨by omega, hj, by omega⟩
  | 2, hj => exact Or.inr ⟨by omega, hj, by omega⟩
  | 3, hj => exact Or.inr ⟨by omega, hj, by omega⟩
  | 4, hj => exact Or.inr ⟨by omega, hj, by omega⟩
  | 5, hj => exact Or.inr ⟨by omega, hj, by omega⟩
  | 6, hj => exact Or.inr ⟨by omega, hj, by omega⟩
  | 7, hj => exact Or.inr ⟨by omega, hj, by omega⟩
  | 8, hj => exact Or.inr ⟨by omega, hj, by omega⟩
  | 9, hj => exact Or.inr ⟨by omega, hj, by omega⟩
  | 10, hj => exact Or.inr ⟨by omega, hj, by omega⟩
  | 11, hj => exact Or.inr ⟨by omega, hj, by omega⟩
  | 12, hj => exact Or.inr ⟨by omega, hj, by omega⟩
  | 13, hj => exact Or.inr ⟨by omega, hj, by omega⟩
  | 14, hj => exact Or.inr ⟨by omega, hj, by omega⟩
  | 15, hj => exact Or.inr ⟨by omega, hj, by omega⟩
  | 16, hj => exact Or.inr ⟨by omega, hj, by omega⟩
  | 17, hj => exact Or.inr ⟨by omega, hj, by omega⟩
  | 18, hj => exact Or.inr ⟨by omega, hj, by omega⟩
  | 19, hj => exact Or.inr ⟨by omega, hj, fun _ => pw_c1_2 h1 (Option.some.inj hj)⟩
  | 20, hj => exact Or.inl ⟨rfl, (Option.some.inj (Option.some.inj hj)).symm⟩
  | j + 21, hj => exact Or.inr ⟨by omega, hj, by omega⟩
theorem pw_astore_21 {v0 v1 v2 v3 v4 v5 v6 v7 v8 v9 v10 v11 v12 v13 v14 v15 v16 v17 v18 v19 v20 : Option Value} {o : Option Value} {t : List (Option Value)} {x : Nat} (d : decode (mB M) pc = .ok (.astore 21, 2)) (hn : 21 < mL M) (k : PW X M b1 b2 (pc + 2) (v0 :: v1 :: v2 :: v3 :: v4 :: v5 :: v6 :: v7 :: v8 :: v9 :: v10 :: v11 :: v12 :: v13 :: v14 :: v15 :: v16 :: v17 :: v18 :: v19 :: v20 :: some (.ref x) :: t) st σ μ Q) (h1 : pw_c1 v20 = v20 := by rfl) : PW X M b1 b2 pc (v0 :: v1 :: v2 :: v3 :: v4 :: v5 :: v6 :: v7 :: v8 :: v9 :: v10 :: v11 :: v12 :: v13 :: v14 :: v15 :: v16 :: v17 :: v18 :: v19 :: v20 :: o :: t) (.ref x :: st) σ μ Q := by
  refine pw_astore_g (ls' := v0 :: v1 :: v2 :: v3 :: v4 :: v5 :: v6 :: v7 :: v8 :: v9 :: v10 :: v11 :: v12 :: v13 :: v14 :: v15 :: v16 :: v17 :: v18 :: v19 :: v20 :: some (.ref x) :: t) d hn ?_ k
  intro j w hj
  match j, hj with
  | 0, hj => exact Or.inr ⟨by omega, hj, by omega⟩
  | 1, hj => exact Or.inr ⟨by omega, hj, by omega⟩
  | 2, hj => exact Or.inr ⟨by omega, hj, by omega⟩
  | 3, hj => exact Or.inr ⟨by omega, hj, by omega⟩
  | 4, hj => exact Or.inr ⟨by omega, hj, by omega⟩
  | 5, hj => exact Or.inr ⟨by omega, hj, by omega⟩
  | 6, hj => exact Or.inr ⟨by omega, hj, by omega⟩
  | 7, hj => exact Or.inr ⟨by omega, hj, by omega⟩
  | 8, hj => exact Or.inr ⟨by omega, hj, by omega⟩
  | 9, hj => exact Or.inr ⟨by omega, hj, by omega⟩
  | 10, hj => exact Or.inr ⟨by omega, hj, by omega⟩
  | 11, hj => exact Or.inr ⟨by omega, hj, by omega⟩
  | 12, hj => exact Or.inr ⟨by omega, hj, by omega⟩
  | 13, hj => exact Or.inr ⟨by omega, hj, by omega⟩
  | 14, hj => exact Or.inr ⟨by omega, hj, by omega⟩
  | 15, hj => exact Or.inr ⟨by omega, hj, by omega⟩
  | 16, hj => exact Or.inr ⟨by omega, hj, by omega⟩
  | 17, hj => exact Or.inr ⟨by omega, hj, by omega⟩
  | 18, hj => exact Or.inr ⟨by omega, hj, by omega⟩
  | 19, hj => exact Or.inr ⟨by omega, hj, by omega⟩
  | 20, hj => exact Or.inr ⟨by omega, hj, fun _ => pw_c1_2 h1 (Option.some.inj hj)⟩
  | 21, hj => exact Or.inl ⟨rfl, (Option.some.inj (Option.some.inj hj)).symm⟩
  | j + 22, hj => exact Or.inr ⟨by omega, hj, by omega⟩
theorem pw_astore_22 {v0 v1 v2 v3 v4 v5 v6 v7 v8 v9 v10 v11 v12 v13 v14 v15 v16 v17 v18 v19 v20 v21 : Option Value} {o : Option Value} {t : List (Option Value)} {x : Nat} (d : decode (mB M) pc = .ok (.astore 22, 2)) (hn : 22 < mL M) (k : PW X M b1 b2 (pc + 2) (v0 :: v1 :: v2 :: v3 :: v4 :: v5 :: v6 :: v7 :: v8 :: v9 :: v10 :: v11 :: v12 :: v13 :: v14 :: v15 :: v16 :: v17 :: v18 :: v19 :: v20 :: v21 :: some (.ref x) :: t) st σ μ Q) (h1 : pw_c1 v21 = v21 := by rfl) : PW X M b1 b2 pc (v0 :: v1 :: v2 :: v3 :: v4 :: v5 :: v6 :: v7 :: v8 :: v9 :: v10 :: v11 :: v12 :: v13 :: v14 :: v15 :: v16 :: v17 :: v18 :: v19 :: v20 :: v21 :: o :: t) (.ref x :: st) σ μ Q := by
  refine pw_astore_g (ls' := v0 :: v1 :: v2 :: v3 :: v4 :: v5 :: v6 :: v7 :: v8 :: v9 :: v10 :: v11 :: v12 :: v13 :: v14 :: v15 :: v16 :: v17 :: v18 :: v19 :: v20 :: v21 :: some (.ref x) :: t) d hn ?_ k
  intro j w hj
  match j, hj with
  | 0, hj => exact Or.inr ⟨by omega, hj, by omega⟩
  | 1, hj => exact Or.inr ⟨by omega, hj, by omega⟩
  | 2, hj => exact Or.inr ⟨by omega, hj, by omega⟩
  | 3, hj => exact Or.inr ⟨by omega, hj, by omega⟩
  | 4, hj => exact Or.inr ⟨by omega, hj, by omega⟩
  | 5, hj => exact Or.inr ⟨by omega, hj, by omega⟩
  | 6, hj => exact Or.inr ⟨by omega, hj, by omega⟩
  | 7, hj => exact Or.inr ⟨by omega, hj, by omega⟩
  | 8, hj => exact Or.inr ⟨by omega, hj, by omega⟩
  | 9, hj => exact Or.inr ⟨by omega, hj, by omega⟩
  | 10, hj => exact Or.inr ⟨by omega, hj, by omega⟩
  | 11, hj => exact Or.inr ⟨by omega, hj, by omega⟩
  | 12, hj => exact Or.inr ⟨by omega, hj, by omega⟩
  | 13, hj => exact Or.inr ⟨by omega, hj, by omega⟩
  | 14, hj => exact Or.inr ⟨by omega, hj, by omega⟩
  | 15, hj => exact Or.inr ⟨by omega, hj, by omega⟩
  | 16, hj => exact Or.inr ⟨by omega, hj, by omega⟩
  | 17, hj => exact Or.inr ⟨by omega, hj, by omega⟩
  | 18, hj => exact Or.inr ⟨by omega, hj, by omega⟩
  | 19, hj => exact Or.inr ⟨by omega, hj, by omega⟩
  | 20, hj => exact Or.inr ⟨by omega, hj, by omega⟩
  | 21, hj => exact Or.inr ⟨by omega, hj, fun _ => pw_c1_2 h1 (Option.some.inj hj)⟩
  | 22, hj => exact Or.inl ⟨rfl, (Option.some.inj (Option.some.inj hj)).symm⟩
  | j + 23, hj => exact Or.inr ⟨by omega, hj, by omega⟩
theorem pw_astore_23 {v0 v1 v2 v3 v4 v5 v6 v7 v8 v9 v10 v11 v12 v13 v14 v15 v16 v17 v18 v19 v20 v21 v22 : Option Value} {o : Option Value} {t : List (Option Value)} {x : Nat} (d : decode (mB M) pc = .ok (.astore 23, 2)) (hn : 23 < mL M) (k : PW X M b1 b2 (pc + 2) (v0 :: v1 :: v2 :: v3 :: v4 :: v5 :: v6 :: v7 :: v8 :: v9 :: v10 :: v11 :: v12 :: v13 :: v14 :: v15 :: v16 :: v17 :: v18 :: v19 :: v20 :: v21 :: v22 :: some (.ref x) :: t) st σ μ Q) (h1 : pw_c1 v22 = v22 := by rfl) : PW X M b1 b2 pc (v0 :: v1 :: v2 :: v3 :: v4 :: v5 :: v6 :: v7 :: v8 :: v9 :: v10 :: v11 :: v12 :: v13 :: v14 :: v15 :: v16 :: v17 :: v18 :: v19 :: v20 :: v21 :: v22 :: o :: t) (.ref x :: st) σ μ Q := by
  refine pw_astore_g (ls' := v0 :: v1 :: v2 :: v3 :: v4 :: v5 :: v6 :: v7 :: v8 :: v9 :: v10 :: v11 :: v12 :: v13 :: v14 :: v15 :: v16 :: v17 :: v18 :: v19 :: v20 :: v21 :: v22 :: some (.ref x) :: t) d hn ?_ k
  intro j w hj
  match j, hj with
  | 0, hj => exact Or.inr ⟨by omega, hj, by omega⟩
  | 1, hj => exact Or.inr ⟨by omega, hj, by omega⟩
  | 2, hj => exact Or.inr ⟨by omega, hj, by omega⟩
  | 3, hj => exact Or.inr ⟨by omega, hj, by omega⟩
  | 4, hj => exact Or.inr ⟨by omega, hj, by omega⟩
  | 5, hj => exact Or.inr ⟨by omega, hj, by omega⟩
  | 6, hj => exact Or.inr ⟨by omega, hj, by omega⟩
  | 7, hj => exact Or.inr ⟨by omega, hj, by omega⟩
  | 8, hj => exact Or.inr ⟨by omega, hj, by omega⟩
  | 9, hj => exact Or.inr ⟨by omega, hj, by omega⟩
  | 10, hj => exact Or.inr ⟨by omega, hj, by omega⟩
  | 11, hj => exact Or.inr ⟨by omega, hj, by omega⟩
  | 12, hj => exact Or.inr ⟨by omega, hj, by omega⟩
  | 13, hj => exact Or.inr ⟨by omega, hj, by omega⟩
  | 14, hj => exact Or.inr ⟨by omega, hj, by omega⟩
  | 15, hj => exact Or.inr ⟨by omega, hj, by omega⟩
  | 16, hj => exact Or.inr ⟨by omega, hj, by omega⟩
  | 17, hj => exact Or.inr ⟨by omega, hj, by omega⟩
  | 18, hj => exact Or.inr ⟨by omega, hj, by omega⟩
  | 19, hj => exact Or.inr ⟨by omega, hj, by omega⟩
  | 20, hj => exact Or.inr ⟨by omega, hj, by omega⟩
  | 21, hj => exact Or.inr ⟨by omega, hj, by omega⟩
  | 22, hj => exact Or.inr ⟨by omega, hj, fun _ => pw_c1_2 h1 (Option.some.inj hj)⟩
  | 23, hj => exact Or.inl ⟨rfl, (Option.some.inj (Option.some.inj hj)).symm⟩
  | j + 24, hj => exact Or.inr ⟨by omega, hj, by omega⟩
theorem pw_astore_24 {v0 v1 v2 v3 v4 v5 v6 v7 v8 v9 v10 v11 v12 v13 v14 v15 v16 v17 v18 v19 v20 v21 v22 v23 : Option Value} {o : Option Value} {t : List (Option Value)} {x : Nat} (d : decode (mB M) pc = .ok (.astore 24, 2)) (hn : 24 < mL M) (k : PW X M b1 b2 (pc + 2) (v0 :: v1 :: v2 :: v3 :: v4 :: v5 :: v6 :: v7 :: v8 :: v9 :: v10 :: v11 :: v12 :: v13 :: v14 :: v15 :: v16 :: v17 :: v18 :: v19 :: v20 :: v21 :: v22 :: v23 :: some (.ref x) :: t) st σ μ Q) (h1 : pw_c1 v23 = v23 := by rfl) : PW X M b1 b2 pc (v0 :: v1 :: v2 :: v3 :: v4 :: v5 :: v6 :: v7 :: v8 :: v9 :: v10 :: v11 :: v12 :: v13 :: v14 :: v15 :: v16 :: v17 :: v18 :: v19 :: v20 :: v21 :: v22 :: v23 :: o :: t) (.ref x :: st) σ μ Q := by
  refine pw_astore_g (ls' := v0 :: v1 :: v2 :: v3 :: v4 :: v5 :: v6 :: v7 :: v8 :: v9 :: v10 :: v11 :: v12 :: v13 :: v14 :: v15 :: v16 :: v17 :: v18 :: v19 :: v20 :: v21 :: v22 :: v23 :: some (.ref x) :: t) d hn ?_ k
  intro j w hj
  match j, hj with
  | 0, hj => exact Or.inr ⟨by omega, hj, by omega⟩
  | 1, hj => exact Or.inr ⟨by omega, hj, by omega⟩
  | 2, hj => exact Or.inr ⟨by omega, hj, by omega⟩
  | 3, hj => exact Or.inr ⟨by omega, hj, by omega⟩
  | 4, hj => exact Or.inr ⟨by omega, hj, by omega⟩
  | 5, hj => exact Or.inr ⟨by omega, hj, by omega⟩
  | 6, hj => exact Or.inr ⟨by omega, hj, by omega⟩
  | 7, hj => exact Or.inr ⟨by omega, hj, by omega⟩
  | 8, hj => exact Or.inr ⟨by omega, hj, by omega⟩
  | 9, hj => exact Or.inr ⟨by omega, hj, by omega⟩
  | 10, hj => exact Or.inr ⟨by omega, hj, by omega⟩
  | 11, hj => exact Or.inr ⟨by omega, hj, by omega⟩
  | 12, hj => exact Or.inr ⟨by omega, hj, by omega⟩
  | 13, hj => exact Or.inr ⟨by omega, hj, by omega⟩
  | 14, hj => exact Or.inr ⟨by omega, hj, by omega⟩
  | 15, hj => exact Or.inr ⟨by omega, hj, by omega⟩
  | 16, hj => exact Or.inr ⟨by omega, hj, by omega⟩
  | 17, hj => exact Or.inr ⟨by omega, hj, by omega⟩
  | 18, hj => exact Or.inr ⟨by omega, hj, by omega⟩
  | 19, hj => exact Or.inr ⟨by omega, hj, by omega⟩
  | 20, hj => exact Or.inr ⟨by omega, hj, by omega⟩
  | 21, hj => exact Or.inr ⟨by omega, hj, by omega⟩
  | 22, hj => exact Or.inr ⟨by omega, hj, by omega⟩
  | 23, hj => exact Or.inr ⟨by omega, hj, fun _ => pw_c1_2 h1 (Option.some.inj hj)⟩
  | 24, hj => exact Or.inl ⟨rfl, (Option.some.inj (Option.some.inj hj)).symm⟩
  | j + 25, hj => exact Or.inr ⟨by omega, hj, by omega⟩
theorem pw_astore_25 {v0 v1 v2 v3 v4 v5 v6 v7 v8 v9 v10 v11 v12 v13 v14 v15 v16 v17 v18 v19 v20 v21 v22 v23 v24 : Option Value} {o : Option Value} {t : List (Option Value)} {x : Nat} (d : decode (mB M) pc = .ok (.astore 25, 2)) (hn : 25 < mL M) (k : PW X M b1 b2 (pc + 2) (v0 :: v1 :: v2 :: v3 :: v4 :: v5 :: v6 :: v7 :: v8 :: v9 :: v10 :: v11 :: v12 :: v13 :: v14 :: v15 :: v16 :: v17 :: v18 :: v19 :: v20 :: v21 :: v22 :: v23 :: v24 :: some (.ref x) :: t) st σ μ Q) (h1 : pw_c1 v24 = v24 := by rfl) : PW X M b1 b2 pc (v0 :: v1 :: v2 :: v3 :: v4 :: v5 :: v6 :: v7 :: v8 :: v9 :: v10 :: v11 :: v12 :: v13 :: v14 :: v15 :: v16 :: v17 :: v18 :: v19 :: v20 :: v21 :: v22 :: v23 :: v24 :: o :: t) (.ref x :: st) σ μ Q := by
  refine pw_astore_g (ls' := v0 :: v1 :: v2 :: v3 :: v4 :: v5 :: v6 :: v7 :: v8 :: v9 :: v10 :: v11 :: v12 :: v13 :: v14 :: v15 :: v16 :: v17 :: v18 :: v19 :: v20 :: v21 :: v22 :: v23 :: v24 :: some (.ref x) :: t) d hn ?_ k
  intro j w hj
  match j, hj with
  | 0, hj => exact Or.inr ⟨by omega, hj, by omega⟩
  | 1, hj => exact Or.inr ⟨by omega, hj, by omega⟩
  | 2, hj => exact Or.inr ⟨by omega, hj, by omega⟩
  | 3, hj => exact Or.inr ⟨by omega, hj, by omega⟩
  | 4, hj => exact Or.inr ⟨by omega, hj, by omega⟩
  | 5, hj => exact Or.inr ⟨by omega, hj, by omega⟩
  | 6, hj => exact Or.inr ⟨by omega, hj, by omega⟩
  | 7, hj => exact Or.inr ⟨by omega, hj, by omega⟩
  | 8, hj => exact Or.inr ⟨by omega, hj, by omega⟩
  | 9, hj => exact Or.inr ⟨by omega, hj, by omega⟩
  | 10, hj => exact Or.inr ⟨by omega, hj, by omega⟩
  | 11, hj => exact Or.inr ⟨by omega, hj, by omega⟩
  | 12, hj => exact Or.inr ⟨by omega, hj, by omega⟩
  | 13, hj => exact Or.inr ⟨by omega, hj, by omega⟩
  | 14, hj => exact Or.inr ⟨by omega, hj, by omega⟩
  | 15, hj => exact Or.inr ⟨by omega, hj, by omega⟩
  | 16, hj => exact Or.inr ⟨by omega, hj, by omega⟩
  | 17, hj => exact Or.inr ⟨by omega, hj, by omega⟩
  | 18, hj => exact Or.inr ⟨by omega, hj, by omega⟩
  | 19, hj => exact Or.inr ⟨by omega, hj, by omega⟩
  | 20, hj => exact Or.inr ⟨by omega, hj, by omega⟩
  | 21, hj => exact Or.inr ⟨by omega, hj, by omega⟩
  | 22, hj => exact Or.inr ⟨by omega, hj, by omega⟩
  | 23, hj => exact Or.inr ⟨by omega, hj, by omega⟩
  | 24, hj => exact Or.inr ⟨by omega, hj, fun _ => pw_c1_2 h1 (Option.some.inj hj)⟩
  | 25, hj => exact Or.inl ⟨rfl, (Option.some.inj (Option.some.inj hj)).symm⟩
  | j + 26, hj => exact Or.inr ⟨by omega, hj, by omega⟩
theorem pw_astore_26 {v0 v1 v2 v3 v4 v5 v6 v7 v8 v9 v10 v11 v12 v13 v14 v15 v16 v17 v18 v19 v20 v21 v22 v23 v24 v25 : Option Value} {o : Option Value} {t : List (Option Value)} {x : Nat} (d : decode (mB M) pc = .ok (.astore 26, 2)) (hn : 26 < mL M) (k : PW X M b1 b2 (pc + 2) (v0 :: v1 :: v2 :: v3 :: v4 :: v5 :: v6 :: v7 :: v8 :: v9 :: v10 :: v11 :: v12 :: v13 :: v14 :: v15 :: v16 :: v17 :: v18 :: v19 :: v20 :: v21 :: v22 :: v23 :: v24 :: v25 :: some (.ref x) :: t) st σ μ Q) (h1 : pw_c1 v25 = v25 := by rfl) : PW X M b1 b2 pc (v0 :: v1 :: v2 :: v3 :: v4 :: v5 :: v6 :: v7 :: v8 :: v9 :: v10 :: v11 :: v12 :: v13 :: v14 :: v15 :: v16 :: v17 :: v18 :: v19 :: v20 :: v21 :: v22 :: v23 :: v24 :: v25 :: o :: t) (.ref x :: st) σ μ Q := by
  refine pw_astore_g (ls' := v0 :: v1 :: v2 :: v3 :: v4 :: v5 :: v6 :: v7 :: v8 :: v9 :: v10 :: v11 :: v12 :: v13 :: v14 :: v15 :: v16 :: v17 :: v18 :: v19 :: v20 :: v21 :: v22 :: v23 :: v24 :: v25 :: some (.ref x) :: t) d hn ?_ k
  intro j w hj
  match j, hj with
  | 0, hj => exact Or.inr ⟨by omega, hj, by omega⟩
  | 1, hj => exact Or.inr ⟨by omega, hj, by omega⟩
  | 2, hj => exact Or.inr ⟨by omega, hj, by omega⟩
  | 3, hj => exact Or.inr ⟨by omega, hj, by omega⟩
  | 4, hj => exact Or.inr ⟨by omega, hj, by omega⟩
  | 5, hj => exact Or.inr ⟨by omega, hj, by omega⟩
  | 6, hj => exact Or.inr ⟨by omega, hj, by omega⟩
  | 7, hj => exact Or.inr ⟨by omega, hj, by omega⟩
  | 8, hj => exact Or.inr ⟨by omega, hj, by omega⟩
  | 9, hj => exact Or.inr ⟨by omega, hj, by omega⟩
  | 10, hj => exact Or.inr ⟨by omega, hj, by omega⟩
  | 11, hj => exact Or.inr ⟨by omega, hj, by omega⟩
  | 12, hj => exact Or.inr ⟨by omega, hj, by omega⟩
  | 13, hj => exact Or.inr ⟨by omega, hj, by omega⟩
  | 14, hj => exact Or.inr ⟨by omega, hj, by omega⟩
  | 15, hj => exact Or.inr ⟨by omega, hj, by omega⟩
  | 16, hj => exact Or.inr ⟨by omega, hj, by omega⟩
  | 17, hj => exact Or.inr ⟨by omega, hj, by omega⟩
  | 18, hj => exact Or.inr ⟨by omega, hj, by omega⟩
  | 19, hj => exact Or.inr ⟨by omega, hj, by omega⟩
  | 20, hj => exact Or.inr ⟨by omega, hj, by omega⟩
  | 21, hj => exact Or.inr ⟨by omega, hj, by omega⟩
  | 22, hj => exact Or.inr ⟨by omega, hj, by omega⟩
  | 23, hj => exact Or.inr ⟨by omega, hj, by omega⟩
  | 24, hj => exact Or.inr ⟨by omega, hj, by omega⟩
  | 25, hj => exact Or.inr ⟨by omega, hj, fun _ => pw_c1_2 h1 (Option.some.inj hj)⟩
  | 26, hj => exact Or.inl ⟨rfl, (Option.some.inj (Option.some.inj hj)).symm⟩
  | j + 27, hj => exact Or.inr ⟨by omega, hj, by omega⟩
theorem pw_lstore_0 {o o2 : Option Value} {t : List (Option Value)} {x : Int64} (d : decode (mB M) pc = .ok (.lstore_n 0, 1)) (hn : 0 + 1 < mL M) (k : PW X M b1 b2 (pc + 1) (some (.long x) :: none :: t) st σ μ Q) : PW X M b1 b2 pc (o :: o2 :: t) (.long x :: st) σ μ Q := by
  intro p e R s m args below meth c H locs cells slots ar Z B S P F L c1 c2 K
  refine lv_lstore_n B.1 B.2.1 d rfl (pw_Lal L) hn rfl (fun ar' h => k p e R s m args below meth c H locs cells slots ar' Z B S P F (pw_Lset2 (ls' := some (.long x) :: none :: t) h ?_) c1 c2 K)
  intro j w hj
  match j, hj with
  | 0, hj => exact Or.inl ⟨rfl, (Option.some.inj (Option.some.inj hj)).symm⟩
  | 1, hj => cases Option.some.inj hj
  | j + 2, hj => exact Or.inr ⟨by omega, by omega, hj, by omega⟩
theorem pw_lstore_1 {v0 : Option Value} {o o2 : Option Value} {t : List (Option Value)} {x : Int64} (d : decode (mB M) pc = .ok (.lstore_n 1, 1)) (hn : 1 + 1 < mL M) (k : PW X M b1 b2 (pc + 1) (v0 :: some (.long x) :: none :: t) st σ μ Q) (h1 : pw_c1 v0 = v0 := by rfl) : PW X M b1 b2 pc (v0 :: o :: o2 :: t) (.long x :: st) σ μ Q := by
  intro p e R s m args below meth c H locs cells slots ar Z B S P F L c1 c2 K
  refine lv_lstore_n B.1 B.2.1 d rfl (pw_Lal L) hn rfl (fun ar' h => k p e R s m args below meth c H locs cells slots ar' Z B S P F (pw_Lset2 (ls' := v0 :: some (.long x) :: none :: t) h ?_) c1 c2 K)
  intro j w hj
  match j, hj with
  | 0, hj => exact Or.inr ⟨by omega, by omega, hj, fun _ => pw_c1_2 h1 (Option.some.inj hj)⟩
  | 1, hj => exact Or.inl ⟨rfl, (Option.some.inj (Option.some.inj hj)).symm⟩
  | 2, hj => cases Option.some.inj hj
  | j + 3, hj => exact Or.inr ⟨by omega, by omega, hj, by omega⟩
theorem pw_lstore_2 {v0 v1 : Option Value} {o o2 : Option Value} {t : List (Option Value)} {x : Int64} (d : decode (mB M) pc = .ok (.lstore_n 2, 1)) (hn : 2 + 1 < mL M) (k : PW X M b1 b2 (pc + 1) (v0 :: v1 :: some (.long x) :: none :: t) st σ μ Q) (h1 : pw_c1 v1 = v1 := by rfl) : PW X M b1 b2 pc (v0 :: v1 :: o :: o2 :: t) (.long x :: st) σ μ Q := by
  intro p e R s m args below meth c H locs cells slots ar Z B S P F L c1 c2 K
  refine lv_lstore_n B.1 B.2.1 d rfl (pw_Lal L) hn rfl (fun ar' h => k p e R s m args below meth c H locs cells slots ar' Z B S P F (pw_Lset2 (ls' := v0 :: v1 :: some (.long x) :: none :: t) h ?_) c1 c2 K)
  intro j w hj
  match j, hj with
  | 0, hj => exact Or.inr ⟨by omega, by omega, hj, by omega⟩
  | 1, hj => exact Or.inr ⟨by omega, by omega, hj, fun _ => pw_c1_2 h1 (Option.some.inj hj)⟩
  | 2, hj => exact Or.inl ⟨rfl, (Option.some.inj (Option.some.inj hj)).symm⟩
  | 3, hj => cases Option.some.inj hj
  | j + 4, hj => exact Or.inr ⟨by omega, by omega, hj, by omega⟩
theorem pw_lstore_3 {v0 v1 v2 : Option Value} {o o2 : Option Value} {t : List (Option Value)} {x : Int64} (d : decode (mB M) pc = .ok (.lstore_n 3, 1)) (hn : 3 + 1 < mL M) (k : PW X M b1 b2 (pc + 1) (v0 :: v1 :: v2 :: some (.long x) :: none :: t) st σ μ Q) (h1 : pw_c1 v2 = v2 := by rfl) : PW X M b1 b2 pc (v0 :: v1 :: v2 :: o :: o2 :: t) (.long x :: st) σ μ Q := by
  intro p e R s m args below meth c H locs cells slots ar Z B S P F L c1 c2 K
  refine lv_lstore_n B.1 B.2.1 d rfl (pw_Lal L) hn rfl (fun ar' h => k p e R s m args below meth c H locs cells slots ar' Z B S P F (pw_Lset2 (ls' := v0 :: v1 :: v2 :: some (.long x) :: none :: t) h ?_) c1 c2 K)
  intro j w hj
  match j, hj with
  | 0, hj => exact Or.inr ⟨by omega, by omega, hj, by omega⟩
  | 1, hj => exact Or.inr ⟨by omega, by omega, hj, by omega⟩
  | 2, hj => exact Or.inr ⟨by omega, by omega, hj, fun _ => pw_c1_2 h1 (Option.some.inj hj)⟩
  | 3, hj => exact Or.inl ⟨rfl, (Option.some.inj (Option.some.inj hj)).symm⟩
  | 4, hj => cases Option.some.inj hj
  | j + 5, hj => exact Or.inr ⟨by omega, by omega, hj, by omega⟩
theorem pw_lstore_4 {v0 v1 v2 v3 : Option Value} {o o2 : Option Value} {t : List (Option Value)} {x : Int64} (d : decode (mB M) pc = .ok (.lstore 4, 2)) (hn : 4 + 1 < mL M) (k : PW X M b1 b2 (pc + 2) (v0 :: v1 :: v2 :: v3 :: some (.long x) :: none :: t) st σ μ Q) (h1 : pw_c1 v3 = v3 := by rfl) : PW X M b1 b2 pc (v0 :: v1 :: v2 :: v3 :: o :: o2 :: t) (.long x :: st) σ μ Q := by
  intro p e R s m args below meth c H locs cells slots ar Z B S P F L c1 c2 K
  refine lv_lstore B.1 B.2.1 d (pw_Lal L) hn rfl (fun ar' h => k p e R s m args below meth c H locs cells slots ar' Z B S P F (pw_Lset2 (ls' := v0 :: v1 :: v2 :: v3 :: some (.long x) :: none :: t) h ?_) c1 c2 K)
  intro j w hj
  match j, hj with
  | 0, hj => exact Or.inr ⟨by omega, by omega, hj, by omega⟩
  | 1, hj => exact Or.inr ⟨by omega, by omega, hj, by omega⟩
  | 2, hj => exact Or.inr ⟨by omega, by omega, hj, by omega⟩
  | 3, hj => exact Or.inr ⟨by omega, by omega, hj, fun _ => pw_c1_2 h1 (Option.some.inj hj)⟩
  | 4, hj => exact Or.inl ⟨rfl, (Option.some.inj (Option.some.inj hj)).symm⟩
  | 5, hj => cases Option.some.inj hj
  | j + 6, hj => exact Or.inr ⟨by omega, by omega, hj, by omega⟩
theorem pw_lstore_5 {v0 v1 v2 v3 v4 : Option Value} {o o2 : Option Value} {t : List (Option Value)} {x : Int64} (d : decode (mB M) pc = .ok (.lstore 5, 2)) (hn : 5 + 1 < mL M) (k : PW X M b1 b2 (pc + 2) (v0 :: v1 :: v2 :: v3 :: v4 :: some (.long x) :: none :: t) st σ μ Q) (h1 : pw_c1 v4 = v4 := by rfl) : PW X M b1 b2 pc (v0 :: v1 :: v2 :: v3 :: v4 :: o :: o2 :: t) (.long x :: st) σ μ Q := by
  intro p e R s m args below meth c H locs cells slots ar Z B S P F L c1 c2 K
  refine lv_lstore B.1 B.2.1 d (pw_Lal L) hn rfl (fun ar' h => k p e R s m args below meth c H locs cells slots ar' Z B S P F (pw_Lset2 (ls' := v0 :: v1 :: v2 :: v3 :: v4 :: some (.long x) :: none :: t) h ?_) c1 c2 K)
  intro j w hj
  match j, hj with
  | 0, hj => exact Or.inr ⟨by omega, by omega, hj, by omega⟩
  | 1, hj => exact Or.inr ⟨by omega, by omega, hj, by omega⟩
  | 2, hj => exact Or.inr ⟨by omega, by omega, hj, by omega⟩
  | 3, hj => exact Or.inr ⟨by omega, by omega, hj, by omega⟩
  | 4, hj => exact Or.inr ⟨by omega, by omega, hj, fun _ => pw_c1_2 h1 (Option.some.inj hj)⟩
  | 5, hj => exact Or.inl ⟨rfl, (Option.some.inj (Option.some.inj hj)).symm⟩
  | 6, hj => cases Option.some.inj hj
  | j + 7, hj => exact Or.inr ⟨by omega, by omega, hj, by omega⟩
theorem pw_iinc_g {i : Nat} {n : Int} {x : Int32} {ls' : List (Option Value)} (d : decode (mB M) pc = .ok (.iinc i n, 3)) (hx : ls[i]? = some (some (.int x))) (hn : i < mL M) (hl : ∀ (j : Nat) (w : Value), ls'[j]? = some (some w) → (j = i ∧ w = .int (x + Int32.ofInt n)) ∨ (j ≠ i ∧ ls[j]? = some (some w) ∧ (j + 1 = i → w.category ≠ 2))) (k : PW X M b1 b2 (pc + 3) ls' st σ μ Q) : PW X M b1 b2 pc ls st σ μ Q := by
  intro p e R s m args below meth c H locs cells slots ar Z B S P F L c1 c2 K
  obtain ⟨q, hq⟩ := List.getElem?_of_mem (pw_al_mem.mpr hx)
  exact lv_iinc B.1 B.2.1 d (pw_Lal L) hq rfl hn rfl (fun ar' h => k p e R s m args below meth c H locs cells slots ar' Z B S P F (pw_Lset1 h hl) c1 c2 K)
theorem pw_iinc_0 {t : List (Option Value)} {n : Int} {x y : Int32} (d : decode (mB M) pc = .ok (.iinc 0 n, 3)) (hy : Int32.ofInt n = y) (hn : 0 < mL M) (k : PW X M b1 b2 (pc + 3) (some (.int (x + y)) :: t) st σ μ Q) : PW X M b1 b2 pc (some (.int x) :: t) st σ μ Q := by
  subst hy
  refine pw_iinc_g (ls' := some (.int (x + Int32.ofInt n)) :: t) d rfl hn ?_ k
  intro j w hj
  match j, hj with
  | 0, hj => exact Or.inl ⟨rfl, (Option.some.inj (Option.some.inj hj)).symm⟩
  | j + 1, hj => exact Or.inr ⟨by omega, hj, by omega⟩
theorem pw_iinc_1 {v0 : Option Value} {t : List (Option Value)} {n : Int} {x y : Int32} (d : decode (mB M) pc = .ok (.iinc 1 n, 3)) (hy : Int32.ofInt n = y) (hn : 1 < mL M) (k : PW X M b1 b2 (pc + 3) (v0 :: some (.int (x + y)) :: t) st σ μ Q) (h1 : pw_c1 v0 = v0 := by rfl) : PW X M b1 b2 pc (v0 :: some (.int x) :: t) st σ μ Q := by
  subst hy
  refine pw_iinc_g (ls' := v0 :: some (.int (x + Int32.ofInt n)) :: t) d rfl hn ?_ k
  intro j w hj
  match j, hj with
  | 0, hj => exact Or.inr ⟨by omega, hj, fun _ => pw_c1_2 h1 (Option.some.inj hj)⟩
  | 1, hj => exact Or.inl ⟨rfl, (Option.some.inj (Option.some.inj hj)).symm⟩
  | j + 2, hj => exact Or.inr ⟨by omega, hj, by omega⟩
theorem pw_iinc_2 {v0 v1 : Option Value} {t : List (Option Value)} {n : Int} {x y : Int32} (d : decode (mB M) pc = .ok (.iinc 2 n, 3)) (hy : Int32.ofInt n = y) (hn : 2 < mL M) (k : PW X M b1 b2 (pc + 3) (v0 :: v1 :: some (.int (x + y)) :: t) st σ μ Q) (h1 : pw_c1 v1 = v1 := by rfl) : PW X M b1 b2 pc (v0 :: v1 :: some (.int x) :: t) st σ μ Q := by
  subst hy
  refine pw_iinc_g (ls' := v0 :: v1 :: some (.int (x + Int32.ofInt n)) :: t) d rfl hn ?_ k
  intro j w hj
  match j, hj with
  | 0, hj => exact Or.inr ⟨by omega, hj, by omega⟩
  | 1, hj => exact Or.inr ⟨by omega, hj, fun _ => pw_c1_2 h1 (Option.some.inj hj)⟩
  | 2, hj => exact Or.inl ⟨rfl, (Option.some.inj (Option.some.inj hj)).symm⟩
  | j + 3, hj => exact Or.inr ⟨by omega, hj, by omega⟩
theorem pw_iinc_3 {v0 v1 v2 : Option Value} {t : List (Option Value)} {n : Int} {x y : Int32} (d : decode (mB M) pc = .ok (.iinc 3 n, 3)) (hy : Int32.ofInt n = y) (hn : 3 < mL M) (k : PW X M b1 b2 (pc + 3) (v0 :: v1 :: v2 :: some (.int (x + y)) :: t) st σ μ Q) (h1 : pw_c1 v2 = v2 := by rfl) : PW X M b1 b2 pc (v0 :: v1 :: v2 :: some (.int x) :: t) st σ μ Q := by
  subst hy
  refine pw_iinc_g (ls' := v0 :: v1 :: v2 :: some (.int (x + Int32.ofInt n)) :: t) d rfl hn ?_ k
  intro j w hj
  match j, hj with
  | 0, hj => exact Or.inr ⟨by omega, hj, by omega⟩
  | 1, hj => exact Or.inr ⟨by omega, hj, by omega⟩
  | 2, hj => exact Or.inr ⟨by omega, hj, fun _ => pw_c1_2 h1 (Option.some.inj hj)⟩
  | 3, hj => exact Or.inl ⟨rfl, (Option.some.inj (Option.some.inj hj)).symm⟩
  | j + 4, hj => exact Or.inr ⟨by omega, hj, by omega⟩
theorem pw_iinc_4 {v0 v1 v2 v3 : Option Value} {t : List (Option Value)} {n : Int} {x y : Int32} (d : decode (mB M) pc = .ok (.iinc 4 n, 3)) (hy : Int32.ofInt n = y) (hn : 4 < mL M) (k : PW X M b1 b2 (pc + 3) (v0 :: v1 :: v2 :: v3 :: some (.int (x + y)) :: t) st σ μ Q) (h1 : pw_c1 v3 = v3 := by rfl) : PW X M b1 b2 pc (v0 :: v1 :: v2 :: v3 :: some (.int x) :: t) st σ μ Q := by
  subst hy
  refine pw_iinc_g (ls' := v0 :: v1 :: v2 :: v3 :: some (.int (x + Int32.ofInt n)) :: t) d rfl hn ?_ k
  intro j w hj
  match j, hj with
  | 0, hj => exact Or.inr ⟨by omega, hj, by omega⟩
  | 1, hj => exact Or.inr ⟨by omega, hj, by omega⟩
  | 2, hj => exact Or.inr ⟨by omega, hj, by omega⟩
  | 3, hj => exact Or.inr ⟨by omega, hj, fun _ => pw_c1_2 h1 (Option.some.inj hj)⟩
  | 4, hj => exact Or.inl ⟨rfl, (Option.some.inj (Option.some.inj hj)).symm⟩
  | j + 5, hj => exact Or.inr ⟨by omega, hj, by omega⟩
theorem pw_iinc_5 {v0 v1 v2 v3 v4 : Option Value} {t : List (Option Value)} {n : Int} {x y : Int32} (d : decode (mB M) pc = .ok (.iinc 5 n, 3)) (hy : Int32.ofInt n = y) (hn : 5 < mL M) (k : PW X M b1 b2 (pc + 3) (v0 :: v1 :: v2 :: v3 :: v4 :: some (.int (x + y)) :: t) st σ μ Q) (h1 : pw_c1 v4 = v4 := by rfl) : PW X M b1 b2 pc (v0 :: v1 :: v2 :: v3 :: v4 :: some (.int x) :: t) st σ μ Q := by
  subst hy
  refine pw_iinc_g (ls' := v0 :: v1 :: v2 :: v3 :: v4 :: some (.int (x + Int32.ofInt n)) :: t) d rfl hn ?_ k
  intro j w hj
  match j, hj with
  | 0, hj => exact Or.inr ⟨by omega, hj, by omega⟩
  | 1, hj => exact Or.inr ⟨by omega, hj, by omega⟩
  | 2, hj => exact Or.inr ⟨by omega, hj, by omega⟩
  | 3, hj => exact Or.inr ⟨by omega, hj, by omega⟩
  | 4, hj => exact Or.inr ⟨by omega, hj, fun _ => pw_c1_2 h1 (Option.some.inj hj)⟩
  | 5, hj => exact Or.inl ⟨rfl, (Option.some.inj (Option.some.inj hj)).symm⟩
  | j + 6, hj => exact Or.inr ⟨by omega, hj, by omega⟩
theorem pw_iinc_6 {v0 v1 v2 v3 v4 v5 : Option Value} {t : List (Option Value)} {n : Int} {x y : Int32} (d : decode (mB M) pc = .ok (.iinc 6 n, 3)) (hy : Int32.ofInt n = y) (hn : 6 < mL M) (k : PW X M b1 b2 (pc + 3) (v0 :: v1 :: v2 :: v3 :: v4 :: v5 :: some (.int (x + y)) :: t) st σ μ Q) (h1 : pw_c1 v5 = v5 := by rfl) : PW X M b1 b2 pc (v0 :: v1 :: v2 :: v3 :: v4 :: v5 :: some (.int x) :: t) st σ μ Q := by
  subst hy
  refine pw_iinc_g (ls' := v0 :: v1 :: v2 :: v3 :: v4 :: v5 :: some (.int (x + Int32.ofInt n)) :: t) d rfl hn ?_ k
  intro j w hj
  match j, hj with
  | 0, hj => exact Or.inr ⟨by omega, hj, by omega⟩
  | 1, hj => exact Or.inr ⟨by omega, hj, by omega⟩
  | 2, hj => exact Or.inr ⟨by omega, hj, by omega⟩
  | 3, hj => exact Or.inr ⟨by omega, hj, by omega⟩
  | 4, hj => exact Or.inr ⟨by omega, hj, by omega⟩
  | 5, hj => exact Or.inr ⟨by omega, hj, fun _ => pw_c1_2 h1 (Option.some.inj hj)⟩
  | 6, hj => exact Or.inl ⟨rfl, (Option.some.inj (Option.some.inj hj)).symm⟩
  | j + 7, hj => exact Or.inr ⟨by omega, hj, by omega⟩
theorem pw_iinc_7 {v0 v1 v2 v3 v4 v5 v6 : Option Value} {t : List (Option Value)} {n : Int} {x y : Int32} (d : decode (mB M) pc = .ok (.iinc 7 n, 3)) (hy : Int32.ofInt n = y) (hn : 7 < mL M) (k : PW X M b1 b2 (pc + 3) (v0 :: v1 :: v2 :: v3 :: v4 :: v5 :: v6 :: some (.int (x + y)) :: t) st σ μ Q) (h1 : pw_c1 v6 = v6 := by rfl) : PW X M b1 b2 pc (v0 :: v1 :: v2 :: v3 :: v4 :: v5 :: v6 :: some (.int x) :: t) st σ μ Q := by
  subst hy
  refine pw_iinc_g (ls' := v0 :: v1 :: v2 :: v3 :: v4 :: v5 :: v6 :: some (.int (x + Int32.ofInt n)) :: t) d rfl hn ?_ k
  intro j w hj
  match j, hj with
  | 0, hj => exact Or.inr ⟨by omega, hj, by omega⟩
  | 1, hj => exact Or.inr ⟨by omega, hj, by omega⟩
  | 2, hj => exact Or.inr ⟨by omega, hj, by omega⟩
  | 3, hj => exact Or.inr ⟨by omega, hj, by omega⟩
  | 4, hj => exact Or.inr ⟨by omega, hj, by omega⟩
  | 5, hj => exact Or.inr ⟨by omega, hj, by omega⟩
  | 6, hj => exact Or.inr ⟨by omega, hj, fun _ => pw_c1_2 h1 (Option.some.inj hj)⟩
  | 7, hj => exact Or.inl ⟨rfl, (Option.some.inj (Option.some.inj hj)).symm⟩
  | j + 8, hj => exact Or.inr ⟨by omega, hj, by omega⟩
theorem pw_iinc_8 {v0 v1 v2 v3 v4 v5 v6 v7 : Option Value} {t : List (Option Value)} {n : Int} {x y : Int32} (d : decode (mB M) pc = .ok (.iinc 8 n, 3)) (hy : Int32.ofInt n = y) (hn : 8 < mL M) (k : PW X M b1 b2 (pc + 3) (v0 :: v1 :: v2 :: v3 :: v4 :: v5 :: v6 :: v7 :: some (.int (x + y)) :: t) st σ μ Q) (h1 : pw_c1 v7 = v7 := by rfl) : PW X M b1 b2 pc (v0 :: v1 :: v2 :: v3 :: v4 :: v5 :: v6 :: v7 :: some (.int x) :: t) st σ μ Q := by
  subst hy
  refine pw_iinc_g (ls' := v0 :: v1 :: v2 :: v3 :: v4 :: v5 :: v6 :: v7 :: some (.int (x + Int32.ofInt n)) :: t) d rfl hn ?_ k
  intro j w hj
  match j, hj with
  | 0, hj => exact Or.inr ⟨by omega, hj, by omega⟩
  | 1, hj => exact Or.inr ⟨by omega, hj, by omega⟩
  | 2, hj => exact Or.inr ⟨by omega, hj, by omega⟩
  | 3, hj => exact Or.inr ⟨by omega, hj, by omega⟩
  | 4, hj => exact Or.inr ⟨by omega, hj, by omega⟩
  | 5, hj => exact Or.inr ⟨by omega, hj, by omega⟩
  | 6, hj => exact Or.inr ⟨by omega, hj, by omega⟩
  | 7, hj => exact Or.inr ⟨by omega, hj, fun _ => pw_c1_2 h1 (Option.some.inj hj)⟩
  | 8, hj => exact Or.inl ⟨rfl, (Option.some.inj (Option.some.inj hj)).symm⟩
  | j + 9, hj => exact Or.inr ⟨by omega, hj, by omega⟩
theorem pw_iinc_9 {v0 v1 v2 v3 v4 v5 v6 v7 v8 : Option Value} {t : List (Option Value)} {n : Int} {x y : Int32} (d : decode (mB M) pc = .ok (.iinc 9 n, 3)) (hy : Int32.ofInt n = y) (hn : 9 < mL M) (k : PW X M b1 b2 (pc + 3) (v0 :: v1 :: v2 :: v3 :: v4 :: v5 :: v6 :: v7 :: v8 :: some (.int (x + y)) :: t) st σ μ Q) (h1 : pw_c1 v8 = v8 := by rfl) : PW X M b1 b2 pc (v0 :: v1 :: v2 :: v3 :: v4 :: v5 :: v6 :: v7 :: v8 :: some (.int x) :: t) st σ μ Q := by
  subst hy
  refine pw_iinc_g (ls' := v0 :: v1 :: v2 :: v3 :: v4 :: v5 :: v6 :: v7 :: v8 :: some (.int (x + Int32.ofInt n)) :: t) d rfl hn ?_ k
  intro j w hj
  match j, hj with
  | 0, hj => exact Or.inr ⟨by omega, hj, by omega⟩
  | 1, hj => exact Or.inr ⟨by omega, hj, by omega⟩
  | 2, hj => exact Or.inr ⟨by omega, hj, by omega⟩
  | 3, hj => exact Or.inr ⟨by omega, hj, by omega⟩
  | 4, hj => exact Or.inr ⟨by omega, hj, by omega⟩
  | 5, hj => exact Or.inr ⟨by omega, hj, by omega⟩
  | 6, hj => exact Or.inr ⟨by omega, hj, by omega⟩
  | 7, hj => exact Or.inr ⟨by omega, hj, by omega⟩
  | 8, hj => exact Or.inr ⟨by omega, hj, fun _ => pw_c1_2 h1 (Option.some.inj hj)⟩
  | 9, hj => exact Or.inl ⟨rfl, (Option.some.inj (Option.some.inj hj)).symm⟩
  | j + 10, hj => exact Or.inr ⟨by omega, hj, by omega⟩
theorem pw_iinc_10 {v0 v1 v2 v3 v4 v5 v6 v7 v8 v9 : Option Value} {t : List (Option Value)} {n : Int} {x y : Int32} (d : decode (mB M) pc = .ok (.iinc 10 n, 3)) (hy : Int32.ofInt n = y) (hn : 10 < mL M) (k : PW X M b1 b2 (pc + 3) (v0 :: v1 :: v2 :: v3 :: v4 :: v5 :: v6 :: v7 :: v8 :: v9 :: some (.int (x + y)) :: t) st σ μ Q) (h1 : pw_c1 v9 = v9 := by rfl) : PW X M b1 b2 pc (v0 :: v1 :: v2 :: v3 :: v4 :: v5 :: v6 :: v7 :: v8 :: v9 :: some (.int x) :: t) st σ μ Q := by
  subst hy
  refine pw_iinc_g (ls' := v0 :: v1 :: v2 :: v3 :: v4 :: v5 :: v6 :: v7 :: v8 :: v9 :: some (.int (x + Int32.ofInt n)) :: t) d rfl hn ?_ k
  intro j w hj
  match j, hj with
  | 0, hj => exact Or.inr ⟨by omega, hj, by omega⟩
  | 1, hj => exact Or.inr ⟨by omega, hj, by omega⟩
  | 2, hj => exact Or.inr ⟨by omega, hj, by omega⟩
  | 3, hj => exact Or.inr ⟨by omega, hj, by omega⟩
  | 4, hj => exact Or.inr ⟨by omega, hj, by omega⟩
  | 5, hj => exact Or.inr ⟨by omega, hj, by omega⟩
  | 6, hj => exact Or.inr ⟨by omega, hj, by omega⟩
  | 7, hj => exact Or.inr ⟨by omega, hj, by omega⟩
  | 8, hj => exact Or.inr ⟨by omega, hj, by omega⟩
  | 9, hj => exact Or.inr ⟨by omega, hj, fun _ => pw_c1_2 h1 (Option.some.inj hj)⟩
  | 10, hj => exact Or.inl ⟨rfl, (Option.some.inj (Option.some.inj hj)).symm⟩
  | j + 11, hj => exact Or.inr ⟨by omega, hj, by omega⟩
theorem pw_iinc_11 {v0 v1 v2 v3 v4 v5 v6 v7 v8 v9 v10 : Option Value} {t : List (Option Value)} {n : Int} {x y : Int32} (d : decode (mB M) pc = .ok (.iinc 11 n, 3)) (hy : Int32.ofInt n = y) (hn : 11 < mL M) (k : PW X M b1 b2 (pc + 3) (v0 :: v1 :: v2 :: v3 :: v4 :: v5 :: v6 :: v7 :: v8 :: v9 :: v10 :: some (.int (x + y)) :: t) st σ μ Q) (h1 : pw_c1 v10 = v10 := by rfl) : PW X M b1 b2 pc (v0 :: v1 :: v2 :: v3 :: v4 :: v5 :: v6 :: v7 :: v8 :: v9 :: v10 :: some (.int x) :: t) st σ μ Q := by
  subst hy
  refine pw_iinc_g (ls' := v0 :: v1 :: v2 :: v3 :: v4 :: v5 :: v6 :: v7 :: v8 :: v9 :: v10 :: some (.int (x + Int32.ofInt n)) :: t) d rfl hn ?_ k
  intro j w hj
  match j, hj with
  | 0, hj => exact Or.inr ⟨by omega, hj, by omega⟩
  | 1, hj => exact Or.inr ⟨by omega, hj, by omega⟩
  | 2, hj => exact Or.inr ⟨by omega, hj, by omega⟩
  | 3, hj => exact Or.inr ⟨by omega, hj, by omega⟩
  | 4, hj => exact Or.inr ⟨by omega, hj, by omega⟩
  | 5, hj => exact Or.inr ⟨by omega, hj, by omega⟩
  | 6, hj => exact Or.inr ⟨by omega, hj, by omega⟩
  | 7, hj => exact Or.inr ⟨by omega, hj, by omega⟩
  | 8, hj => exact Or.inr ⟨by omega, hj, by omega⟩
  | 9, hj => exact Or.inr ⟨by omega, hj, by omega⟩
  | 10, hj => exact Or.inr ⟨by omega, hj, fun _ => pw_c1_2 h1 (Option.some.inj hj)⟩
  | 11, hj => exact Or.inl ⟨rfl, (Option.some.inj (Option.some.inj hj)).symm⟩
  | j + 12, hj => exact Or.inr ⟨by omega, hj, by omega⟩
theorem pw_iinc_12 {v0 v1 v2 v3 v4 v5 v6 v7 v8 v9 v10 v11 : Option Value} {t : List (Option Value)} {n : Int} {x y : Int32} (d : decode (mB M) pc = .ok (.iinc 12 n, 3)) (hy : Int32.ofInt n = y) (hn : 12 < mL M) (k : PW X M b1 b2 (pc + 3) (v0 :: v1 :: v2 :: v3 :: v4 :: v5 :: v6 :: v7 :: v8 :: v9 :: v10 :: v11 :: some (.int (x + y)) :: t) st σ μ Q) (h1 : pw_c1 v11 = v11 := by rfl) : PW X M b1 b2 pc (v0 :: v1 :: v2 :: v3 :: v4 :: v5 :: v6 :: v7 :: v8 :: v9 :: v10 :: v11 :: some (.int x) :: t) st σ μ Q := by
  subst hy
  refine pw_iinc_g (ls' := v0 :: v1 :: v2 :: v3 :: v4 :: v5 :: v6 :: v7 :: v8 :: v9 :: v10 :: v11 :: some (.int (x + Int32.ofInt n)) :: t) d rfl hn ?_ k
  intro j w hj
  match j, hj with
  | 0, hj => exact Or.inr ⟨by omega, hj, by omega⟩
  | 1, hj => exact Or.inr ⟨by omega, hj, by omega⟩
  | 2, hj => exact Or.inr ⟨by omega, hj, by omega⟩
  | 3, hj => exact Or.inr ⟨by omega, hj, by omega⟩
  | 4, hj => exact Or.inr ⟨by omega, hj, by omega⟩
  | 5, hj => exact Or.inr ⟨by omega, hj, by omega⟩
  | 6, hj => exact Or.inr ⟨by omega, hj, by omega⟩
  | 7, hj => exact Or.inr ⟨by omega, hj, by omega⟩
  | 8, hj => exact Or.inr ⟨by omega, hj, by omega⟩
  | 9, hj => exact Or.inr ⟨by omega, hj, by omega⟩
  | 10, hj => exact Or.inr ⟨by omega, hj, by omega⟩
  | 11, hj => exact Or.inr ⟨by omega, hj, fun _ => pw_c1_2 h1 (Option.some.inj hj)⟩
  | 12, hj => exact Or.inl ⟨rfl, (Option.some.inj (Option.some.inj hj)).symm⟩
  | j + 13, hj => exact Or.inr ⟨by omega, hj, by omega⟩
theorem pw_iinc_13 {v0 v1 v2 v3 v4 v5 v6 v7 v8 v9 v10 v11 v12 : Option Value} {t : List (Option Value)} {n : Int} {x y : Int32} (d : decode (mB M) pc = .ok (.iinc 13 n, 3)) (hy : Int32.ofInt n = y) (hn : 13 < mL M) (k : PW X M b1 b2 (pc + 3) (v0 :: v1 :: v2 :: v3 :: v4 :: v5 :: v6 :: v7 :: v8 :: v9 :: v10 :: v11 :: v12 :: some (.int (x + y)) :: t) st σ μ Q) (h1 : pw_c1 v12 = v12 := by rfl) : PW X M b1 b2 pc (v0 :: v1 :: v2 :: v3 :: v4 :: v5 :: v6 :: v7 :: v8 :: v9 :: v10 :: v11 :: v12 :: some (.int x) :: t) st σ μ Q := by
  subst hy
  refine pw_iinc_g (ls' := v0 :: v1 :: v2 :: v3 :: v4 :: v5 :: v6 :: v7 :: v8 :: v9 :: v10 :: v11 :: v12 :: some (.int (x + Int32.ofInt n)) :: t) d rfl hn ?_ k
  intro j w hj
  match j, hj with
  | 0, hj => exact Or.inr ⟨by omega, hj, by omega⟩
  | 1, hj => exact Or.inr ⟨by omega, hj, by omega⟩
  | 2, hj => exact Or.inr ⟨by omega, hj, by omega⟩
  | 3, hj => exact Or.inr ⟨by omega, hj, by omega⟩
  | 4, hj => exact Or.inr ⟨by omega, hj, by omega⟩
  | 5, hj => exact Or.inr ⟨by omega, hj, by omega⟩
  | 6, hj => exact Or.inr ⟨by omega, hj, by omega⟩
  | 7, hj => exact Or.inr ⟨by omega, hj, by omega⟩
  | 8, hj => exact Or.inr ⟨by omega, hj, by omega⟩
  | 9, hj => exact Or.inr ⟨by omega, hj, by omega⟩
  | 10, hj => exact Or.inr ⟨by omega, hj, by omega⟩
  | 11, hj => exact Or.inr ⟨by omega, hj, by omega⟩
  | 12, hj => exact Or.inr ⟨by omega, hj, fun _ => pw_c1_2 h1 (Option.some.inj hj)⟩
  | 13, hj => exact Or.inl ⟨rfl, (Option.some.inj (Option.some.inj hj)).symm⟩
  | j + 14, hj => exact Or.inr ⟨by omega, hj, by omega⟩
theorem pw_iinc_14 {v0 v1 v2 v3 v4 v5 v6 v7 v8 v9 v10 v11 v12 v13 : Option Value} {t : List (Option Value)} {n : Int} {x y : Int32} (d : decode (mB M) pc = .ok (.iinc 14 n, 3)) (hy : Int32.ofInt n = y) (hn : 14 < mL M) (k : PW X M b1 b2 (pc + 3) (v0 :: v1 :: v2 :: v3 :: v4 :: v5 :: v6 :: v7 :: v8 :: v9 :: v10 :: v11 :: v12 :: v13 :: some (.int (x + y)) :: t) st σ μ Q) (h1 : pw_c1 v13 = v13 := by rfl) : PW X M b1 b2 pc (v0 :: v1 :: v2 :: v3 :: v4 :: v5 :: v6 :: v7 :: v8 :: v9 :: v10 :: v11 :: v12 :: v13 :: some (.int x) :: t) st σ μ Q := by
  subst hy
  refine pw_iinc_g (ls' := v0 :: v1 :: v2 :: v3 :: v4 :: v5 :: v6 :: v7 :: v8 :: v9 :: v10 :: v11 :: v12 :: v13 :: some (.int (x + Int32.ofInt n)) :: t) d rfl hn ?_ k
  intro j w hj
  match j, hj with
  | 0, hj => exact Or.inr ⟨by omega, hj, by omega⟩
  | 1, hj => exact Or.inr ⟨by omega, hj, by omega⟩
  | 2, hj => exact Or.inr ⟨by omega, hj, by omega⟩
  | 3, hj => exact Or.inr ⟨by omega, hj, by omega⟩
  | 4, hj => exact Or.inr ⟨by omega, hj, by omega⟩
  | 5, hj => exact Or.inr ⟨by omega, hj, by omega⟩
  | 6, hj => exact Or.inr ⟨by omega, hj, by omega⟩
  | 7, hj => exact Or.inr ⟨by omega, hj, by omega⟩
  | 8, hj => exact Or.inr ⟨by omega, hj, by omega⟩
  | 9, hj => exact Or.inr ⟨by omega, hj, by omega⟩
  | 10, hj => exact Or.inr ⟨by omega, hj, by omega⟩
  | 11, hj => exact Or.inr ⟨by omega, hj, by omega⟩
  | 12, hj => exact Or.inr ⟨by omega, hj, by omega⟩
  | 13, hj => exact Or.inr ⟨by omega, hj, fun _ => pw_c1_2 h1 (Option.some.inj hj)⟩
  | 14, hj => exact Or.inl ⟨rfl, (Option.some.inj (Option.some.inj hj)).symm⟩
  | j + 15, hj => exact Or.inr ⟨by omega, hj, by omega⟩
theorem pw_iinc_15 {v0 v1 v2 v3 v4 v5 v6 v7 v8 v9 v10 v11 v12 v13 v14 : Option Value} {t : List (Option Value)} {n : Int} {x y : Int32} (d : decode (mB M) pc = .ok (.iinc 15 n, 3)) (hy : Int32.ofInt n = y) (hn : 15 < mL M) (k : PW X M b1 b2 (pc + 3) (v0 :: v1 :: v2 :: v3 :: v4 :: v5 :: v6 :: v7 :: v8 :: v9 :: v10 :: v11 :: v12 :: v13 :: v14 :: some (.int (x + y)) :: t) st σ μ Q) (h1 : pw_c1 v14 = v14 := by rfl) : PW X M b1 b2 pc (v0 :: v1 :: v2 :: v3 :: v4 :: v5 :: v6 :: v7 :: v8 :: v9 :: v10 :: v11 :: v12 :: v13 :: v14 :: some (.int x) :: t) st σ μ Q := by
  subst hy
  refine pw_iinc_g (ls' := v0 :: v1 :: v2 :: v3 :: v4 :: v5 :: v6 :: v7 :: v8 :: v9 :: v10 :: v11 :: v12 :: v13 :: v14 :: some (.int (x + Int32.ofInt n)) :: t) d rfl hn ?_ k
  intro j w hj
  match j, hj with
  | 0, hj => exact Or.inr ⟨by omega, hj, by omega⟩
  | 1, hj => exact Or.inr ⟨by omega, hj, by omega⟩
  | 2, hj => exact Or.inr ⟨by omega, hj, by omega⟩
  | 3, hj => exact Or.inr ⟨by omega, hj, by omega⟩
  | 4, hj => exact Or.inr ⟨by omega, hj, by omega⟩
  | 5, hj => exact Or.inr ⟨by omega, hj, by omega⟩
  | 6, hj => exact Or.inr ⟨by omega, hj, by omega⟩
  | 7, hj => exact Or.inr ⟨by omega, hj, by omega⟩
  | 8, hj => exact Or.inr ⟨by omega, hj, by omega⟩
  | 9, hj => exact Or.inr ⟨by omega, hj, by omega⟩
  | 10, hj => exact Or.inr ⟨by omega, hj, by omega⟩
  | 11, hj => exact Or.inr ⟨by omega, hj, by omega⟩
  | 12, hj => exact Or.inr ⟨by omega, hj, by omega⟩
  | 13, hj => exact Or.inr ⟨by omega, hj, by omega⟩
  | 14, hj => exact Or.inr ⟨by omega, hj, fun _ => pw_c1_2 h1 (Option.some.inj hj)⟩
  | 15, hj => exact Or.inl ⟨rfl, (Option.some.inj (Option.some.inj hj)).symm⟩
  | j + 16, hj => exact Or.inr ⟨by omega, hj, by omega⟩
theorem pw_iinc_16 {v0 v1 v2 v3 v4 v5 v6 v7 v8 v9 v10 v11 v12 v13 v14 v15 : Option Value} {t : List (Option Value)} {n : Int} {x y : Int32} (d : decode (mB M) pc = .ok (.iinc 16 n, 3)) (hy : Int32.ofInt n = y) (hn : 16 < mL M) (k : PW X M b1 b2 (pc + 3) (v0 :: v1 :: v2 :: v3 :: v4 :: v5 :: v6 :: v7 :: v8 :: v9 :: v10 :: v11 :: v12 :: v13 :: v14 :: v15 :: some (.int (x + y)) :: t) st σ μ Q) (h1 : pw_c1 v15 = v15 := by rfl) : PW X M b1 b2 pc (v0 :: v1 :: v2 :: v3 :: v4 :: v5 :: v6 :: v7 :: v8 :: v9 :: v10 :: v11 :: v12 :: v13 :: v14 :: v15 :: some (.int x) :: t) st σ μ Q := by
  subst hy
  refine pw_iinc_g (ls' := v0 :: v1 :: v2 :: v3 :: v4 :: v5 :: v6 :: v7 :: v8 :: v9 :: v10 :: v11 :: v12 :: v13 :: v14 :: v15 :: some (.int (x + Int32.ofInt n)) :: t) d rfl hn ?_ k
  intro j w hj
  match j, hj with
  | 0, hj => exact Or.inr ⟨by omega, hj, by omega⟩
  | 1, hj => exact Or.inr ⟨by omega, hj, by omega⟩
  | 2, hj => exact Or.inr ⟨by omega, hj, by omega⟩
  | 3, hj => exact Or.inr ⟨by omega, hj, by omega⟩
  | 4, hj => exact Or.inr ⟨by omega, hj, by omega⟩
  | 5, hj => exact Or.inr ⟨by omega, hj, by omega⟩
  | 6, hj => exact Or.inr ⟨by omega, hj, by omega⟩
  | 7, hj => exact Or.inr ⟨by omega, hj, by omega⟩
  | 8, hj => exact Or.inr ⟨by omega, hj, by omega⟩
  | 9, hj => exact Or.inr ⟨by omega, hj, by omega⟩
  | 10, hj => exact Or.inr ⟨by omega, hj, by omega⟩
  | 11, hj => exact Or.inr ⟨by omega, hj, by omega⟩
  | 12, hj => exact Or.inr ⟨by omega, hj, by omega⟩
  | 13, hj => exact Or.inr ⟨by omega, hj, by omega⟩
  | 14, hj => exact Or.inr ⟨by omega, hj, by omega⟩
  | 15, hj => exact Or.inr ⟨by omega, hj, fun _ => pw_c1_2 h1 (Option.some.inj hj)⟩
  | 16, hj => exact Or.inl ⟨rfl, (Option.some.inj (Option.some.inj hj)).symm⟩
  | j + 17, hj => exact Or.inr ⟨by omega, hj, by omega⟩
theorem pw_iinc_17 {v0 v1 v2 v3 v4 v5 v6 v7 v8 v9 v10 v11 v12 v13 v14 v15 v16 : Option Value} {t : List (Option Value)} {n : Int} {x y : Int32} (d : decode (mB M) pc = .ok (.iinc 17 n, 3)) (hy : Int32.ofInt n = y) (hn : 17 < mL M) (k : PW X M b1 b2 (pc + 3) (v0 :: v1 :: v2 :: v3 :: v4 :: v5 :: v6 :: v7 :: v8 :: v9 :: v10 :: v11 :: v12 :: v13 :: v14 :: v15 :: v16 :: some (.int (x + y)) :: t) st σ μ Q) (h1 : pw_c1 v16 = v16 := by rfl) : PW X M b1 b2 pc (v0 :: v1 :: v2 :: v3 :: v4 :: v5 :: v6 :: v7 :: v8 :: v9 :: v10 :: v11 :: v12 :: v13 :: v14 :: v15 :: v16 :: some (.int x) :: t) st σ μ Q := by
  subst hy
  refine pw_iinc_g (ls' := v0 :: v1 :: v2 :: v3 :: v4 :: v5 :: v6 :: v7 :: v8 :: v9 :: v10 :: v11 :: v12 :: v13 :: v14 :: v15 :: v16 :: some (.int (x + Int32.ofInt n)) :: t) d rfl hn ?_ k
  intro j w hj
  match j, hj with
  | 0, hj => exact Or.inr ⟨by omega, hj, by omega⟩
  | 1, hj => exact Or.inr ⟨by omega, hj, by omega⟩
  | 2, hj => exact Or.inr ⟨by omega, hj, by omega⟩
  | 3, hj => exact Or.inr ⟨by omega, hj, by omega⟩
  | 4, hj => exact Or.inr ⟨by omega, hj, by omega⟩
  | 5, hj => exact Or.inr ⟨by omega, hj, by omega⟩
  | 6, hj => exact Or.inr ⟨by omega, hj, by omega⟩
  | 7, hj => exact Or.inr ⟨by omega, hj, by omega⟩
  | 8, hj => exact Or.inr ⟨by omega, hj, by omega⟩
  | 9, hj => exact Or.inr ⟨by omega, hj, by omega⟩
  | 10, hj => exact Or.inr ⟨by omega, hj, by omega⟩
  | 11, hj => exact Or.inr ⟨by omega, hj, by omega⟩
  | 12, hj => exact Or.inr ⟨by omega, hj, by omega⟩
  | 13, hj => exact Or.inr ⟨by omega, hj, by omega⟩
  | 14, hj => exact Or.inr ⟨by omega, hj, by omega⟩
  | 15, hj => exact Or.inr ⟨by omega, hj, by omega⟩
  | 16, hj => exact Or.inr ⟨by omega, hj, fun _ => pw_c1_2 h1 (Option.some.inj hj)⟩
  | 17, hj => exact Or.inl ⟨rfl, (Option.some.inj (Option.some.inj hj)).symm⟩
  | j + 18, hj => exact Or.inr ⟨by omega, hj, by omega⟩
theorem pw_iinc_18 {v0 v1 v2 v3 v4 v5 v6 v7 v8 v9 v10 v11 v12 v13 v14 v15 v16 v17 : Option Value} {t : List (Option Value)} {n : Int} {x y : Int32} (d : decode (mB M) pc = .ok (.iinc 18 n, 3)) (hy : Int32.ofInt n = y) (hn : 18 < mL M) (k : PW X M b1 b2 (pc + 3) (v0 :: v1 :: v2 :: v3 :: v4 :: v5 :: v6 :: v7 :: v8 :: v9 :: v10 :: v11 :: v12 :: v13 :: v14 :: v15 :: v16 :: v17 :: some (.int (x + y)) :: t) st σ μ Q) (h1 : pw_c1 v17 = v17 := by rfl) : PW X M b1 b2 pc (v0 :: v1 :: v2 :: v3 :: v4 :: v5 :: v6 :: v7 :: v8 :: v9 :: v10 :: v11 :: v12 :: v13 :: v14 :: v15 :: v16 :: v17 :: some (.int x) :: t) st σ μ Q := by
  subst hy
  refine pw_iinc_g (ls' := v0 :: v1 :: v2 :: v3 :: v4 :: v5 :: v6 :: v7 :: v8 :: v9 :: v10 :: v11 :: v12 :: v13 :: v14 :: v15 :: v16 :: v17 :: some (.int (x + Int32.ofInt n)) :: t) d rfl hn ?_ k
  intro j w hj
  match j, hj with
  | 0, hj => exact Or.inr ⟨by omega, hj, by omega⟩
  | 1, hj => exact Or.inr ⟨by omega, hj, by omega⟩
  | 2, hj => exact Or.inr ⟨by omega, hj, by omega⟩
  | 3, hj => exact Or.inr ⟨by omega, hj, by omega⟩
  | 4, hj => exact Or.inr ⟨by omega, hj, by omega⟩
  | 5, hj => exact Or.inr ⟨by omega, hj, by omega⟩
  | 6, hj => exact Or.inr ⟨by omega, hj, by omega⟩
  | 7, hj => exact Or.inr ⟨by omega, hj, by omega⟩
  | 8, hj => exact Or.inr ⟨by omega, hj, by omega⟩
  | 9, hj => exact Or.inr ⟨by omega, hj, by omega⟩
  | 10, hj => exact Or.inr ⟨by omega, hj, by omega⟩
  | 11, hj => exact Or.inr ⟨by omega, hj, by omega⟩
  | 12, hj => exact Or.inr ⟨by omega, hj, by omega⟩
  | 13, hj => exact Or.inr ⟨by omega, hj, by omega⟩
  | 14, hj => exact Or.inr ⟨by omega, hj, by omega⟩
  | 15, hj => exact Or.inr ⟨by omega, hj, by omega⟩
  | 16, hj => exact Or.inr ⟨by omega, hj, by omega⟩
  | 17, hj => exact Or.inr ⟨by omega, hj, fun _ => pw_c1_2 h1 (Option.some.inj hj)⟩
  | 18, hj => exact Or.inl ⟨rfl, (Option.some.inj (Option.some.inj hj)).symm⟩
  | j + 19, hj => exact Or.inr ⟨by omega, hj, by omega⟩
theorem pw_iinc_19 {v0 v1 v2 v3 v4 v5 v6 v7 v8 v9 v10 v11 v12 v13 v14 v15 v16 v17 v18 : Option Value} {t : List (Option Value)} {n : Int} {x y : Int32} (d : decode (mB M) pc = .ok (.iinc 19 n, 3)) (hy : Int32.ofInt n = y) (hn : 19 < mL M) (k : PW X M b1 b2 (pc + 3) (v0 :: v1 :: v2 :: v3 :: v4 :: v5 :: v6 :: v7 :: v8 :: v9 :: v10 :: v11 :: v12 :: v13 :: v14 :: v15 :: v16 :: v17 :: v18 :: some (.int (x + y)) :: t) st σ μ Q) (h1 : pw_c1 v18 = v18 := by rfl) : PW X M b1 b2 pc (v0 :: v1 :: v2 :: v3 :: v4 :: v5 :: v6 :: v7 :: v8 :: v9 :: v10 :: v11 :: v12 :: v13 :: v14 :: v15 :: v16 :: v17 :: v18 :: some (.int x) :: t) st σ μ Q := by
  subst hy
  refine pw_iinc_g (ls' := v0 :: v1 :: v2 :: v3 :: v4 :: v5 :: v6 :: v7 :: v8 :: v9 :: v10 :: v11 :: v12 :: v13 :: v14 :: v15 :: v16 :: v17 :: v18 :: some (.int (x + Int32.ofInt n)) :: t) d rfl hn ?_ k
  intro j w hj
  match j, hj with
  | 0, hj => exact Or.inr ⟨by omega, hj, by omega⟩
  | 1, hj => exact Or.inr ⟨by omega, hj, by omega⟩
  | 2, hj => exact Or.inr ⟨by omega, hj, by omega⟩
  | 3, hj => exact Or.inr ⟨by omega, hj, by omega⟩
  | 4, hj => exact Or.inr ⟨by omega, hj, by omega⟩
  | 5, hj => exact Or.inr ⟨by omega, hj, by omega⟩
  | 6, hj => exact Or.inr ⟨by omega, hj, by omega⟩
  | 7, hj => exact Or.inr ⟨by omega, hj, by omega⟩
  | 8, hj => exact Or.inr ⟨by omega, hj, by omega⟩
  | 9, hj => exact Or.inr ⟨by omega, hj, by omega⟩
  | 10, hj => exact Or.inr ⟨by omega, hj, by omega⟩
  | 11, hj => exact Or.inr ⟨by omega, hj, by omega⟩
  | 12, hj => exact Or.inr ⟨by omega, hj, by omega⟩
  | 13, hj => exact Or.inr ⟨by omega, hj, by omega⟩
  | 14, hj => exact Or.inr ⟨by omega, hj, by omega⟩
  | 15, hj => exact Or.inr ⟨by omega, hj, by omega⟩
  | 16, hj => exact Or.inr ⟨by omega, hj, by omega⟩
  | 17, hj => exact Or.inr ⟨by omega, hj, by omega⟩
  | 18, hj => exact Or.inr ⟨by omega, hj, fun _ => pw_c1_2 h1 (Option.some.inj hj)⟩
  | 19, hj => exact Or.inl ⟨rfl, (Option.some.inj (Option.some.inj hj)).symm⟩
  | j + 20, hj => exact Or.inr ⟨by omega, hj, by omega⟩
theorem pw_iinc_20 {v0 v1 v2 v3 v4 v5 v6 v7 v8 v9 v10 v11 v12 v13 v14 v15 v16 v17 v18 v19 : Option Value} {t : List (Option Value)} {n : Int} {x y : Int32} (d : decode (mB M) pc = .ok (.iinc 20 n, 3)) (hy : Int32.ofInt n = y) (hn : 20 < mL M) (k : PW X M b1 b2 (pc + 3) (v0 :: v1 :: v2 :: v3 :: v4 :: v5 :: v6 :: v7 :: v8 :: v9 :: v10 :: v11 :: v12 :: v13 :: v14 :: v15 :: v16 :: v17 :: v18 :: v19 :: some (.int (x + y)) :: t) st σ μ Q) (h1 : pw_c1 v19 = v19 := by rfl) : PW X M b1 b2 pc (v0 :: v1 :: v2 :: v3 :: v4 :: v5 :: v6 :: v7 :: v8 :: v9 :: v10 :: v11 :: v12 :: v13 :: v14 :: v15 :: v16 :: v17 :: v18 :: v19 :: some (.int x) :: t) st σ μ Q := by
  subst hy
  refine pw_iinc_g (ls' := v0 :: v1 :: v2 :: v3 :: v4 :: v5 :: v6 :: v7 :: v8 :: v9 :: v10 :: v11 :: v12 :: v13 :: v14 :: v15 :: v16 :: v17 :: v18 :: v19 :: some (.int (x + Int32.ofInt n)) :: t) d rfl hn ?_ k
  intro j w hj
  match j, hj with
  | 0, hj => exact Or.inr ⟨by omega, hj, by omega⟩
  | 1, hj => exact Or.inr ⟨by omega, hj, by omega⟩
  | 2, hj => exact Or.inr ⟨by omega, hj, by omega⟩
  | 3, hj => exact Or.inr ⟨by omega, hj, by omega⟩
  | 4, hj => exact Or.inr ⟨by omega, hj, by omega⟩
  | 5, hj => exact Or.inr ⟨by omega, hj, by omega⟩
  | 6, hj => exact Or.inr ⟨by omega, hj, by omega⟩
  | 7, hj => exact Or.inr ⟨by omega, hj, by omega⟩
  | 8, hj => exact Or.inr ⟨by omega, hj, by omega⟩
  | 9, hj => exact Or.inr ⟨by omega, hj, by omega⟩
  | 10, hj => exact Or.inr ⟨by omega, hj, by omega⟩
  | 11, hj => exact Or.inr ⟨by omega, hj, by omega⟩
  | 12, hj => exact Or.inr ⟨by omega, hj, by omega⟩
  | 13, hj => exact Or.inr ⟨by omega, hj, by omega⟩
  | 14, hj => exact Or.inr ⟨by omega, hj, by omega⟩
  | 15, hj => exact Or.inr ⟨by omega, hj, by omega⟩
  | 16, hj => exact Or.inr ⟨by omega, hj, by omega⟩
  | 17, hj => exact Or.inr ⟨by omega, hj, by omega⟩
  | 18, hj => exact Or.inr ⟨by omega, hj, by omega⟩
  | 19, hj => exact Or.inr ⟨by omega, hj, fun _ => pw_c1_2 h1 (Option.some.inj hj)⟩
  | 20, hj => exact Or.inl ⟨rfl, (Option.some.inj (Option.some.inj hj)).symm⟩
  | j + 21, hj => exact Or.inr ⟨by omega, hj, by omega⟩
theorem pw_iinc_21 {v0 v1 v2 v3 v4 v5 v6 v7 v8 v9 v10 v11 v12 v13 v14 v15 v16 v17 v18 v19 v20 : Option Value} {t : List (Option Value)} {n : Int} {x y : Int32} (d : decode (mB M) pc = .ok (.iinc 21 n, 3)) (hy : Int32.ofInt n = y) (hn : 21 < mL M) (k : PW X M b1 b2 (pc + 3) (v0 :: v1 :: v2 :: v3 :: v4 :: v5 :: v6 :: v7 :: v8 :: v9 :: v10 :: v11 :: v12 :: v13 :: v14 :: v15 :: v16 :: v17 :: v18 :: v19 :: v20 :: some (.int (x + y)) :: t) st σ μ Q) (h1 : pw_c1 v20 = v20 := by rfl) : PW X M b1 b2 pc (v0 :: v1 :: v2 :: v3 :: v4 :: v5 :: v6 :: v7 :: v8 :: v9 :: v10 :: v11 :: v12 :: v13 :: v14 :: v15 :: v16 :: v17 :: v18 :: v19 :: v20 :: some (.int x) :: t) st σ μ Q := by
  subst hy
  refine pw_iinc_g (ls' := v0 :: v1 :: v2 :: v3 :: v4 :: v5 :: v6 :: v7 :: v8 :: v9 :: v10 :: v11 :: v12 :: v13 :: v14 :: v15 :: v16 :: v17 :: v18 :: v19 :: v20 :: some (.int (x + Int32.ofInt n)) :: t) d rfl hn ?_ k
  intro j w hj
  match j, hj with
  | 0, hj => exact Or.inr ⟨by omega, hj, by omega⟩
  | 1, hj => exact Or.inr ⟨by omega, hj, by omega⟩
  | 2, hj => exact Or.inr ⟨by omega, hj, by omega⟩
  | 3, hj => exact Or.inr ⟨by omega, hj, by omega⟩
  | 4, hj => exact Or.inr ⟨by omega, hj, by omega⟩
  | 5, hj => exact Or.inr ⟨by omega, hj, by omega⟩
  | 6, hj => exact Or.inr ⟨by omega, hj, by omega⟩
  | 7, hj => exact Or.inr ⟨by omega, hj, by omega⟩
  | 8, hj => exact Or.inr ⟨by omega, hj, by omega⟩
  | 9, hj => exact Or.inr ⟨by omega, hj, by omega⟩
  | 10, hj => exact Or.inr ⟨by omega, hj, by omega⟩
  | 11, hj => exact Or.inr ⟨by omega, hj, by omega⟩
  | 12, hj => exact Or.inr ⟨by omega, hj, by omega⟩
  | 13, hj => exact Or.inr ⟨by omega, hj, by omega⟩
  | 14, hj => exact Or.inr ⟨by omega, hj, by omega⟩
  | 15, hj => exact Or.inr ⟨by omega, hj, by omega⟩
  | 16, hj => exact Or.inr ⟨by omega, hj, by omega⟩
  | 17, hj => exact Or.inr ⟨by omega, hj, by omega⟩
  | 18, hj => exact Or.inr ⟨by omega, hj, by omega⟩
  | 19, hj => exact Or.inr ⟨by omega, hj, by omega⟩
  | 20, hj => exact Or.inr ⟨by omega, hj, fun _ => pw_c1_2 h1 (Option.some.inj hj)⟩
  | 21, hj => exact Or.inl ⟨rfl, (Option.some.inj (Option.some.inj hj)).symm⟩
  | j + 22, hj => exact Or.inr ⟨by omega, hj, by omega⟩
theorem pw_iinc_22 {v0 v1 v2 v3 v4 v5 v6 v7 v8 v9 v10 v11 v12 v13 v14 v15 v16 v17 v18 v19 v20 v21 : Option Value} {t : List (Option Value)} {n : Int} {x y : Int32} (d : decode (mB M) pc = .ok (.iinc 22 n, 3)) (hy : Int32.ofInt n = y) (hn : 22 < mL M) (k : PW X M b1 b2 (pc + 3) (v0 :: v1 :: v2 :: v3 :: v4 :: v5 :: v6 :: v7 :: v8 :: v9 :: v10 :: v11 :: v12 :: v13 :: v14 :: v15 :: v16 :: v17 :: v18 :: v19 :: v20 :: v21 :: some (.int (x + y)) :: t) st σ μ Q) (h1 : pw_c1 v21 = v21 := by rfl) : PW X M b1 b2 pc (v0 :: v1 :: v2 :: v3 :: v4 :: v5 :: v6 :: v7 :: v8 :: v9 :: v10 :: v11 :: v12 :: v13 :: v14 :: v15 :: v16 :: v17 :: v18 :: v19 :: v20 :: v21 :: some (.int x) :: t) st σ μ Q := by
  subst hy
  refine pw_iinc_g (ls' := v0 :: v1 :: v2 :: v3 :: v4 :: v5 :: v6 :: v7 :: v8 :: v9 :: v10 :: v11 :: v12 :: v13 :: v14 :: v15 :: v16 :: v17 :: v18 :: v19 :: v20 :: v21 :: some (.int (x + Int32.ofInt n)) :: t) d rfl hn ?_ k
  intro j w hj
  match j, hj with
  | 0, hj => exact Or.inr ⟨by omega, hj, by omega⟩
  | 1, hj => exact Or.inr ⟨by omega, hj, by omega⟩
  | 2, hj => exact Or.inr ⟨by omega, hj, by omega⟩
  | 3, hj => exact Or.inr ⟨by omega, hj, by omega⟩
  | 4, hj => exact Or.inr ⟨by omega, hj, by omega⟩
  | 5, hj => exact Or.inr ⟨by omega, hj, by omega⟩
  | 6, hj => exact Or.inr ⟨by omega, hj, by omega⟩
  | 7, hj => exact Or.inr ⟨by omega, hj, by omega⟩
  | 8, hj => exact Or.inr ⟨by omega, hj, by omega⟩
  | 9, hj => exact Or.inr ⟨by omega, hj, by omega⟩
  | 10, hj => exact Or.inr ⟨by omega, hj, by omega⟩
  | 11, hj => exact Or.inr ⟨by omega, hj, by omega⟩
  | 12, hj => exact Or.inr ⟨by omega, hj, by omega⟩
  | 13, hj => exact Or.inr ⟨by omega, hj, by omega⟩
  | 14, hj => exact Or.inr ⟨by omega, hj, by omega⟩
  | 15, hj => exact Or.inr ⟨by omega, hj, by omega⟩
  | 16, hj => exact Or.inr ⟨by omega, hj, by omega⟩
  | 17, hj => exact Or.inr ⟨by omega, hj, by omega⟩
  | 18, hj => exact Or.inr ⟨by omega, hj, by omega⟩
  | 19, hj => exact Or.inr ⟨by omega, hj, by omega⟩
  | 20, hj => exact Or.inr ⟨by omega, hj, by omega⟩
  | 21, hj => exact Or.inr ⟨by omega, hj, fun _ => pw_c1_2 h1 (Option.some.inj hj)⟩
  | 22, hj => exact Or.inl ⟨rfl, (Option.some.inj (Option.some.inj hj)).symm⟩
  | j + 23, hj => exact Or.inr ⟨by omega, hj, by omega⟩
theorem pw_iinc_23 {v0 v1 v2 v3 v4 v5 v6 v7 v8 v9 v10 v11 v12 v13 v14 v15 v16 v17 v18 v19 v20 v21 v22 : Option Value} {t : List (Option Value)} {n : Int} {x y : Int32} (d : decode (mB M) pc = .ok (.iinc 23 n, 3)) (hy : Int32.ofInt n = y) (hn : 23 < mL M) (k : PW X M b1 b2 (pc + 3) (v0 :: v1 :: v2 :: v3 :: v4 :: v5 :: v6 :: v7 :: v8 :: v9 :: v10 :: v11 :: v12 :: v13 :: v14 :: v15 :: v16 :: v17 :: v18 :: v19 :: v20 :: v21 :: v22 :: some (.int (x + y)) :: t) st σ μ Q) (h1 : pw_c1 v22 = v22 := by rfl) : PW X M b1 b2 pc (v0 :: v1 :: v2 :: v3 :: v4 :: v5 :: v6 :: v7 :: v8 :: v9 :: v10 :: v11 :: v12 :: v13 :: v14 :: v15 :: v16 :: v17 :: v18 :: v19 :: v20 :: v21 :: v22 :: some (.int x) :: t) st σ μ Q := by
  subst hy
  refine pw_iinc_g (ls' := v0 :: v1 :: v2 :: v3 :: v4 :: v5 :: v6 :: v7 :: v8 :: v9 :: v10 :: v11 :: v12 :: v13 :: v14 :: v15 :: v16 :: v17 :: v18 :: v19 :: v20 :: v21 :: v22 :: some (.int (x + Int32.ofInt n)) :: t) d rfl hn ?_ k
  intro j w hj
  match j, hj with
  | 0, hj => exact Or.inr ⟨by omega, hj, by omega⟩
  | 1, hj => exact Or.inr ⟨by omega, hj, by omega⟩
  | 2, hj => exact Or.inr ⟨by omega, hj, by omega⟩
  | 3, hj => exact Or.inr ⟨by omega, hj, by omega⟩
  | 4, hj => exact Or.inr ⟨by omega, hj, by omega⟩
  | 5, hj => exact Or.inr ⟨by omega, hj, by omega⟩
  | 6, hj => exact Or.inr ⟨by omega, hj, by omega⟩
  | 7, hj => exact Or.inr ⟨by omega, hj, by omega⟩
  | 8, hj => exact Or.inr ⟨by omega, hj, by omega⟩
  | 9, hj => exact Or.inr ⟨by omega, hj, by omega⟩
  | 10, hj => exact Or.inr ⟨by omega, hj, by omega⟩
  | 11, hj => exact Or.inr ⟨by omega, hj, by omega⟩
  | 12, hj => exact Or.inr ⟨by omega, hj, by omega⟩
  | 13, hj => exact Or.inr ⟨by omega, hj, by omega⟩
  | 14, hj => exact Or.inr ⟨by omega, hj, by omega⟩
  | 15, hj => exact Or.inr ⟨by omega, hj, by omega⟩
  | 16, hj => exact Or.inr ⟨by omega, hj, by omega⟩
  | 17, hj => exact Or.inr ⟨by omega, hj, by omega⟩
  | 18, hj => exact Or.inr ⟨by omega, hj, by omega⟩
  | 19, hj => exact Or.inr ⟨by omega, hj, by omega⟩
  | 20, hj => exact Or.inr ⟨by omega, hj, by omega⟩
  | 21, hj => exact Or.inr ⟨by omega, hj, by omega⟩
  | 22, hj => exact Or.inr ⟨by omega, hj, fun _ => pw_c1_2 h1 (Option.some.inj hj)⟩
  | 23, hj => exact Or.inl ⟨rfl, (Option.some.inj (Option.some.inj hj)).symm⟩
  | j + 24, hj => exact Or.inr ⟨by omega, hj, by omega⟩
theorem pw_iinc_24 {v0 v1 v2 v3 v4 v5 v6 v7 v8 v9 v10 v11 v12 v13 v14 v15 v16 v17 v18 v19 v20 v21 v22 v23 : Option Value} {t : List (Option Value)} {n : Int} {x y : Int32} (d : decode (mB M) pc = .ok (.iinc 24 n, 3)) (hy : Int32.ofInt n = y) (hn : 24 < mL M) (k : PW X M b1 b2 (pc + 3) (v0 :: v1 :: v2 :: v3 :: v4 :: v5 :: v6 :: v7 :: v8 :: v9 :: v10 :: v11 :: v12 :: v13 :: v14 :: v15 :: v16 :: v17 :: v18 :: v19 :: v20 :: v21 :: v22 :: v23 :: some (.int (x + y)) :: t) st σ μ Q) (h1 : pw_c1 v23 = v23 := by rfl) : PW X M b1 b2 pc (v0 :: v1 :: v2 :: v3 :: v4 :: v5 :: v6 :: v7 :: v8 :: v9 :: v10 :: v11 :: v12 :: v13 :: v14 :: v15 :: v16 :: v17 :: v18 :: v19 :: v20 :: v21 :: v22 :: v23 :: some (.int x) :: t) st σ μ Q := by
  subst hy
  refine pw_iinc_g (ls' := v0 :: v1 :: v2 :: v3 :: v4 :: v5 :: v6 :: v7 :: v8 :: v9 :: v10 :: v11 :: v12 :: v13 :: v14 :: v15 :: v16 :: v17 :: v18 :: v19 :: v20 :: v21 :: v22 :: v23 :: some (.int (x + Int32.ofInt n)) :: t) d rfl hn ?_ k
  intro j w hj
  match j, hj with
  | 0, hj => exact Or.inr ⟨by omega, hj, by omega⟩
  | 1, hj => exact Or.inr ⟨by omega, hj, by omega⟩
  | 2, hj => exact Or.inr ⟨by omega, hj, by omega⟩
  | 3, hj => exact Or.inr ⟨by omega, hj, by omega⟩
  | 4, hj => exact Or.inr ⟨by omega, hj, by omega⟩
  | 5, hj => exact Or.inr ⟨by omega, hj, by omega⟩
  | 6, hj => exact Or.inr ⟨by omega, hj, by omega⟩
  | 7, hj => exact Or.inr ⟨by omega, hj, by omega⟩
  | 8, hj => exact Or.inr ⟨by omega, hj, by omega⟩
  | 9, hj => exact Or.inr ⟨by omega, hj, by omega⟩
  | 10, hj => exact Or.inr ⟨by omega, hj, by omega⟩
  | 11, hj => exact Or.inr ⟨by omega, hj, by omega⟩
  | 12, hj => exact Or.inr ⟨by omega, hj, by omega⟩
  | 13, hj => exact Or.inr ⟨by omega, hj, by omega⟩
  | 14, hj => exact Or.inr ⟨by omega, hj, by omega⟩
  | 15, hj => exact Or.inr ⟨by omega, hj, by omega⟩
  | 16, hj => exact Or.inr ⟨by omega, hj, by omega⟩
  | 17, hj => exact Or.inr ⟨by omega, hj, by omega⟩
  | 18, hj => exact Or.inr ⟨by omega, hj, by omega⟩
  | 19, hj => exact Or.inr ⟨by omega, hj, by omega⟩
  | 20, hj => exact Or.inr ⟨by omega, hj, by omega⟩
  | 21, hj => exact Or.inr ⟨by omega, hj, by omega⟩
  | 22, hj => exact Or.inr ⟨by omega, hj, by omega⟩
  | 23, hj => exact Or.inr ⟨by omega, hj, fun _ => pw_c1_2 h1 (Option.some.inj hj)⟩
  | 24, hj => exact Or.inl ⟨rfl, (Option.some.inj (Option.some.inj hj)).symm⟩
  | j + 25, hj => exact Or.inr ⟨by omega, hj, by omega⟩
theorem pw_iinc_25 {v0 v1 v2 v3 v4 v5 v6 v7 v8 v9 v10 v11 v12 v13 v14 v15 v16 v17 v18 v19 v20 v21 v22 v23 v24 : Option Value} {t : List (Option Value)} {n : Int} {x y : Int32} (d : decode (mB M) pc = .ok (.iinc 25 n, 3)) (hy : Int32.ofInt n = y) (hn : 25 < mL M) (k : PW X M b1 b2 (pc + 3) (v0 :: v1 :: v2 :: v3 :: v4 :: v5 :: v6 :: v7 :: v8 :: v9 :: v10 :: v11 :: v12 :: v13 :: v14 :: v15 :: v16 :: v17 :: v18 :: v19 :: v20 :: v21 :: v22 :: v23 :: v24 :: some (.int (x + y)) :: t) st σ μ Q) (h1 : pw_c1 v24 = v24 := by rfl) : PW X M b1 b2 pc (v0 :: v1 :: v2 :: v3 :: v4 :: v5 :: v6 :: v7 :: v8 :: v9 :: v10 :: v11 :: v12 :: v13 :: v14 :: v15 :: v16 :: v17 :: v18 :: v19 :: v20 :: v21 :: v22 :: v23 :: v24 :: some (.int x) :: t) st σ μ Q := by
  subst hy
  refine pw_iinc_g (ls' := v0 :: v1 :: v2 :: v3 :: v4 :: v5 :: v6 :: v7 :: v8 :: v9 :: v10 :: v11 :: v12 :: v13 :: v14 :: v15 :: v16 :: v17 :: v18 :: v19 :: v20 :: v21 :: v22 :: v23 :: v24 :: some (.int (x + Int32.ofInt n)) :: t) d rfl hn ?_ k
  intro j w hj
  match j, hj with
  | 0, hj => exact Or.inr ⟨by omega, hj, by omega⟩
  | 1, hj => exact Or.inr ⟨by omega, hj, by omega⟩
  | 2, hj => exact Or.inr ⟨by omega, hj, by omega⟩
  | 3, hj => exact Or.inr ⟨by omega, hj, by omega⟩
  | 4, hj => exact Or.inr ⟨by omega, hj, by omega⟩
  | 5, hj => exact Or.inr ⟨by omega, hj, by omega⟩
  | 6, hj => exact Or.inr ⟨by omega, hj, by omega⟩
  | 7, hj => exact Or.inr ⟨by omega, hj, by omega⟩
  | 8, hj => exact Or.inr ⟨by omega, hj, by omega⟩
  | 9, hj => exact Or.inr ⟨by omega, hj, by omega⟩
  | 10, hj => exact Or.inr ⟨by omega, hj, by omega⟩
  | 11, hj => exact Or.inr ⟨by omega, hj, by omega⟩
  | 12, hj => exact Or.inr ⟨by omega, hj, by omega⟩
  | 13, hj => exact Or.inr ⟨by omega, hj, by omega⟩
  | 14, hj => exact Or.inr ⟨by omega, hj, by omega⟩
  | 15, hj => exact Or.inr ⟨by omega, hj, by omega⟩
  | 16, hj => exact Or.inr ⟨by omega, hj, by omega⟩
  | 17, hj => exact Or.inr ⟨by omega, hj, by omega⟩
  | 18, hj => exact Or.inr ⟨by omega, hj, by omega⟩
  | 19, hj => exact Or.inr ⟨by omega, hj, by omega⟩
  | 20, hj => exact Or.inr ⟨by omega, hj, by omega⟩
  | 21, hj => exact Or.inr ⟨by omega, hj, by omega⟩
  | 22, hj => exact Or.inr ⟨by omega, hj, by omega⟩
  | 23, hj => exact Or.inr ⟨by omega, hj, by omega⟩
  | 24, hj => exact Or.inr ⟨by omega, hj, fun _ => pw_c1_2 h1 (Option.some.inj hj)⟩
  | 25, hj => exact Or.inl ⟨rfl, (Option.some.inj (Option.some.inj hj)).symm⟩
  | j + 26, hj => exact Or.inr ⟨by omega, hj, by omega⟩
theorem pw_iinc_26 {v0 v1 v2 v3 v4 v5 v6 v7 v8 v9 v10 v11 v12 v13 v14 v15 v16 v17 v18 v19 v20 v21 v22 v23 v24 v25 : Option Value} {t : List (Option Value)} {n : Int} {x y : Int32} (d : decode (mB M) pc = .ok (.iinc 26 n, 3)) (hy : Int32.ofInt n = y) (hn : 26 < mL M) (k : PW X M b1 b2 (pc + 3) (v0 :: v1 :: v2 :: v3 :: v4 :: v5 :: v6 :: v7 :: v8 :: v9 :: v10 :: v11 :: v12 :: v13 :: v14 :: v15 :: v16 :: v17 :: v18 :: v19 :: v20 :: v21 :: v22 :: v23 :: v24 :: v25 :: some (.int (x + y)) :: t) st σ μ Q) (h1 : pw_c1 v25 = v25 := by rfl) : PW X M b1 b2 pc (v0 :: v1 :: v2 :: v3 :: v4 :: v5 :: v6 :: v7 :: v8 :: v9 :: v10 :: v11 :: v12 :: v13 :: v14 :: v15 :: v16 :: v17 :: v18 :: v19 :: v20 :: v21 :: v22 :: v23 :: v24 :: v25 :: some (.int x) :: t) st σ μ Q := by
  subst hy
  refine pw_iinc_g (ls' := v0 :: v1 :: v2 :: v3 :: v4 :: v5 :: v6 :: v7 :: v8 :: v9 :: v10 :: v11 :: v12 :: v13 :: v14 :: v15 :: v16 :: v17 :: v18 :: v19 :: v20 :: v21 :: v22 :: v23 :: v24 :: v25 :: some (.int (x + Int32.ofInt n)) :: t) d rfl hn ?_ k
  intro j w hj
  match j, hj with
  | 0, hj => exact Or.inr ⟨by omega, hj, by omega⟩
  | 1, hj => exact Or.inr ⟨by omega, hj, by omega⟩
  | 2, hj => exact Or.inr ⟨by omega, hj, by omega⟩
  | 3, hj => exact Or.inr ⟨by omega, hj, by omega⟩
  | 4, hj => exact Or.inr ⟨by omega, hj, by omega⟩
  | 5, hj => exact Or.inr ⟨by omega, hj, by omega⟩
  | 6, hj => exact Or.inr ⟨by omega, hj, by omega⟩
  | 7, hj => exact Or.inr ⟨by omega, hj, by omega⟩
  | 8, hj => exact Or.inr ⟨by omega, hj, by omega⟩
  | 9, hj => exact Or.inr ⟨by omega, hj, by omega⟩
  | 10, hj => exact Or.inr ⟨by omega, hj, by omega⟩
  | 11, hj => exact Or.inr ⟨by omega, hj, by omega⟩
  | 12, hj => exact Or.inr ⟨by omega, hj, by omega⟩
  | 13, hj => exact Or.inr ⟨by omega, hj, by omega⟩
  | 14, hj => exact Or.inr ⟨by omega, hj, by omega⟩
  | 15, hj => exact Or.inr ⟨by omega, hj, by omega⟩
  | 16, hj => exact Or.inr ⟨by omega, hj, by omega⟩
  | 17, hj => exact Or.inr ⟨by omega, hj, by omega⟩
  | 18, hj => exact Or.inr ⟨by omega, hj, by omega⟩
  | 19, hj => exact Or.inr ⟨by omega, hj, by omega⟩
  | 20, hj => exact Or.inr ⟨by omega, hj, by omega⟩
  | 21, hj => exact Or.inr ⟨by omega, hj, by omega⟩
  | 22, hj => exact Or.inr ⟨by omega, hj, by omega⟩
  | 23, hj => exact Or.inr ⟨by omega, hj, by omega⟩
  | 24, hj => exact Or.inr ⟨by omega, hj, by omega⟩
  | 25, hj => exact Or.inr ⟨by omega, hj, fun _ => pw_c1_2 h1 (Option.some.inj hj)⟩
  | 26, hj => exact Or.inl ⟨rfl, (Option.some.inj (Option.some.inj hj)).symm⟩
  | j + 27, hj => exact Or.inr ⟨by omega, hj, by omega⟩
theorem pw_if_eq {x : Int32} {off : Int} (tgt : Nat) (d : decode (mB M) pc = .ok (.ifCond .eq off, 3)) (ht : (pc : Int) + off = (tgt : Int)) (kt : x = 0 → PW X M b1 b2 tgt ls st σ μ Q) (kf : ¬ x = 0 → PW X M b1 b2 (pc + 3) ls st σ μ Q) : PW X M b1 b2 pc ls (.int x :: st) σ μ Q :=
  fun p e R s m args below meth c H locs cells slots ar Z B S P F L c1 c2 K => lv_if_eq B.1 B.2.1 d ht (fun h => kt h p e R s m args below meth c H locs cells slots ar Z B S P F L c1 c2 K) (fun h => kf h p e R s m args below meth c H locs cells slots ar Z B S P F L c1 c2 K)
theorem pw_if_ne {x : Int32} {off : Int} (tgt : Nat) (d : decode (mB M) pc = .ok (.ifCond .ne off, 3)) (ht : (pc : Int) + off = (tgt : Int)) (kt : x ≠ 0 → PW X M b1 b2 tgt ls st σ μ Q) (kf : x = 0 → PW X M b1 b2 (pc + 3) ls st σ μ Q) : PW X M b1 b2 pc ls (.int x :: st) σ μ Q :=
  fun p e R s m args below meth c H locs cells slots ar Z B S P F L c1 c2 K => lv_if_ne B.1 B.2.1 d ht (fun h => kt h p e R s m args below meth c H locs cells slots ar Z B S P F L c1 c2 K) (fun h => kf h p e R s m args below meth c H locs cells slots ar Z B S P F L c1 c2 K)
theorem pw_if_lt {x : Int32} {off : Int} (tgt : Nat) (d : decode (mB M) pc = .ok (.ifCond .lt off, 3)) (ht : (pc : Int) + off = (tgt : Int)) (kt : x < 0 → PW X M b1 b2 tgt ls st σ μ Q) (kf : ¬ x < 0 → PW X M b1 b2 (pc + 3) ls st σ μ Q) : PW X M b1 b2 pc ls (.int x :: st) σ μ Q :=
  fun p e R s m args below meth c H locs cells slots ar Z B S P F L c1 c2 K => lv_if_lt B.1 B.2.1 d ht (fun h => kt h p e R s m args below meth c H locs cells slots ar Z B S P F L c1 c2 K) (fun h => kf h p e R s m args below meth c H locs cells slots ar Z B S P F L c1 c2 K)
theorem pw_if_ge {x : Int32} {off : Int} (tgt : Nat) (d : decode (mB M) pc = .ok (.ifCond .ge off, 3)) (ht : (pc : Int) + off = (tgt : Int)) (kt : 0 ≤ x → PW X M b1 b2 tgt ls st σ μ Q) (kf : ¬ 0 ≤ x → PW X M b1 b2 (pc + 3) ls st σ μ Q) : PW X M b1 b2 pc ls (.int x :: st) σ μ Q :=
  fun p e R s m args below meth c H locs cells slots ar Z B S P F L c1 c2 K => lv_if_ge B.1 B.2.1 d ht (fun h => kt h p e R s m args below meth c H locs cells slots ar Z B S P F L c1 c2 K) (fun h => kf h p e R s m args below meth c H locs cells slots ar Z B S P F L c1 c2 K)
theorem pw_if_gt {x : Int32} {off : Int} (tgt : Nat) (d : decode (mB M) pc = .ok (.ifCond .gt off, 3)) (ht : (pc : Int) + off = (tgt : Int)) (kt : 0 < x → PW X M b1 b2 tgt ls st σ μ Q) (kf : ¬ 0 < x → PW X M b1 b2 (pc + 3) ls st σ μ Q) : PW X M b1 b2 pc ls (.int x :: st) σ μ Q :=
  fun p e R s m args below meth c H locs cells slots ar Z B S P F L c1 c2 K => lv_if_gt B.1 B.2.1 d ht (fun h => kt h p e R s m args below meth c H locs cells slots ar Z B S P F L c1 c2 K) (fun h => kf h p e R s m args below meth c H locs cells slots ar Z B S P F L c1 c2 K)
theorem pw_if_le {x : Int32} {off : Int} (tgt : Nat) (d : decode (mB M) pc = .ok (.ifCond .le off, 3)) (ht : (pc : Int) + off = (tgt : Int)) (kt : x ≤ 0 → PW X M b1 b2 tgt ls st σ μ Q) (kf : ¬ x ≤ 0 → PW X M b1 b2 (pc + 3) ls st σ μ Q) : PW X M b1 b2 pc ls (.int x :: st) σ μ Q :=
  fun p e R s m args below meth c H locs cells slots ar Z B S P F L c1 c2 K => lv_if_le B.1 B.2.1 d ht (fun h => kt h p e R s m args below meth c H locs cells slots ar Z B S P F L c1 c2 K) (fun h => kf h p e R s m args below meth c H locs cells slots ar Z B S P F L c1 c2 K)
theorem pw_icmp_eq {x y : Int32} {off : Int} (tgt : Nat) (d : decode (mB M) pc = .ok (.if_icmp .eq off, 3)) (ht : (pc : Int) + off = (tgt : Int)) (kt : x = y → PW X M b1 b2 tgt ls st σ μ Q) (kf : ¬ x = y → PW X M b1 b2 (pc + 3) ls st σ μ Q) : PW X M b1 b2 pc ls (.int y :: .int x :: st) σ μ Q :=
  fun p e R s m args below meth c H locs cells slots ar Z B S P F L c1 c2 K => lv_icmp_eq B.1 B.2.1 d ht (fun h => kt h p e R s m args below meth c H locs cells slots ar Z B S P F L c1 c2 K) (fun h => kf h p e R s m args below meth c H locs cells slots ar Z B S P F L c1 c2 K)
theorem pw_icmp_ne {x y : Int32} {off : Int} (tgt : Nat) (d : decode (mB M) pc = .ok (.if_icmp .ne off, 3)) (ht : (pc : Int) + off = (tgt : Int)) (kt : x ≠ y → PW X M b1 b2 tgt ls st σ μ Q) (kf : x = y → PW X M b1 b2 (pc + 3) ls st σ μ Q) : PW X M b1 b2 pc ls (.int y :: .int x :: st) σ μ Q :=
  fun p e R s m args below meth c H locs cells slots ar Z B S P F L c1 c2 K => lv_icmp_ne B.1 B.2.1 d ht (fun h => kt h p e R s m args below meth c H locs cells slots ar Z B S P F L c1 c2 K) (fun h => kf h p e R s m args below meth c H locs cells slots ar Z B S P F L c1 c2 K)
theorem pw_icmp_lt {x y : Int32} {off : Int} (tgt : Nat) (d : decode (mB M) pc = .ok (.if_icmp .lt off, 3)) (ht : (pc : Int) + off = (tgt : Int)) (kt : x < y → PW X M b1 b2 tgt ls st σ μ Q) (kf : ¬ x < y → PW X M b1 b2 (pc + 3) ls st σ μ Q) : PW X M b1 b2 pc ls (.int y :: .int x :: st) σ μ Q :=
  fun p e R s m args below meth c H locs cells slots ar Z B S P F L c1 c2 K => lv_icmp_lt B.1 B.2.1 d ht (fun h => kt h p e R s m args below meth c H locs cells slots ar Z B S P F L c1 c2 K) (fun h => kf h p e R s m args below meth c H locs cells slots ar Z B S P F L c1 c2 K)
theorem pw_icmp_ge {x y : Int32} {off : Int} (tgt : Nat) (d : decode (mB M) pc = .ok (.if_icmp .ge off, 3)) (ht : (pc : Int) + off = (tgt : Int)) (kt : y ≤ x → PW X M b1 b2 tgt ls st σ μ Q) (kf : ¬ y ≤ x → PW X M b1 b2 (pc + 3) ls st σ μ Q) : PW X M b1 b2 pc ls (.int y :: .int x :: st) σ μ Q :=
  fun p e R s m args below meth c H locs cells slots ar Z B S P F L c1 c2 K => lv_icmp_ge B.1 B.2.1 d ht (fun h => kt h p e R s m args below meth c H locs cells slots ar Z B S P F L c1 c2 K) (fun h => kf h p e R s m args below meth c H locs cells slots ar Z B S P F L c1 c2 K)
theorem pw_icmp_gt {x y : Int32} {off : Int} (tgt : Nat) (d : decode (mB M) pc = .ok (.if_icmp .gt off, 3)) (ht : (pc : Int) + off = (tgt : Int)) (kt : y < x → PW X M b1 b2 tgt ls st σ μ Q) (kf : ¬ y < x → PW X M b1 b2 (pc + 3) ls st σ μ Q) : PW X M b1 b2 pc ls (.int y :: .int x :: st) σ μ Q :=
  fun p e R s m args below meth c H locs cells slots ar Z B S P F L c1 c2 K => lv_icmp_gt B.1 B.2.1 d ht (fun h => kt h p e R s m args below meth c H locs cells slots ar Z B S P F L c1 c2 K) (fun h => kf h p e R s m args below meth c H locs cells slots ar Z B S P F L c1 c2 K)
theorem pw_icmp_le {x y : Int32} {off : Int} (tgt : Nat) (d : decode (mB M) pc = .ok (.if_icmp .le off, 3)) (ht : (pc : Int) + off = (tgt : Int)) (kt : x ≤ y → PW X M b1 b2 tgt ls st σ μ Q) (kf : ¬ x ≤ y → PW X M b1 b2 (pc + 3) ls st σ μ Q) : PW X M b1 b2 pc ls (.int y :: .int x :: st) σ μ Q :=
  fun p e R s m args below meth c H locs cells slots ar Z B S P F L c1 c2 K => lv_icmp_le B.1 B.2.1 d ht (fun h => kt h p e R s m args below meth c H locs cells slots ar Z B S P F L c1 c2 K) (fun h => kf h p e R s m args below meth c H locs cells slots ar Z B S P F L c1 c2 K)
theorem pw_goto {off : Int} (tgt : Nat) (d : decode (mB M) pc = .ok (.goto off, 3)) (ht : (pc : Int) + off = (tgt : Int)) (k : PW X M b1 b2 tgt ls st σ μ Q) : PW X M b1 b2 pc ls st σ μ Q :=
  fun p e R s m args below meth c H locs cells slots ar Z B S P F L c1 c2 K => lv_goto B.1 B.2.1 d ht (k p e R s m args below meth c H locs cells slots ar Z B S P F L c1 c2 K)
theorem pw_tabIn {dflt lo hi : Int} {offs : Array Int} {len : Nat} {x : Int32} {off : Int} (tgt : Nat) (d : decode (mB M) pc = .ok (.tableswitch dflt lo hi offs, len)) (h1 : ¬ x.toInt < lo) (h2 : ¬ hi < x.toInt) (ho : offs[(x.toInt - lo).toNat]? = some off) (ht : (pc : Int) + off = (tgt : Int)) (k : PW X M b1 b2 tgt ls st σ μ Q) : PW X M b1 b2 pc ls (.int x :: st) σ μ Q :=
  fun p e R s m args below meth c H locs cells slots ar Z B S P F L c1 c2 K => lv_tableIn B.1 B.2.1 d h1 h2 ho ht (k p e R s m args below meth c H locs cells slots ar Z B S P F L c1 c2 K)
theorem pw_tabOut {dflt lo hi : Int} {offs : Array Int} {len : Nat} {x : Int32} (tgt : Nat) (d : decode (mB M) pc = .ok (.tableswitch dflt lo hi offs, len)) (h : x.toInt < lo ∨ hi < x.toInt) (ht : (pc : Int) + dflt = (tgt : Int)) (k : PW X M b1 b2 tgt ls st σ μ Q) : PW X M b1 b2 pc ls (.int x :: st) σ μ Q :=
  fun p e R s m args below meth c H locs cells slots ar Z B S P F L c1 c2 K => lv_tableOut B.1 B.2.1 d h ht (k p e R s m args below meth c H locs cells slots ar Z B S P F L c1 c2 K)
theorem pw_lookup {dflt : Int} {ps : Array (Int × Int)} {len : Nat} {x : Int32} {off : Int} (tgt : Nat) (d : decode (mB M) pc = .ok (.lookupswitch dflt ps, len)) (hp : (ps.toList.zip (ps.toList.drop 1)).all (fun (a, next) => a.1 < next.1) = true) (ho : Op.lookupswitch.offset ps.toList dflt x.toInt = off) (ht : (pc : Int) + off = (tgt : Int)) (k : PW X M b1 b2 tgt ls st σ μ Q) : PW X M b1 b2 pc ls (.int x :: st) σ μ Q :=
  fun p e R s m args below meth c H locs cells slots ar Z B S P F L c1 c2 K => lv_lookup B.1 B.2.1 d hp ho ht (k p e R s m args below meth c H locs cells slots ar Z B S P F L c1 c2 K)
theorem pw_nonnull {x : Nat} {off : Int} (tgt : Nat) (d : decode (mB M) pc = .ok (.ifnonnull off, 3)) (ht : (pc : Int) + off = (tgt : Int)) (k : PW X M b1 b2 tgt ls st σ μ Q) : PW X M b1 b2 pc ls (.ref x :: st) σ μ Q :=
  fun p e R s m args below meth c H locs cells slots ar Z B S P F L c1 c2 K => lv_ifnonnull B.1 B.2.1 d ht (k p e R s m args below meth c H locs cells slots ar Z B S P F L c1 c2 K)
theorem pw_nonnullN {off : Int} (d : decode (mB M) pc = .ok (.ifnonnull off, 3)) (k : PW X M b1 b2 (pc + 3) ls st σ μ Q) : PW X M b1 b2 pc ls (.null :: st) σ μ Q :=
  fun p e R s m args below meth c H locs cells slots ar Z B S P F L c1 c2 K => lv_ifnonnullN B.1 B.2.1 d (k p e R s m args below meth c H locs cells slots ar Z B S P F L c1 c2 K)
theorem pw_ifnull {x : Nat} {off : Int} (d : decode (mB M) pc = .ok (.ifnull off, 3)) (k : PW X M b1 b2 (pc + 3) ls st σ μ Q) : PW X M b1 b2 pc ls (.ref x :: st) σ μ Q :=
  fun p e R s m args below meth c H locs cells slots ar Z B S P F L c1 c2 K => lv_ifnull B.1 B.2.1 d (k p e R s m args below meth c H locs cells slots ar Z B S P F L c1 c2 K)
theorem pw_ifnullN {off : Int} (tgt : Nat) (d : decode (mB M) pc = .ok (.ifnull off, 3)) (ht : (pc : Int) + off = (tgt : Int)) (k : PW X M b1 b2 tgt ls st σ μ Q) : PW X M b1 b2 pc ls (.null :: st) σ μ Q :=
  fun p e R s m args below meth c H locs cells slots ar Z B S P F L c1 c2 K => lv_ifnullN B.1 B.2.1 d ht (k p e R s m args below meth c H locs cells slots ar Z B S P F L c1 c2 K)
theorem pw_ldc {i : Nat} {v : Int32} (d : decode (mB M) pc = .ok (.ldc i, 2)) (h : Cond.constant (mY M).cls i v ∈ pw_Tb) (k : PW X M b1 b2 (pc + 2) ls (.int v :: st) σ μ Q) : PW X M b1 b2 pc ls st σ μ Q :=
  fun p e R s m args below meth c H locs cells slots ar Z B S P F L c1 c2 K => lv_ldc B.1 B.2.1 B.2.2.2.2.1 (B.2.2.2.2.2.1 _ h) d (k p e R s m args below meth c H locs cells slots ar Z B S P F L c1 c2 K)
theorem pw_ldcw {i : Nat} {v : Int32} (d : decode (mB M) pc = .ok (.ldc_w i, 3)) (h : Cond.constant (mY M).cls i v ∈ pw_Tb) (k : PW X M b1 b2 (pc + 3) ls (.int v :: st) σ μ Q) : PW X M b1 b2 pc ls st σ μ Q :=
  fun p e R s m args below meth c H locs cells slots ar Z B S P F L c1 c2 K => lv_ldcw B.1 B.2.1 B.2.2.2.2.1 (B.2.2.2.2.2.1 _ h) d (k p e R s m args below meth c H locs cells slots ar Z B S P F L c1 c2 K)
theorem pw_ldc2 {i : Nat} {v : Int64} (d : decode (mB M) pc = .ok (.ldc2_w i, 3)) (h : Cond.constantLong (mY M).cls i v ∈ pw_Tb) (k : PW X M b1 b2 (pc + 3) ls (.long v :: st) σ μ Q) : PW X M b1 b2 pc ls st σ μ Q :=
  fun p e R s m args below meth c H locs cells slots ar Z B S P F L c1 c2 K => lv_ldc2 B.1 B.2.1 B.2.2.2.2.1 (B.2.2.2.2.2.1 _ h) d (k p e R s m args below meth c H locs cells slots ar Z B S P F L c1 c2 K)
/-- the ends -/
theorem pw_ireturn {x : Int32} {Qi : Int32 → Sp → Mm → Prop} (d : decode (mB M) pc = .ok (.ireturn, 1)) (hr : mRet M = some .int) (hQ : Qi x σ μ) : PW X M b1 b2 pc ls [.int x] σ μ (LI Qi) :=
  fun p e R s m args below meth c H locs cells slots ar Z B S P F L c1 c2 K => K H locs cells slots ar pc (some (.int x)) σ μ ⟨x, rfl, hQ⟩ (Or.inr (Or.inl ⟨x, .int, rfl, hr, rfl, d⟩)) P F (by omega) (by omega)
theorem pw_zreturn {x : Int32} {Qi : Int32 → Sp → Mm → Prop} (d : decode (mB M) pc = .ok (.ireturn, 1)) (hr : mRet M = some .boolean) (hx : x = 0 ∨ x = 1) (hQ : Qi x σ μ) : PW X M b1 b2 pc ls [.int x] σ μ (LI Qi) :=
  fun p e R s m args below meth c H locs cells slots ar Z B S P F L c1 c2 K => K H locs cells slots ar pc (some (.int x)) σ μ ⟨x, rfl, hQ⟩ (Or.inr (Or.inl ⟨x, .boolean, rfl, hr, by rcases hx with rfl | rfl <;> rfl, d⟩)) P F (by omega) (by omega)
theorem pw_return {Qv : Sp → Mm → Prop} (d : decode (mB M) pc = .ok (.return_, 1)) (hr : mRet M = none) (hQ : Qv σ μ) : PW X M b1 b2 pc ls [] σ μ (LV Qv) :=
  fun p e R s m args below meth c H locs cells slots ar Z B S P F L c1 c2 K => K H locs cells slots ar pc none σ μ ⟨rfl, hQ⟩ (Or.inl ⟨rfl, hr, d⟩) P F (by omega) (by omega)
theorem pw_areturn {a : Nat} {C : String} {Qr : Option Nat → Sp → Mm → Prop} (d : decode (mB M) pc = .ok (.areturn, 1)) (hr : mRet M = some (.object C)) (hQ : Qr (some a) σ μ) : PW X M b1 b2 pc ls [.ref a] σ μ (LR Qr) :=
  fun p e R s m args below meth c H locs cells slots ar Z B S P F L c1 c2 K => K H locs cells slots ar pc (some (.ref a)) σ μ ⟨some a, rfl, hQ⟩ (Or.inr (Or.inr ⟨.ref a, C, rfl, Or.inr ⟨a, rfl⟩, hr, d⟩)) P F (by omega) (by omega)
theorem pw_areturnN {C : String} {Qr : Option Nat → Sp → Mm → Prop} (d : decode (mB M) pc = .ok (.areturn, 1)) (hr : mRet M = some (.object C)) (hQ : Qr none σ μ) : PW X M b1 b2 pc ls [.null] σ μ (LR Qr) :=
  fun p e R s m args below meth c H locs cells slots ar Z B S P F L c1 c2 K => K H locs cells slots ar pc (some .null) σ μ ⟨none, rfl, hQ⟩ (Or.inr (Or.inr ⟨.null, C, rfl, Or.inl rfl, hr, d⟩)) P F (by omega) (by omega)
end PWR
end
section
/-! The walk over the pure memory: fields, rows of numbers, calls, makings -/
theorem pw_bo_wr {σ : Sp} {μ : Mm} {a k : Nat} {x : Int32} (h : pw_bo σ μ) (hk : tg σ a = 7 → (k = 5 ∨ k = 6) → x = 0 ∨ x = 1) : pw_bo σ (wr μ a k x) := by
  intro b hb
  obtain ⟨h1, h2⟩ := h b hb
  by_cases hba : b = a
  · subst hba
    simp only [wr, upd, if_true]
    refine ⟨?_, ?_⟩
    · by_cases h5 : 5 = k
      · rw [if_pos h5]; exact hk hb (Or.inl h5.symm)
      · rw [if_neg h5]; exact h1
    · by_cases h6 : 6 = k
      · rw [if_pos h6]; exact hk hb (Or.inr h6.symm)
      · rw [if_neg h6]; exact h2
  · simp only [wr, if_neg hba]
    exact ⟨h1, h2⟩
theorem pw_bo_wC {σ : Sp} {μ : Mm} {a : Nat} {f : Nat → Int32} (h : pw_bo σ μ) (hk : tg σ a ≠ 7) : pw_bo σ (wC μ a f) := by
  intro b hb
  by_cases hba : b = a
  · subst hba
    exact absurd hb hk
  · simp only [wC, if_neg hba]
    exact h b hb
/-- an own cell changed, the kinds stay -/
theorem HP.upd {X : Cx} {σ σ' : Sp} {μ μ' : Mm} {H H1 : Heap} {a : Nat} {e : va_E} (h : HP X σ μ H) (ha : tg σ a ≠ 0) (ht : tg σ' = tg σ) (hn : nn σ' = nn σ) (hP : va_P (cxD X) vwCl ((pw_ws X σ μ).set (a - cxB X) (a, e)) H1) (hz : H1.size = H.size) (he : pw_ce X σ' μ' a = e) (ho : ∀ b, b ≠ a → pw_ce X σ' μ' b = pw_ce X σ μ b) (hb : pw_bo σ' μ') : HP X σ' μ' H1 := by
  obtain ⟨h1, h2⟩ := h.2.2.1 a ha
  rw [pw_ws_set h1 h2 hn he ho] at hP
  exact ⟨hP, by rw [hz, hn]; exact h.2.1, by rw [ht, hn]; exact h.2.2.1, hb⟩
theorem HP.at {X : Cx} {σ : Sp} {μ : Mm} {H : Heap} {a : Nat} (h : HP X σ μ H) (ha : tg σ a ≠ 0) : (pw_ws X σ μ)[a - cxB X]? = some (a, pw_ce X σ μ a) := pw_ws_at (h.2.2.1 a ha).1 (h.2.2.1 a ha).2
theorem pw_hin : ∀ c, c < 9 → ∀ w ∈ u_ws (pw_R c) (pw_T c) (pw_N c), w ∈ pw_Tb := by
  refine pw_nine ?_ ?_ ?_ ?_ ?_ ?_ ?_ ?_ ?_ <;> exact fun w h => List.mem_filter.mpr ⟨List.mem_append_right _ (List.all_eq_true.mp (show List.all _ (fun w => decide (w ∈ tables_1)) = true by decide +kernel) w h |> of_decide_eq_true), List.all_eq_true.mp (show List.all _ goodWord = true by decide +kernel) w h⟩
section PWH
variable {X : Cx} {M : Mt} {b1 b2 pc : Nat} {ls : List (Option Value)} {st : List Value} {σ : Sp} {μ : Mm} {Q : Option Value → Sp → Mm → Prop}
theorem pw_getI {a i : Nat} (c k : Nat) (d : decode (mB M) pc = .ok (.getfield i, 3)) (hw : Cond.fieldLink (mY M).cls i (pw_R c) (pw_T c k).2.1 (pw_T c k).2.2.1 ∈ pw_Tb) (hr : (pw_T c k).1 = pw_R c) (hc : c < 9) (hf : (pw_fl c)[k]? = some false) (ht : tg σ a = c + 1) (kk : PW X M b1 b2 (pc + 3) ls (.int (μ a k) :: st) σ μ Q) : PW X M b1 b2 pc ls (.ref a :: st) σ μ Q := by
  intro p e R s m args below meth cd H locs cells slots ar Z B S P F L c1 c2 K
  refine va_get B.1 B.2.1 B.2.2.2.2.2.1 (pw_hin c hc) B.2.2.2.2.1 S.1 P.1 (a - cxB X) (fs := pw_fv c (rf σ a) (μ a)) (by rw [P.at (by omega), pw_ce_o ht hc]) (pw_cl c hc) k (by rw [← pw_flN c hc]; exact (List.getElem?_eq_some_iff.mp hf).1) (B.2.2.2.2.2.1 _ hw) (fun x h => by rw [← hr]; exact h) (pw_fv_I hf _ _) d (kk p e R s m args below meth cd H locs cells slots ar Z B S P F L c1 c2 K)
theorem pw_getR {a i : Nat} (c k : Nat) {o : Option Nat} (d : decode (mB M) pc = .ok (.getfield i, 3)) (hw : Cond.fieldLink (mY M).cls i (pw_R c) (pw_T c k).2.1 (pw_T c k).2.2.1 ∈ pw_Tb) (hr : (pw_T c k).1 = pw_R c) (hc : c < 9) (hf : (pw_fl c)[k]? = some true) (ht : tg σ a = c + 1) (ho : rf σ a k = o) (kk : PW X M b1 b2 (pc + 3) ls (va_rf o :: st) σ μ Q) : PW X M b1 b2 pc ls (.ref a :: st) σ μ Q := by
  intro p e R s m args below meth cd H locs cells slots ar Z B S P F L c1 c2 K
  subst ho
  refine va_get B.1 B.2.1 B.2.2.2.2.2.1 (pw_hin c hc) B.2.2.2.2.1 S.1 P.1 (a - cxB X) (fs := pw_fv c (rf σ a) (μ a)) (by rw [P.at (by omega), pw_ce_o ht hc]) (pw_cl c hc) k (by rw [← pw_flN c hc]; exact (List.getElem?_eq_some_iff.mp hf).1) (B.2.2.2.2.2.1 _ hw) (fun x h => by rw [← hr]; exact h) (pw_fv_R hf _ _) d (kk p e R s m args below meth cd H locs cells slots ar Z B S P F L c1 c2 K)
theorem pw_getr {a i q : Nat} (c k : Nat) (d : decode (mB M) pc = .ok (.getfield i, 3)) (hw : Cond.fieldLink (mY M).cls i (pw_R c) (pw_T c k).2.1 (pw_T c k).2.2.1 ∈ pw_Tb) (hr : (pw_T c k).1 = pw_R c) (hc : c < 9) (hf : (pw_fl c)[k]? = some true) (ht : tg σ a = c + 1) (ho : rf σ a k = some q) (kk : PW X M b1 b2 (pc + 3) ls (.ref q :: st) σ μ Q) : PW X M b1 b2 pc ls (.ref a :: st) σ μ Q := pw_getR c k d hw hr hc hf ht ho kk
theorem pw_size {X : Cx} {σ : Sp} {μ : Mm} {H H1 : Heap} (h : HP X σ μ H) : True := trivial
theorem pw_putG {a i : Nat} (c k : Nat) {v : Value} {ty : FieldType} {σ' : Sp} {μ' : Mm} (d : decode (mB M) pc = .ok (.putfield i, 3)) (hw : Cond.fieldLink (mY M).cls i (pw_R c) (pw_T c k).2.1 (pw_T c k).2.2.1 ∈ pw_Tb) (hr : (pw_T c k).1 = pw_R c) (hc : c < 9) (hk : k < pw_N c)
    (hfin : (pw_T c k).2.2.2 = false ∨ ((pw_T c k).2.2.2 = true ∧ (mY M).name = "<init>" ∧ (mY M).cls = pw_R c)) (hty : pw_ty c k = ty) (hn : narrow ty v = v) (hfit : fits ty v = true) (ht : tg σ a = c + 1)
    (h1 : tg σ' = tg σ) (h2 : nn σ' = nn σ) (h3 : (pw_fv c (rf σ a) (μ a)).set k v = pw_fv c (rf σ' a) (μ' a)) (h4 : ∀ b, b ≠ a → pw_ce X σ' μ' b = pw_ce X σ μ b) (h5 : pw_bo σ μ → pw_bo σ' μ') (kk : PW X M b1 b2 (pc + 3) ls st σ' μ' Q) : PW X M b1 b2 pc ls (v :: .ref a :: st) σ μ Q := by
  intro p e R s m args below meth cd H locs cells slots ar Z B S P F L c1 c2 K
  have he : (pw_ws X σ μ)[a - cxB X]? = some (a, .inr (c, pw_fv c (rf σ a) (μ a))) := by rw [P.at (by omega), pw_ce_o ht hc]
  have hcl := pw_cl c hc
  have hd : parseFieldDescriptor (pw_T c k).2.2.1 = some ty := by rw [pw_hty c hc k hk, hty]
  have hl : k < (pw_fv c (rf σ a) (μ a)).length := by rw [pw_fv_len, pw_flN c hc]; exact hk
  have hts := B.2.2.2.2.2.1
  have hown := B.2.2.2.2.1
  have hap := va_apart (own := (mY M).cls) hts (pw_hin c hc) (pw_ty c) (pw_hty c hc) (pw_hnm c hc) S.1 hcl
  obtain ⟨r, g1, cell, q1, q2, q3, q4⟩ := P.1 _ _ he
  have hrr : r = (pw_R c, pw_T c, pw_N c) := Option.some.inj (g1.symm.trans hcl)
  subst hrr
  obtain ⟨hS, hfc, kC, hkC, hkind⟩ := S.1.1 c _ hcl
  obtain ⟨cf, kf, fi, f, hi, hsl⟩ := hS k hk
  have hsame : ∀ x, s.fieldFound? (pw_T c k).1 (pw_T c k).2.1 (pw_T c k).2.2.1 = some x → s.fieldFound? (pw_R c) (pw_T c k).2.1 (pw_T c k).2.2.1 = some x := fun x h => by rw [← hr]; exact h
  have hst := (u_facts hfc hkC (u_lays hts (pw_hin c hc) hk) hi).1
  have fin : ∀ (H1 : Heap), H1[a]? = some (cell.setSlot f.slot v) → H1.size = H.size → (∀ q : Nat, q ≠ a → H1[q]? = H[q]?) → W p (cxL X) e R s m args below meth cd H1 (locs ++ [⟨a, f.slot⟩]) cells slots Z (F0 m (pc + 3) ar st) := by
    intro H1 e1 e2 e3
    rw [hsl] at e1
    refine kk p e R s m args below meth cd H1 _ cells slots ar Z B S (P.upd (by omega) h1 h2 (P.1.set (pw_D X σ μ) he (e := .inr (c, (pw_fv c (rf σ a) (μ a)).set k v)) ⟨_, hcl, t_OB.to (V := updV (vp_V (pw_fv c (rf σ a) (μ a))) k v) ⟨_, e1, q2, q3, t_set q4 hap hk v⟩ (fun j _ => vp_updV_set hl v j)⟩ e3) e2 ?_ h4 (h5 P.2.2.2)) (F.put e2 e3 (P.2.2.1 a (by omega)).1) L c1 c2 K
    rw [pw_ce_o (by rw [h1]; exact ht) hc, h3]
  rcases hfin with hfin | ⟨hfin, hinit, hcls⟩
  · have hlay := hts _ (pw_hin c hc _ (u_in_lay hk))
    unfold u_lay at hlay
    rw [if_neg (by rw [hfin]; decide)] at hlay
    have h6 := u_store hfc hkC hkind hlay hi hd hn hfit
    exact W.putK B.1 B.2.1 (f := f) ⟨hown, hts _ hw, ⟨_, _, _, hsame _ hi⟩, hst⟩ (by rw [q2]; exact h6) q1 q3 (by rw [hsl]; exact k2_hasslot (q4 k hk)) rfl rfl d fun H' e1 e2 e3 => fin H' e1 e2 e3
  · have hlay := hts _ (pw_hin c hc _ (u_in_lay hk))
    unfold u_lay at hlay
    rw [if_pos hfin] at hlay
    have hcf : m.cls = cf := by
      obtain ⟨_, _, c', _, _, _, -, -, hf', -, -, -, hown2, -⟩ := Cond.laysFinal_spec hlay
      have e1 : c' = cf := by have := hi.symm.trans hf'; simp at this; exact this.1.symm
      rw [hr, ← hcls] at hown2
      rw [← e1]; exact Option.some.inj (hown.symm.trans hown2)
    have h6 := u_fits hfc hkC hkind (Or.inr hlay) hi hd hn hfit
    exact W.putFinK B.1 B.2.1 hown (hts _ hw) (hsame _ hi) hst hcf (B.2.2.2.2.2.2.2.1 hinit) (by rw [q2]; exact h6) q1 q3 (by rw [hsl]; exact k2_hasslot (q4 k hk)) rfl rfl d fun H' e1 e2 e3 => fin H' e1 e2 e3
theorem pw_ce_wr {X : Cx} {σ : Sp} {μ : Mm} {a k : Nat} {x : Int32} : ∀ b, b ≠ a → pw_ce X σ (wr μ a k x) b = pw_ce X σ μ b := by
  intro b hb
  simp [pw_ce, wr, hb]
theorem pw_ce_wC {X : Cx} {σ : Sp} {μ : Mm} {a : Nat} {f : Nat → Int32} : ∀ b, b ≠ a → pw_ce X σ (wC μ a f) b = pw_ce X σ μ b := by
  intro b hb
  simp [pw_ce, wC, hb]
theorem pw_ce_wR {X : Cx} {σ : Sp} {μ : Mm} {a k : Nat} {v : Option Nat} : ∀ b, b ≠ a → pw_ce X (wR σ a k v) μ b = pw_ce X σ μ b := by
  intro b hb
  have h : rf (wR σ a k v) b = rf σ b := if_neg hb
  unfold pw_ce
  rw [h]
  rfl
theorem pw_putI {a i : Nat} (c k : Nat) {x : Int32} (d : decode (mB M) pc = .ok (.putfield i, 3)) (hw : Cond.fieldLink (mY M).cls i (pw_R c) (pw_T c k).2.1 (pw_T c k).2.2.1 ∈ pw_Tb) (hr : (pw_T c k).1 = pw_R c) (hc : c < 9) (hf : (pw_fl c)[k]? = some false)
    (hfin : (pw_T c k).2.2.2 = false ∨ ((pw_T c k).2.2.2 = true ∧ (mY M).name = "<init>" ∧ (mY M).cls = pw_R c)) (hty : pw_ty c k = .int) (hz : ¬ (c = 6 ∧ (k = 5 ∨ k = 6))) (ht : tg σ a = c + 1) (kk : PW X M b1 b2 (pc + 3) ls st σ (wr μ a k x) Q) : PW X M b1 b2 pc ls (.int x :: .ref a :: st) σ μ Q :=
  pw_putG c k d hw hr hc (by rw [← pw_flN c hc]; exact (List.getElem?_eq_some_iff.mp hf).1) hfin hty rfl rfl ht rfl rfl (by rw [pw_fv_setI hf]; simp [wr]) pw_ce_wr (fun h => pw_bo_wr h (fun h7 h5 => absurd ⟨by omega, h5⟩ hz)) kk
theorem pw_putZ {a i : Nat} (c k : Nat) {x : Int32} (d : decode (mB M) pc = .ok (.putfield i, 3)) (hw : Cond.fieldLink (mY M).cls i (pw_R c) (pw_T c k).2.1 (pw_T c k).2.2.1 ∈ pw_Tb) (hr : (pw_T c k).1 = pw_R c) (hc : c < 9) (hf : (pw_fl c)[k]? = some false)
    (hfin : (pw_T c k).2.2.2 = false ∨ ((pw_T c k).2.2.2 = true ∧ (mY M).name = "<init>" ∧ (mY M).cls = pw_R c)) (hty : pw_ty c k = .boolean) (hx : x = 0 ∨ x = 1) (ht : tg σ a = c + 1) (kk : PW X M b1 b2 (pc + 3) ls st σ (wr μ a k x) Q) : PW X M b1 b2 pc ls (.int x :: .ref a :: st) σ μ Q :=
  pw_putG c k d hw hr hc (by rw [← pw_flN c hc]; exact (List.getElem?_eq_some_iff.mp hf).1) hfin hty (by rcases hx with rfl | rfl <;> rfl) (by rcases hx with rfl | rfl <;> rfl) ht rfl rfl (by rw [pw_fv_setI hf]; simp [wr]) pw_ce_wr (fun h => pw_bo_wr h (fun _ _ => hx)) kk
theorem pw_putR {a i q : Nat} (c k : Nat) {ty : FieldType} (d : decode (mB M) pc = .ok (.putfield i, 3)) (hw : Cond.fieldLink (mY M).cls i (pw_R c) (pw_T c k).2.1 (pw_T c k).2.2.1 ∈ pw_Tb) (hr : (pw_T c k).1 = pw_R c) (hc : c < 9) (hf : (pw_fl c)[k]? = some true)
    (hfin : (pw_T c k).2.2.2 = false ∨ ((pw_T c k).2.2.2 = true ∧ (mY M).name = "<init>" ∧ (mY M).cls = pw_R c)) (hty : pw_ty c k = ty) (hn : narrow ty (.ref q) = .ref q) (hfit : fits ty (.ref q) = true) (ht : tg σ a = c + 1) (kk : PW X M b1 b2 (pc + 3) ls st (wR σ a k (some q)) μ Q) : PW X M b1 b2 pc ls (.ref q :: .ref a :: st) σ μ Q :=
  pw_putG c k (σ' := wR σ a k (some q)) (μ' := μ) d hw hr hc (by rw [← pw_flN c hc]; exact (List.getElem?_eq_some_iff.mp hf).1) hfin hty hn hfit ht rfl rfl (by rw [show (Value.ref q) = va_rf (some q) from rfl, pw_fv_setR hf]; simp [wR, rf]) pw_ce_wR (fun h => h) kk
theorem pw_iald {a : Nat} {i : Int32} (d : decode (mB M) pc = .ok (.iaload, 1)) (ht : tg σ a = 11) (hin : vp_in i (ln σ a)) (kk : PW X M b1 b2 (pc + 1) ls (.int (μ a i.toNatClampNeg) :: st) σ μ Q) : PW X M b1 b2 pc ls (.int i :: .ref a :: st) σ μ Q :=
  fun p e R s m args below meth cd H locs cells slots ar Z B S P F L c1 c2 K => va_iald B.1 B.2.1 S.1 P.1 (a - cxB X) 1 (by rw [P.at (by omega), pw_ce_I ht]) rfl hin d (kk p e R s m args below meth cd H locs cells slots ar Z B S P F L c1 c2 K)
theorem pw_cald {a : Nat} {i : Int32} (d : decode (mB M) pc = .ok (.caload, 1)) (ht : tg σ a = 10) (hin : vp_in i (ln σ a)) (kk : PW X M b1 b2 (pc + 1) ls (.int (μ a i.toNatClampNeg) :: st) σ μ Q) : PW X M b1 b2 pc ls (.int i :: .ref a :: st) σ μ Q :=
  fun p e R s m args below meth cd H locs cells slots ar Z B S P F L c1 c2 K => va_cald B.1 B.2.1 S.1 P.1 (a - cxB X) 0 (by rw [P.at (by omega), pw_ce_C ht]) rfl hin d (kk p e R s m args below meth cd H locs cells slots ar Z B S P F L c1 c2 K)
theorem pw_iast {a : Nat} {i x : Int32} (d : decode (mB M) pc = .ok (.iastore, 1)) (ht : tg σ a = 11) (hin : vp_in i (ln σ a)) (kk : PW X M b1 b2 (pc + 1) ls st σ (wr μ a i.toNatClampNeg x) Q) : PW X M b1 b2 pc ls (.int x :: .int i :: .ref a :: st) σ μ Q := by
  intro p e R s m args below meth cd H locs cells slots ar Z B S P F L c1 c2 K
  have ha := P.at (a := a) (by omega)
  rw [pw_ce_I ht] at ha
  refine W.iast B.1 B.2.1 (P.1 _ _ ha) ((S.1.2 1 _ rfl).1 (ln σ a) (fun j => .int (μ a j))) (fun q => by cases q) (by show ¬ (i < 0 ∨ (arrV _ _ _).slots.size ≤ _); rw [arrV_size]; exact hin) rfl rfl d fun H1 e1 z oq => ?_
  refine kk p e R s m args below meth cd H1 _ cells slots ar Z B S (P.upd (a := a) (e := _) (by omega) rfl rfl (P.1.set (pw_D X σ μ) ha (e := pw_ce X σ (wr μ a i.toNatClampNeg x) a) ?_ oq) z rfl pw_ce_wr (pw_bo_wr P.2.2.2 (fun h7 => by omega))) (F.put z oq (P.2.2.1 a (by omega)).1) L c1 c2 K
  rw [pw_ce_I ht]
  show H1[a]? = some (vp_cell _ _)
  rw [e1, vp_cell_i, vp_cell_i, arrV_store]
  congr 2
  funext q
  by_cases hq : q = i.toNatClampNeg
  · subst hq
    simp [updV, upd, wr, vp_nar, narrow]
  · simp [updV, upd, wr, hq]
theorem pw_cast {a : Nat} {i x : Int32} (d : decode (mB M) pc = .ok (.castore, 1)) (ht : tg σ a = 10) (hin : vp_in i (ln σ a)) (kk : PW X M b1 b2 (pc + 1) ls st σ (wr μ a i.toNatClampNeg (vp_nar .char x)) Q) : PW X M b1 b2 pc ls (.int x :: .int i :: .ref a :: st) σ μ Q := by
  intro p e R s m args below meth cd H locs cells slots ar Z B S P F L c1 c2 K
  have ha := P.at (a := a) (by omega)
  rw [pw_ce_C ht] at ha
  refine W.cast B.1 B.2.1 (P.1 _ _ ha) ((S.1.2 0 _ rfl).1 (ln σ a) (fun j => .int (μ a j))) (fun q => by cases q) (by show ¬ (i < 0 ∨ (arrV _ _ _).slots.size ≤ _); rw [arrV_size]; exact hin) rfl rfl d fun H1 e1 z oq => ?_
  refine kk p e R s m args below meth cd H1 _ cells slots ar Z B S (P.upd (a := a) (e := _) (by omega) rfl rfl (P.1.set (pw_D X σ μ) ha (e := pw_ce X σ (wr μ a i.toNatClampNeg (vp_nar .char x)) a) ?_ oq) z rfl pw_ce_wr (pw_bo_wr P.2.2.2 (fun h7 => by omega))) (F.put z oq (P.2.2.1 a (by omega)).1) L c1 c2 K
  rw [pw_ce_C ht]
  show H1[a]? = some (vp_cell _ _)
  rw [e1, vp_cell_i, vp_cell_i, arrV_store]
  congr 2
  funext q
  by_cases hq : q = i.toNatClampNeg
  · subst hq
    simp [updV, upd, wr, vp_nar, narrow]
  · simp [updV, upd, wr, hq]
theorem pw_aaldB {a : Nat} {i : Int32} {o : Option Nat} (d : decode (mB M) pc = .ok (.aaload, 1)) (ht : tg σ a = 13) (hin : vp_in i (ln σ a)) (ho : rf σ a i.toNatClampNeg = o) (kk : PW X M b1 b2 (pc + 1) ls (va_rf o :: st) σ μ Q) : PW X M b1 b2 pc ls (.int i :: .ref a :: st) σ μ Q := by
  subst ho
  exact fun p e R s m args below meth cd H locs cells slots ar Z B S P F L c1 c2 K => va_aldq B.1 B.2.1 S.1 P.1 (a - cxB X) 3 (by rw [P.at (by omega), pw_ce_B ht]) rfl hin d (kk p e R s m args below meth cd H locs cells slots ar Z B S P F L c1 c2 K)
theorem pw_aaldS {a : Nat} {i : Int32} {o : Option Nat} (d : decode (mB M) pc = .ok (.aaload, 1)) (ht : tg σ a = 14) (hin : vp_in i (ln σ a)) (ho : rf σ a i.toNatClampNeg = o) (kk : PW X M b1 b2 (pc + 1) ls (va_rf o :: st) σ μ Q) : PW X M b1 b2 pc ls (.int i :: .ref a :: st) σ μ Q := by
  subst ho
  exact fun p e R s m args below meth cd H locs cells slots ar Z B S P F L c1 c2 K => va_aldq B.1 B.2.1 S.1 P.1 (a - cxB X) 4 (by rw [P.at (by omega), pw_ce_S ht]) rfl hin d (kk p e R s m args below meth cd H locs cells slots ar Z B S P F L c1 c2 K)
theorem pw_alenC {a : Nat} (d : decode (mB M) pc = .ok (.arraylength, 1)) (ht : tg σ a = 10) (kk : PW X M b1 b2 (pc + 1) ls (.int (Int32.ofNat (ln σ a)) :: st) σ μ Q) : PW X M b1 b2 pc ls (.ref a :: st) σ μ Q :=
  fun p e R s m args below meth cd H locs cells slots ar Z B S P F L c1 c2 K => va_alen B.1 B.2.1 S.1 P.1 (a - cxB X) 0 (by rw [P.at (by omega), pw_ce_C ht]) rfl rfl d (kk p e R s m args below meth cd H locs cells slots ar Z B S P F L c1 c2 K)
theorem pw_alenI {a : Nat} (d : decode (mB M) pc = .ok (.arraylength, 1)) (ht : tg σ a = 11) (kk : PW X M b1 b2 (pc + 1) ls (.int (Int32.ofNat (ln σ a)) :: st) σ μ Q) : PW X M b1 b2 pc ls (.ref a :: st) σ μ Q :=
  fun p e R s m args below meth cd H locs cells slots ar Z B S P F L c1 c2 K => va_alen B.1 B.2.1 S.1 P.1 (a - cxB X) 1 (by rw [P.at (by omega), pw_ce_I ht]) rfl rfl d (kk p e R s m args below meth cd H locs cells slots ar Z B S P F L c1 c2 K)
end PWH
end
section
/-! Calls, makings, ends, over the pure memory -/
def pw_fx : List Value → List (Option Value)
  | [] => []
  | v :: vs => some v :: (if v.category = 2 then none :: pw_fx vs else pw_fx vs)
def pw_ent (n : Nat) (av : List Value) : List (Option Value) := pw_fx av ++ List.replicate (n - (pw_fx av).length) none
theorem pw_fx_in : ∀ (vs : List Value) (k i : Nat) (v : Value), (pw_fx vs)[i]? = some (some v) → (k + i, v) ∈ lv_args k vs
  | [], k, i, v, h => by simp [pw_fx] at h
  | w :: vs, k, i, v, h => by
    by_cases hc : w.category = 2
    · simp only [pw_fx, if_pos hc] at h
      simp only [lv_args, if_pos hc]
      match i, h with
      | 0, h =>
        cases h
        exact List.mem_cons_self
      | 1, h => cases h
      | j + 2, h =>
        have := pw_fx_in vs (k + 2) j v h
        rw [show k + 2 + j = k + (j + 2) by omega] at this
        exact List.mem_cons_of_mem _ this
    · simp only [pw_fx, if_neg hc] at h
      simp only [lv_args, if_neg hc]
      match i, h with
      | 0, h =>
        cases h
        exact List.mem_cons_self
      | j + 1, h =>
        have := pw_fx_in vs (k + 1) j v h
        rw [show k + 1 + j = k + (j + 1) by omega] at this
        exact List.mem_cons_of_mem _ this
theorem pw_ent_L {n : Nat} {av : List Value} (h : (lg_sl av).length ≤ n) : pw_L ((lg_sl av ++ List.replicate (n - (lg_sl av).length) Slot.unset).toArray) n (pw_ent n av) := by
  obtain ⟨h1, h2, h3⟩ := lv_entry av h
  refine ⟨h1, h2, fun i v hi => h3 (i, v) ?_⟩
  unfold pw_ent at hi
  by_cases hl : i < (pw_fx av).length
  · rw [List.getElem?_append_left hl] at hi
    have := pw_fx_in av 0 i v hi
    rwa [Nat.zero_add] at this
  · rw [List.getElem?_append_right (by omega)] at hi
    obtain ⟨_, h5⟩ := List.getElem?_eq_some_iff.mp hi
    simp at h5
theorem CT.of {X : Cx} {M : Mt} {av : List Value} {σ : Sp} {μ : Mm} {Q : Option Value → Sp → Mm → Prop} (hy : plainName (mY M).cls = true) (hlen : (lg_sl av).length ≤ mL M) (h : PW X M (mCe M) (mSl M) 0 (pw_ent (mL M) av) [] σ μ Q) : CT X M av σ μ Q := by
  refine Met.ofW (cc := mB M) (maxL := mL M) (ret := mRet M) hy rfl ?_
  intro p e s m args below meth c s₁ B hml hv
  obtain ⟨rfl, hSX, hHP⟩ := hv
  have hts := atoms_spec (ws := mWs M) B.pre
  have hown : s.vm.findClass (mY M).cls = some m.cls := findClass_of_methodNamed B.named
  have hlk := B.notSynchronized
  rw [lg_entry_eq]
  refine h p e (mRm M) s m _ below meth c s.heap [] 0 0 _ _ ⟨B.exec, B.bytes, B.returns, hml, hown, fun w hw => hts w (List.mem_cons_of_mem _ hw), hlk, fun hn => (name_of_methodNamed B.named B.method).1.trans hn, Nat.le_refl _, Nat.le_refl _⟩ hSX hHP va_S.rf (pw_ent_L hlen) (by show 0 + mCe M ≤ mCe M; omega) (by show 0 + mSl M ≤ mSl M; omega) ?_
  intro H' locs' cells' slots' ar' pc' r σ' μ' hQ hret hP hS hc hs
  refine W.widen (k := mCe M) (n := mSl M) hc hs ?_
  rcases hret with ⟨rfl, hr, hd⟩ | ⟨x, ty, rfl, hr, hn, hd⟩ | ⟨v, C, rfl, hv, hr, hd⟩
  · exact W.vret B.exec B.bytes (B.returns.trans hr) (fun t ht hW => ⟨⟨none, σ', μ', rfl, hQ, by rw [ht]; exact hP⟩, hS.F ht⟩) hS.2.2 hd
  · exact W.zret B.exec B.bytes (B.returns.trans hr) hn (fun t ht hW => ⟨⟨_, σ', μ', rfl, hQ, by rw [ht]; exact hP⟩, hS.F ht⟩) hS.2.2 hd
  · exact W.aret B.exec B.bytes (B.returns.trans hr) (Or.inl ⟨C, rfl⟩) hv (fun t ht hW => ⟨⟨_, σ', μ', rfl, hQ, by rw [ht]; exact hP⟩, hS.F ht⟩) hS.2.2 hd
/-- what the tables say of a method that is called, with n arguments -/
def MV (M : Mt) (n : Nat) : Prop := Cond.code (mY M) (mB M) (mL M) (mRet M) ∈ pw_Tb ∧ Cond.initialized (mY M).cls ∈ pw_Tb ∧ (mY M).cls ≠ "java/lang/invoke/MethodHandle" ∧ (mY M).cls ≠ "java/lang/invoke/VarHandle" ∧ (parseMethodDescriptor (mY M).desc).map (fun d => d.parameters.length) = some n
def MI (M : Mt) : Prop := Cond.instanceMethod (mY M) ∈ pw_Tb ∧ Cond.selects (mY M).cls (mY M) (mY M) ∈ pw_Tb
def MR (M M' : Mt) : Prop := mF M' + 1 ≤ mF M ∧ 8 + (mL M' + 11) + mLo M' ≤ mLo M
theorem pw_good : ∀ w ∈ pw_Tb, (w.onTables && w.keeps) = true ∨ ∃ ty, w = .arrayClass ty := fun w h => good_of_word (List.mem_filter.mp h).2
theorem pw_goodIn {ws : List Cond} (h : ∀ w ∈ ws, w ∈ pw_Tb) : GoodIn pw_Tb ws := fun w hw => ⟨h w hw, pw_good w (h w hw)⟩
theorem MV.ws {M : Mt} {n : Nat} (h : MV M n) : ∀ w ∈ mWs M, w ∈ pw_Tb := fun w hw => (List.mem_cons.mp hw).elim (fun e => by rw [e]; exact h.1) id
section PWC
variable {X : Cx} {M : Mt} {b1 b2 pc : Nat} {ls : List (Option Value)} {st : List Value} {σ : Sp} {μ : Mm} {Q : Option Value → Sp → Mm → Prop}
theorem pw_Pc_blind {av : List Value} : FrameBlind (va_Pc av (fun U => SX X U ∧ HP X σ μ U.heap)) := by
  intro a U g mk h
  obtain ⟨h1, h2, h3⟩ := h
  exact ⟨h1, h2.moved (H := U.heap) (locs := []) va_S.rf rfl (State.WarmedH.refl U), h3⟩
theorem pw_Pc_at {av : List Value} {s : State} {H : Heap} {locs : List Loc} (S : SX X s) (P : HP X σ μ H) (F : va_S (fun q => cxB X ≤ q) s.heap H locs) : ∀ U : State, U.heap = H → s.WarmedH U.vm → va_Pc av (fun U => SX X U ∧ HP X σ μ U.heap) av.toArray U :=
  fun U hU hW => ⟨rfl, S.moved F hU hW, by rw [hU]; exact P⟩
theorem pw_callC {M' : Mt} {Qc : Option Value → Sp → Mm → Prop} {p : Program} {e : Env} {R : Room} {s : State} {m : MethodId} {args : Array Value} {below : List Frame} {meth : Method} {cd : Code} {H : Heap} {locs : List Loc} {cells slots : Nat} {ar : Array Slot} {Z : State → Prop} {st0 rest : List Value}
    (hr : va_Run p (cxL X) e R s m args below meth cd H locs cells slots (mCe M') (mSl M') (F0 m pc ar st0) rest (fun (st : State) (o : Outcome) (t : State) => (∃ (r : Option Value) (σ' : Sp) (μ' : Mm), o = .returned r ∧ Qc r σ' μ' ∧ HP X σ' μ' t.heap) ∧ va_F (fun q => cxB X ≤ q) st t) (fun q => cxB X ≤ q)) (hS : va_S (fun q => cxB X ≤ q) s.heap H locs)
    (kk : ∀ (r : Option Value) (σ' : Sp) (μ' : Mm) (H1 : Heap) (locs1 : List Loc), Qc r σ' μ' → HP X σ' μ' H1 → va_S (fun q => cxB X ≤ q) s.heap H1 locs1 → W p (cxL X) e R s m args below meth cd H1 locs1 (cells + mCe M') (slots + mSl M') Z (F0 m (pc + 3) ar (r.toList ++ rest))) : W p (cxL X) e R s m args below meth cd H locs cells slots Z (F0 m pc ar st0) := by
  intro T hT Xs
  obtain ⟨v, st₀, t, T', L, h0, X', hL, e1, e2, ⟨⟨r, σ', μ', hv, hp, hb⟩, hz, hk⟩, st⟩ := hr T hT Xs
  cases hv
  rw [h0] at hz hk
  obtain ⟨t2, a1, b1⟩ := kk v σ' μ' T'.heap (locs ++ L) hp (by rw [e1]; exact hb)
    ⟨Nat.le_trans hS.1 (by rw [e1]; exact hz), fun q h1 h2 => by rw [e1, hk q (Nat.lt_of_lt_of_le h1 hS.1) h2]; exact hS.2.1 q h1 h2, fun q hq => by
      rcases List.mem_append.mp hq with h | h
      · exact hS.2.2 q h
      · exact hL q h⟩ T' rfl X'
  exact ⟨t2, st t2 a1, b1⟩
theorem pw_recv {s : State} {H : Heap} {a c : Nat} (S : SX X s) (P : HP X σ μ H) (hc : c < 9) (ht : tg σ a = c + 1) : ∃ cell : Cell, H[a]? = some cell ∧ cell.vm.isStatics = false ∧ s.vm.findClass (pw_R c) = some cell.cls :=
  va_recv (q0 := a - cxB X) S.1 P.1 (pw_cl c hc) (by rw [P.at (by omega), pw_ce_o ht hc])
theorem pw_callV {M' : Mt} {i a n b1' b2' : Nat} {As rest : List Value} {Qc : Option Value → Sp → Mm → Prop} (c : Nat) (d : decode (mB M) pc = .ok (.invokevirtual i, 3)) (hl : Cond.methodLink (mY M).cls i (mY M') ∈ pw_Tb) (hv : MV M' n) (hi : MI M') (hR : MR M M') (hc : c < 9) (hcl : (mY M').cls = pw_R c) (ht : tg σ a = c + 1) (hn : As.length = n) (hrest : (rest.map fun v => v.category).sum ≤ 8)
    (hb1 : b1' + mCe M' ≤ b1) (hb2 : b2' + mSl M' ≤ b2) (h : CT X M' (.ref a :: As) σ μ Qc) (kk : ∀ r σ' μ', Qc r σ' μ' → PW X M b1' b2' (pc + 3) ls (r.toList ++ rest) σ' μ' Q) : PW X M b1 b2 pc ls (As.reverse ++ .ref a :: rest) σ μ Q := by
  intro p e R s m args below meth cd H locs cells slots ar Z B S P F L c1 c2 K
  refine pw_callC (va_runV (As := As) (rest := rest) ⟨B.1, B.2.1, B.2.2.2.1, B.2.2.2.2.1, B.2.2.2.2.2.1⟩ h (cwV n B.2.2.2.2.2.1 (pw_goodIn fun w hw => ?_) rfl rfl rfl ⟨rfl, hv.2.2⟩ ⟨Nat.le_trans hR.1 B.2.2.2.2.2.2.2.2.1, Nat.le_trans hR.2 B.2.2.2.2.2.2.2.2.2⟩) ⟨pw_Pc_blind, by rw [hcl]; exact pw_recv S P hc ht, pw_Pc_at S P F⟩ rfl hn L.1 rfl (lv_room hrest) d ⟨by omega, by omega⟩) F (fun r σ' μ' H1 locs1 hq hP1 hS1 => kk r σ' μ' hq p e R s m args below meth cd H1 locs1 _ _ ar Z B S hP1 hS1 L (by omega) (by omega) K)
  simp only [wsV, List.mem_append, List.mem_cons, List.not_mem_nil, or_false] at hw
  rcases hw with (rfl | rfl | rfl | rfl) | hw
  · exact hl
  · exact hi.1
  · exact hi.2
  · exact hv.2.1
  · exact hv.ws w hw
theorem pw_callS {M' : Mt} {i n b1' b2' : Nat} {As rest : List Value} {Qc : Option Value → Sp → Mm → Prop} (d : decode (mB M) pc = .ok (.invokestatic i, 3)) (hl : Cond.methodLink (mY M).cls i (mY M') ∈ pw_Tb) (hv : MV M' n) (hi : Cond.static (mY M') ∈ pw_Tb) (hR : MR M M') (hn : As.length = n) (hrest : (rest.map fun v => v.category).sum ≤ 8)
    (hb1 : b1' + mCe M' ≤ b1) (hb2 : b2' + mSl M' ≤ b2) (h : CT X M' As σ μ Qc) (kk : ∀ r σ' μ', Qc r σ' μ' → PW X M b1' b2' (pc + 3) ls (r.toList ++ rest) σ' μ' Q) : PW X M b1 b2 pc ls (As.reverse ++ rest) σ μ Q := by
  intro p e R s m args below meth cd H locs cells slots ar Z B S P F L c1 c2 K
  refine pw_callC (va_runS (As := As) (rest := rest) ⟨B.1, B.2.1, B.2.2.2.1, B.2.2.2.2.1, B.2.2.2.2.2.1⟩ h (va_cwS n B.2.2.2.2.2.1 (pw_goodIn fun w hw => ?_) rfl rfl rfl hv.2.2 ⟨Nat.le_trans hR.1 B.2.2.2.2.2.2.2.2.1, Nat.le_trans hR.2 B.2.2.2.2.2.2.2.2.2⟩) ⟨pw_Pc_blind, pw_Pc_at S P F⟩ rfl hn L.1 rfl (lv_room hrest) d ⟨by omega, by omega⟩) F (fun r σ' μ' H1 locs1 hq hP1 hS1 => kk r σ' μ' hq p e R s m args below meth cd H1 locs1 _ _ ar Z B S hP1 hS1 L (by omega) (by omega) K)
  simp only [va_wsS, List.mem_append, List.mem_cons, List.not_mem_nil, or_false] at hw
  rcases hw with (rfl | rfl | rfl) | hw
  · exact hl
  · exact hi
  · exact hv.2.1
  · exact hv.ws w hw
theorem pw_callSN {M' : Mt} {i n b1' b2' : Nat} {As rest : List Value} {Qc : Option Value → Sp → Mm → Prop} (d : decode (mB M) pc = .ok (.invokestatic i, 3)) (hl : Cond.methodLinkNest (mY M).cls i (mY M') RX7 ∈ pw_nest) (hv : MV M' n) (hi : Cond.static (mY M') ∈ pw_Tb) (hR : MR M M') (hn : As.length = n) (hrest : (rest.map fun v => v.category).sum ≤ 8)
    (hb1 : b1' + mCe M' ≤ b1) (hb2 : b2' + mSl M' ≤ b2) (h : CT X M' As σ μ Qc) (kk : ∀ r σ' μ', Qc r σ' μ' → PW X M b1' b2' (pc + 3) ls (r.toList ++ rest) σ' μ' Q) : PW X M b1 b2 pc ls (As.reverse ++ rest) σ μ Q := by
  intro p e R s m args below meth cd H locs cells slots ar Z B S P F L c1 c2 K
  exact pw_callC (va_runSN (As := As) (rest := rest) ⟨B.1, B.2.1, B.2.2.2.1, B.2.2.2.2.1, B.2.2.2.2.2.1⟩ h ⟨va_cnB n B.2.2.2.2.2.1 (pw_goodIn hv.ws) rfl rfl rfl (S.2.1 _ hl) (B.2.2.2.2.2.1 _ hv.2.1) hv.2.2 ⟨Nat.le_trans hR.1 B.2.2.2.2.2.2.2.2.1, Nat.le_trans hR.2 B.2.2.2.2.2.2.2.2.2⟩, B.2.2.2.2.2.1 _ hi, trivial⟩ ⟨pw_Pc_blind, pw_Pc_at S P F⟩ rfl hn L.1 rfl (lv_room hrest) d ⟨by omega, by omega⟩) F (fun r σ' μ' H1 locs1 hq hP1 hS1 => kk r σ' μ' hq p e R s m args below meth cd H1 locs1 _ _ ar Z B S hP1 hS1 L (by omega) (by omega) K)
theorem pw_callI {M' : Mt} {i a n b1' b2' : Nat} {As rest : List Value} {Qc : Option Value → Sp → Mm → Prop} (d : decode (mB M) pc = .ok (.invokespecial i, 3)) (hl : Cond.methodLink (mY M).cls i (mY M') ∈ pw_Tb) (hv : MV M' n) (hi : Cond.instanceMethod (mY M') ∈ pw_Tb) (hret : mRet M' = none) (hy : (mY M').name = "<init>") (hR : MR M M') (hn : As.length = n) (hrest : (rest.map fun v => v.category).sum ≤ 8)
    (hb1 : b1' + mCe M' ≤ b1) (hb2 : b2' + mSl M' ≤ b2) (h : CT X M' (.ref a :: As) σ μ Qc) (kk : ∀ r σ' μ', Qc r σ' μ' → PW X M b1' b2' (pc + 3) ls (r.toList ++ rest) σ' μ' Q) : PW X M b1 b2 pc ls (As.reverse ++ .ref a :: rest) σ μ Q := by
  intro p e R s m args below meth cd H locs cells slots ar Z B S P F L c1 c2 K
  have hw : mWs M' = Cond.code (mY M') (mB M') (mL M') none :: pw_Tb := by unfold mWs; rw [hret]
  exact pw_callC (va_runI (As := As) (rest := rest) ⟨B.1, B.2.1, B.2.2.2.1, B.2.2.2.2.1, B.2.2.2.2.2.1⟩ h (cwI n B.2.2.2.2.2.1 (pw_goodIn hv.ws) hw rfl rfl (B.2.2.2.2.2.1 _ hv.2.1) (B.2.2.2.2.2.1 _ hl) (B.2.2.2.2.2.1 _ hi) hy hv.2.2 ⟨Nat.le_trans hR.1 B.2.2.2.2.2.2.2.2.1, Nat.le_trans hR.2 B.2.2.2.2.2.2.2.2.2⟩) ⟨pw_Pc_blind, pw_Pc_at S P F⟩ rfl hn L.1 rfl (lv_room hrest) d ⟨by omega, by omega⟩) F (fun r σ' μ' H1 locs1 hq hP1 hS1 => kk r σ' μ' hq p e R s m args below meth cd H1 locs1 _ _ ar Z B S hP1 hS1 L (by omega) (by omega) K)
theorem pw_callIN {M' : Mt} {i a n b1' b2' : Nat} {As rest : List Value} {Qc : Option Value → Sp → Mm → Prop} (d : decode (mB M) pc = .ok (.invokespecial i, 3)) (hl : Cond.methodLinkNest (mY M).cls i (mY M') RX7 ∈ pw_nest) (hv : MV M' n) (hi : Cond.instanceMethod (mY M') ∈ pw_Tb) (hret : mRet M' = none) (hy : (mY M').name = "<init>") (hR : MR M M') (hn : As.length = n) (hrest : (rest.map fun v => v.category).sum ≤ 8)
    (hb1 : b1' + mCe M' ≤ b1) (hb2 : b2' + mSl M' ≤ b2) (h : CT X M' (.ref a :: As) σ μ Qc) (kk : ∀ r σ' μ', Qc r σ' μ' → PW X M b1' b2' (pc + 3) ls (r.toList ++ rest) σ' μ' Q) : PW X M b1 b2 pc ls (As.reverse ++ .ref a :: rest) σ μ Q := by
  intro p e R s m args below meth cd H locs cells slots ar Z B S P F L c1 c2 K
  have hw : mWs M' = Cond.code (mY M') (mB M') (mL M') none :: pw_Tb := by unfold mWs; rw [hret]
  exact pw_callC (va_runIN (As := As) (rest := rest) ⟨B.1, B.2.1, B.2.2.2.1, B.2.2.2.2.1, B.2.2.2.2.2.1⟩ h ⟨va_cnB n B.2.2.2.2.2.1 (pw_goodIn hv.ws) hw rfl rfl (S.2.1 _ hl) (B.2.2.2.2.2.1 _ hv.2.1) hv.2.2 ⟨Nat.le_trans hR.1 B.2.2.2.2.2.2.2.2.1, Nat.le_trans hR.2 B.2.2.2.2.2.2.2.2.2⟩, hy, B.2.2.2.2.2.1 _ hi⟩ ⟨pw_Pc_blind, pw_Pc_at S P F⟩ rfl hn L.1 rfl (lv_room hrest) d ⟨by omega, by omega⟩) F (fun r σ' μ' H1 locs1 hq hP1 hS1 => kk r σ' μ' hq p e R s m args below meth cd H1 locs1 _ _ ar Z B S hP1 hS1 L (by omega) (by omega) K)
theorem pw_cV0i {M' : Mt} {i a : Nat} {rest : List Value} (c : Nat) (d : decode (mB M) pc = .ok (.invokevirtual i, 3)) (hl : Cond.methodLink (mY M).cls i (mY M') ∈ pw_Tb) (hv : MV M' 0) (hi : MI M') (hR : MR M M') (hm : mCe M' = 0 ∧ mSl M' = 0) (hc : c < 9) (hcl : (mY M').cls = pw_R c) (hrest : (rest.map fun v => v.category).sum ≤ 8) (ht : tg σ a = c + 1) (h : CTi X M' (.ref a :: []) σ μ (fun x σ' μ' => PW X M b1 b2 (pc + 3) ls (.int x :: rest) σ' μ' Q)) : PW X M b1 b2 pc ls (.ref a :: rest) σ μ Q :=
  pw_callV (As := []) (b1' := b1) (b2' := b2) c d hl hv hi hR hc hcl ht rfl hrest (by omega) (by omega) h (fun r σ' μ' ⟨x, hr, hq⟩ => by subst hr; exact hq)
theorem pw_cV0v {M' : Mt} {i a : Nat} {rest : List Value} (c : Nat) (d : decode (mB M) pc = .ok (.invokevirtual i, 3)) (hl : Cond.methodLink (mY M).cls i (mY M') ∈ pw_Tb) (hv : MV M' 0) (hi : MI M') (hR : MR M M') (hm : mCe M' = 0 ∧ mSl M' = 0) (hc : c < 9) (hcl : (mY M').cls = pw_R c) (hrest : (rest.map fun v => v.category).sum ≤ 8) (ht : tg σ a = c + 1) (h : CTv X M' (.ref a :: []) σ μ (fun σ' μ' => PW X M b1 b2 (pc + 3) ls rest σ' μ' Q)) : PW X M b1 b2 pc ls (.ref a :: rest) σ μ Q :=
  pw_callV (As := []) (b1' := b1) (b2' := b2) c d hl hv hi hR hc hcl ht rfl hrest (by omega) (by omega) h (fun r σ' μ' ⟨hr, hq⟩ => by subst hr; exact hq)
theorem pw_cV0r {M' : Mt} {i a : Nat} {rest : List Value} (c : Nat) (d : decode (mB M) pc = .ok (.invokevirtual i, 3)) (hl : Cond.methodLink (mY M).cls i (mY M') ∈ pw_Tb) (hv : MV M' 0) (hi : MI M') (hR : MR M M') (hm : mCe M' = 0 ∧ mSl M' = 0) (hc : c < 9) (hcl : (mY M').cls = pw_R c) (hrest : (rest.map fun v => v.category).sum ≤ 8) (ht : tg σ a = c + 1) (h : CTr X M' (.ref a :: []) σ μ (fun o σ' μ' => PW X M b1 b2 (pc + 3) ls (va_rf o :: rest) σ' μ' Q)) : PW X M b1 b2 pc ls (.ref a :: rest) σ μ Q :=
  pw_callV (As := []) (b1' := b1) (b2' := b2) c d hl hv hi hR hc hcl ht rfl hrest (by omega) (by omega) h (fun r σ' μ' ⟨x, hr, hq⟩ => by subst hr; exact hq)
theorem pw_cV1i {M' : Mt} {i a : Nat} {a1 : Value} {rest : List Value} (c : Nat) (d : decode (mB M) pc = .ok (.invokevirtual i, 3)) (hl : Cond.methodLink (mY M).cls i (mY M') ∈ pw_Tb) (hv : MV M' 1) (hi : MI M') (hR : MR M M') (hm : mCe M' = 0 ∧ mSl M' = 0) (hc : c < 9) (hcl : (mY M').cls = pw_R c) (hrest : (rest.map fun v => v.category).sum ≤ 8) (ht : tg σ a = c + 1) (h : CTi X M' (.ref a :: [a1]) σ μ (fun x σ' μ' => PW X M b1 b2 (pc + 3) ls (.int x :: rest) σ' μ' Q)) : PW X M b1 b2 pc ls (a1 :: .ref a :: rest) σ μ Q :=
  pw_callV (As := [a1]) (b1' := b1) (b2' := b2) c d hl hv hi hR hc hcl ht rfl hrest (by omega) (by omega) h (fun r σ' μ' ⟨x, hr, hq⟩ => by subst hr; exact hq)
theorem pw_cV1v {M' : Mt} {i a : Nat} {a1 : Value} {rest : List Value} (c : Nat) (d : decode (mB M) pc = .ok (.invokevirtual i, 3)) (hl : Cond.methodLink (mY M).cls i (mY M') ∈ pw_Tb) (hv : MV M' 1) (hi : MI M') (hR : MR M M') (hm : mCe M' = 0 ∧ mSl M' = 0) (hc : c < 9) (hcl : (mY M').cls = pw_R c) (hrest : (rest.map fun v => v.category).sum ≤ 8) (ht : tg σ a = c + 1) (h : CTv X M' (.ref a :: [a1]) σ μ (fun σ' μ' => PW X M b1 b2 (pc + 3) ls rest σ' μ' Q)) : PW X M b1 b2 pc ls (a1 :: .ref a :: rest) σ μ Q :=
  pw_callV (As := [a1]) (b1' := b1) (b2' := b2) c d hl hv hi hR hc hcl ht rfl hrest (by omega) (by omega) h (fun r σ' μ' ⟨hr, hq⟩ => by subst hr; exact hq)
theorem pw_cV1r {M' : Mt} {i a : Nat} {a1 : Value} {rest : List Value} (c : Nat) (d : decode (mB M) pc = .ok (.invokevirtual i, 3)) (hl : Cond.methodLink (mY M).cls i (mY M') ∈ pw_Tb) (hv : MV M' 1) (hi : MI M') (hR : MR M M') (hm : mCe M' = 0 ∧ mSl M' = 0) (hc : c < 9) (hcl : (mY M').cls = pw_R c) (hrest : (rest.map fun v => v.category).sum ≤ 8) (ht : tg σ a = c + 1) (h : CTr X M' (.ref a :: [a1]) σ μ (fun o σ' μ' => PW X M b1 b2 (pc + 3) ls (va_rf o :: rest) σ' μ' Q)) : PW X M b1 b2 pc ls (a1 :: .ref a :: rest) σ μ Q :=
  pw_callV (As := [a1]) (b1' := b1) (b2' := b2) c d hl hv hi hR hc hcl ht rfl hrest (by omega) (by omega) h (fun r σ' μ' ⟨x, hr, hq⟩ => by subst hr; exact hq)
theorem pw_cV2i {M' : Mt} {i a : Nat} {a1 a2 : Value} {rest : List Value} (c : Nat) (d : decode (mB M) pc = .ok (.invokevirtual i, 3)) (hl : Cond.methodLink (mY M).cls i (mY M') ∈ pw_Tb) (hv : MV M' 2) (hi : MI M') (hR : MR M M') (hm : mCe M' = 0 ∧ mSl M' = 0) (hc : c < 9) (hcl : (mY M').cls = pw_R c) (hrest : (rest.map fun v => v.category).sum ≤ 8) (ht : tg σ a = c + 1) (h : CTi X M' (.ref a :: [a1, a2]) σ μ (fun x σ' μ' => PW X M b1 b2 (pc + 3) ls (.int x :: rest) σ' μ' Q)) : PW X M b1 b2 pc ls (a2 :: a1 :: .ref a :: rest) σ μ Q :=
  pw_callV (As := [a1, a2]) (b1' := b1) (b2' := b2) c d hl hv hi hR hc hcl ht rfl hrest (by omega) (by omega) h (fun r σ' μ' ⟨x, hr, hq⟩ => by subst hr; exact hq)
theorem pw_cV2v {M' : Mt} {i a : Nat} {a1 a2 : Value} {rest : List Value} (c : Nat) (d : decode (mB M) pc = .ok (.invokevirtual i, 3)) (hl : Cond.methodLink (mY M).cls i (mY M') ∈ pw_Tb) (hv : MV M' 2) (hi : MI M') (hR : MR M M') (hm : mCe M' = 0 ∧ mSl M' = 0) (hc : c < 9) (hcl : (mY M').cls = pw_R c) (hrest : (rest.map fun v => v.category).sum ≤ 8) (ht : tg σ a = c + 1) (h : CTv X M' (.ref a :: [a1, a2]) σ μ (fun σ' μ' => PW X M b1 b2 (pc + 3) ls rest σ' μ' Q)) : PW X M b1 b2 pc ls (a2 :: a1 :: .ref a :: rest) σ μ Q :=
  pw_callV (As := [a1, a2]) (b1' := b1) (b2' := b2) c d hl hv hi hR hc hcl ht rfl hrest (by omega) (by omega) h (fun r σ' μ' ⟨hr, hq⟩ => by subst hr; exact hq)
theorem pw_cV2r {M' : Mt} {i a : Nat} {a1 a2 : Value} {rest : List Value} (c : Nat) (d : decode (mB M) pc = .ok (.invokevirtual i, 3)) (hl : Cond.methodLink (mY M).cls i (mY M') ∈ pw_Tb) (hv : MV M' 2) (hi : MI M') (hR : MR M M') (hm : mCe M' = 0 ∧ mSl M' = 0) (hc : c < 9) (hcl : (mY M').cls = pw_R c) (hrest : (rest.map fun v => v.category).sum ≤ 8) (ht : tg σ a = c + 1) (h : CTr X M' (.ref a :: [a1, a2]) σ μ (fun o σ' μ' => PW X M b1 b2 (pc + 3) ls (va_rf o :: rest) σ' μ' Q)) : PW X M b1 b2 pc ls (a2 :: a1 :: .ref a :: rest) σ μ Q :=
  pw_callV (As := [a1, a2]) (b1' := b1) (b2' := b2) c d hl hv hi hR hc hcl ht rfl hrest (by omega) (by omega) h (fun r σ' μ' ⟨x, hr, hq⟩ => by subst hr; exact hq)
theorem pw_cV3i {M' : Mt} {i a : Nat} {a1 a2 a3 : Value} {rest : List Value} (c : Nat) (d : decode (mB M) pc = .ok (.invokevirtual i, 3)) (hl : Cond.methodLink (mY M).cls i (mY M') ∈ pw_Tb) (hv : MV M' 3) (hi : MI M') (hR : MR M M') (hm : mCe M' = 0 ∧ mSl M' = 0) (hc : c < 9) (hcl : (mY M').cls = pw_R c) (hrest : (rest.map fun v => v.category).sum ≤ 8) (ht : tg σ a = c + 1) (h : CTi X M' (.ref a :: [a1, a2, a3]) σ μ (fun x σ' μ' => PW X M b1 b2 (pc + 3) ls (.int x :: rest) σ' μ' Q)) : PW X M b1 b2 pc ls (a3 :: a2 :: a1 :: .ref a :: rest) σ μ Q :=
  pw_callV (As := [a1, a2, a3]) (b1' := b1) (b2' := b2) c d hl hv hi hR hc hcl ht rfl hrest (by omega) (by omega) h (fun r σ' μ' ⟨x, hr, hq⟩ => by subst hr; exact hq)
theorem pw_cV3v {M' : Mt} {i a : Nat} {a1 a2 a3 : Value} {rest : List Value} (c : Nat) (d : decode (mB M) pc = .ok (.invokevirtual i, 3)) (hl : Cond.methodLink (mY M).cls i (mY M') ∈ pw_Tb) (hv : MV M' 3) (hi : MI M') (hR : MR M M') (hm : mCe M' = 0 ∧ mSl M' = 0) (hc : c < 9) (hcl : (mY M').cls = pw_R c) (hrest : (rest.map fun v => v.category).sum ≤ 8) (ht : tg σ a = c + 1) (h : CTv X M' (.ref a :: [a1, a2, a3]) σ μ (fun σ' μ' => PW X M b1 b2 (pc + 3) ls rest σ' μ' Q)) : PW X M b1 b2 pc ls (a3 :: a2 :: a1 :: .ref a :: rest) σ μ Q :=
  pw_callV (As := [a1, a2, a3]) (b1' := b1) (b2' := b2) c d hl hv hi hR hc hcl ht rfl hrest (by omega) (by omega) h (fun r σ' μ' ⟨hr, hq⟩ => by subst hr; exact hq)
theorem pw_cV3r {M' : Mt} {i a : Nat} {a1 a2 a3 : Value} {rest : List Value} (c : Nat) (d : decode (mB M) pc = .ok (.invokevirtual i, 3)) (hl : Cond.methodLink (mY M).cls i (mY M') ∈ pw_Tb) (hv : MV M' 3) (hi : MI M') (hR : MR M M') (hm : mCe M' = 0 ∧ mSl M' = 0) (hc : c < 9) (hcl : (mY M').cls = pw_R c) (hrest : (rest.map fun v => v.category).sum ≤ 8) (ht : tg σ a = c + 1) (h : CTr X M' (.ref a :: [a1, a2, a3]) σ μ (fun o σ' μ' => PW X M b1 b2 (pc + 3) ls (va_rf o :: rest) σ' μ' Q)) : PW X M b1 b2 pc ls (a3 :: a2 :: a1 :: .ref a :: rest) σ μ Q :=
  pw_callV (As := [a1, a2, a3]) (b1' := b1) (b2' := b2) c d hl hv hi hR hc hcl ht rfl hrest (by omega) (by omega) h (fun r σ' μ' ⟨x, hr, hq⟩ => by subst hr; exact hq)
theorem pw_cV4i {M' : Mt} {i a : Nat} {a1 a2 a3 a4 : Value} {rest : List Value} (c : Nat) (d : decode (mB M) pc = .ok (.invokevirtual i, 3)) (hl : Cond.methodLink (mY M).cls i (mY M') ∈ pw_Tb) (hv : MV M' 4) (hi : MI M') (hR : MR M M') (hm : mCe M' = 0 ∧ mSl M' = 0) (hc : c < 9) (hcl : (mY M').cls = pw_R c) (hrest : (rest.map fun v => v.category).sum ≤ 8) (ht : tg σ a = c + 1) (h : CTi X M' (.ref a :: [a1, a2, a3, a4]) σ μ (fun x σ' μ' => PW X M b1 b2 (pc + 3) ls (.int x :: rest) σ' μ' Q)) : PW X M b1 b2 pc ls (a4 :: a3 :: a2 :: a1 :: .ref a :: rest) σ μ Q :=
  pw_callV (As := [a1, a2, a3, a4]) (b1' := b1) (b2' := b2) c d hl hv hi hR hc hcl ht rfl hrest (by omega) (by omega) h (fun r σ' μ' ⟨x, hr, hq⟩ => by subst hr; exact hq)
theorem pw_cV4v {M' : Mt} {i a : Nat} {a1 a2 a3 a4 : Value} {rest : List Value} (c : Nat) (d : decode (mB M) pc = .ok (.invokevirtual i, 3)) (hl : Cond.methodLink (mY M).cls i (mY M') ∈ pw_Tb) (hv : MV M' 4) (hi : MI M') (hR : MR M M') (hm : mCe M' = 0 ∧ mSl M' = 0) (hc : c < 9) (hcl : (mY M').cls = pw_R c) (hrest : (rest.map fun v => v.category).sum ≤ 8) (ht : tg σ a = c + 1) (h : CTv X M' (.ref a :: [a1, a2, a3, a4]) σ μ (fun σ' μ' => PW X M b1 b2 (pc + 3) ls rest σ' μ' Q)) : PW X M b1 b2 pc ls (a4 :: a3 :: a2 :: a1 :: .ref a :: rest) σ μ Q :=
  pw_callV (As := [a1, a2, a3, a4]) (b1' := b1) (b2' := b2) c d hl hv hi hR hc hcl ht rfl hrest (by omega) (by omega) h (fun r σ' μ' ⟨hr, hq⟩ => by subst hr; exact hq)
theorem pw_cV4r {M' : Mt} {i a : Nat} {a1 a2 a3 a4 : Value} {rest : List Value} (c : Nat) (d : decode (mB M) pc = .ok (.invokevirtual i, 3)) (hl : Cond.methodLink (mY M).cls i (mY M') ∈ pw_Tb) (hv : MV M' 4) (hi : MI M') (hR : MR M M') (hm : mCe M' = 0 ∧ mSl M' = 0) (hc : c < 9) (hcl : (mY M').cls = pw_R c) (hrest : (rest.map fun v => v.category).sum ≤ 8) (ht : tg σ a = c + 1) (h : CTr X M' (.ref a :: [a1, a2, a3, a4]) σ μ (fun o σ' μ' => PW X M b1 b2 (pc + 3) ls (va_rf o :: rest) σ' μ' Q)) : PW X M b1 b2 pc ls (a4 :: a3 :: a2 :: a1 :: .ref a :: rest) σ μ Q :=
  pw_callV (As := [a1, a2, a3, a4]) (b1' := b1) (b2' := b2) c d hl hv hi hR hc hcl ht rfl hrest (by omega) (by omega) h (fun r σ' μ' ⟨x, hr, hq⟩ => by subst hr; exact hq)
theorem pw_cV5i {M' : Mt} {i a : Nat} {a1 a2 a3 a4 a5 : Value} {rest : List Value} (c : Nat) (d : decode (mB M) pc = .ok (.invokevirtual i, 3)) (hl : Cond.methodLink (mY M).cls i (mY M') ∈ pw_Tb) (hv : MV M' 5) (hi : MI M') (hR : MR M M') (hm : mCe M' = 0 ∧ mSl M' = 0) (hc : c < 9) (hcl : (mY M').cls = pw_R c) (hrest : (rest.map fun v => v.category).sum ≤ 8) (ht : tg σ a = c + 1) (h : CTi X M' (.ref a :: [a1, a2, a3, a4, a5]) σ μ (fun x σ' μ' => PW X M b1 b2 (pc + 3) ls (.int x :: rest) σ' μ' Q)) : PW X M b1 b2 pc ls (a5 :: a4 :: a3 :: a2 :: a1 :: .ref a :: rest) σ μ Q :=
  pw_callV (As := [a1, a2, a3, a4, a5]) (b1' := b1) (b2' := b2) c d hl hv hi hR hc hcl ht rfl hrest (by omega) (by omega) h (fun r σ' μ' ⟨x, hr, hq⟩ => by subst hr; exact hq)
theorem pw_cV5v {M' : Mt} {i a : Nat} {a1 a2 a3 a4 a5 : Value} {rest : List Value} (c : Nat) (d : decode (mB M) pc = .ok (.invokevirtual i, 3)) (hl : Cond.methodLink (mY M).cls i (mY M') ∈ pw_Tb) (hv : MV M' 5) (hi : MI M') (hR : MR M M') (hm : mCe M' = 0 ∧ mSl M' = 0) (hc : c < 9) (hcl : (mY M').cls = pw_R c) (hrest : (rest.map fun v => v.category).sum ≤ 8) (ht : tg σ a = c + 1) (h : CTv X M' (.ref a :: [a1, a2, a3, a4, a5]) σ μ (fun σ' μ' => PW X M b1 b2 (pc + 3) ls rest σ' μ' Q)) : PW X M b1 b2 pc ls (a5 :: a4 :: a3 :: a2 :: a1 :: .ref a :: rest) σ μ Q :=
  pw_callV (As := [a1, a2, a3, a4, a5]) (b1' := b1) (b2' := b2) c d hl hv hi hR hc hcl ht rfl hrest (by omega) (by omega) h (fun r σ' μ' ⟨hr, hq⟩ => by subst hr; exact hq)
theorem pw_cV5r {M' : Mt} {i a : Nat} {a1 a2 a3 a4 a5 : Value} {rest : List Value} (c : Nat) (d : decode (mB M) pc = .ok (.invokevirtual i, 3)) (hl : Cond.methodLink (mY M).cls i (mY M') ∈ pw_Tb) (hv : MV M' 5) (hi : MI M') (hR : MR M M') (hm : mCe M' = 0 ∧ mSl M' = 0) (hc : c < 9) (hcl : (mY M').cls = pw_R c) (hrest : (rest.map fun v => v.category).sum ≤ 8) (ht : tg σ a = c + 1) (h : CTr X M' (.ref a :: [a1, a2, a3, a4, a5]) σ μ (fun o σ' μ' => PW X M b1 b2 (pc + 3) ls (va_rf o :: rest) σ' μ' Q)) : PW X M b1 b2 pc ls (a5 :: a4 :: a3 :: a2 :: a1 :: .ref a :: rest) σ μ Q :=
  pw_callV (As := [a1, a2, a3, a4, a5]) (b1' := b1) (b2' := b2) c d hl hv hi hR hc hcl ht rfl hrest (by omega) (by omega) h (fun r σ' μ' ⟨x, hr, hq⟩ => by subst hr; exact hq)
theorem pw_cV6i {M' : Mt} {i a : Nat} {a1 a2 a3 a4 a5 a6 : Value} {rest : List Value} (c : Nat) (d : decode (mB M) pc = .ok (.invokevirtual i, 3)) (hl : Cond.methodLink (mY M).cls i (mY M') ∈ pw_Tb) (hv : MV M' 6) (hi : MI M') (hR : MR M M') (hm : mCe M' = 0 ∧ mSl M' = 0) (hc : c < 9) (hcl : (mY M').cls = pw_R c) (hrest : (rest.map fun v => v.category).sum ≤ 8) (ht : tg σ a = c + 1) (h : CTi X M' (.ref a :: [a1, a2, a3, a4, a5, a6]) σ μ (fun x σ' μ' => PW X M b1 b2 (pc + 3) ls (.int x :: rest) σ' μ' Q)) : PW X M b1 b2 pc ls (a6 :: a5 :: a4 :: a3 :: a2 :: a1 :: .ref a :: rest) σ μ Q :=
  pw_callV (As := [a1, a2, a3, a4, a5, a6]) (b1' := b1) (b2' := b2) c d hl hv hi hR hc hcl ht rfl hrest (by omega) (by omega) h (fun r σ' μ' ⟨x, hr, hq⟩ => by subst hr; exact hq)
theorem pw_cV6v {M' : Mt} {i a : Nat} {a1 a2 a3 a4 a5 a6 : Value} {rest : List Value} (c : Nat) (d : decode (mB M) pc = .ok (.invokevirtual i, 3)) (hl : Cond.methodLink (mY M).cls i (mY M') ∈ pw_Tb) (hv : MV M' 6) (hi : MI M') (hR : MR M M') (hm : mCe M' = 0 ∧ mSl M' = 0) (hc : c < 9) (hcl : (mY M').cls = pw_R c) (hrest : (rest.map fun v => v.category).sum ≤ 8) (ht : tg σ a = c + 1) (h : CTv X M' (.ref a :: [a1, a2, a3, a4, a5, a6]) σ μ (fun σ' μ' => PW X M b1 b2 (pc + 3) ls rest σ' μ' Q)) : PW X M b1 b2 pc ls (a6 :: a5 :: a4 :: a3 :: a2 :: a1 :: .ref a :: rest) σ μ Q :=
  pw_callV (As := [a1, a2, a3, a4, a5, a6]) (b1' := b1) (b2' := b2) c d hl hv hi hR hc hcl ht rfl hrest (by omega) (by omega) h (fun r σ' μ' ⟨hr, hq⟩ => by subst hr; exact hq)
theorem pw_cV6r {M' : Mt} {i a : Nat} {a1 a2 a3 a4 a5 a6 : Value} {rest : List Value} (c : Nat) (d : decode (mB M) pc = .ok (.invokevirtual i, 3)) (hl : Cond.methodLink (mY M).cls i (mY M') ∈ pw_Tb) (hv : MV M' 6) (hi : MI M') (hR : MR M M') (hm : mCe M' = 0 ∧ mSl M' = 0) (hc : c < 9) (hcl : (mY M').cls = pw_R c) (hrest : (rest.map fun v => v.category).sum ≤ 8) (ht : tg σ a = c + 1) (h : CTr X M' (.ref a :: [a1, a2, a3, a4, a5, a6]) σ μ (fun o σ' μ' => PW X M b1 b2 (pc + 3) ls (va_rf o :: rest) σ' μ' Q)) : PW X M b1 b2 pc ls (a6 :: a5 :: a4 :: a3 :: a2 :: a1 :: .ref a :: rest) σ μ Q :=
  pw_callV (As := [a1, a2, a3, a4, a5, a6]) (b1' := b1) (b2' := b2) c d hl hv hi hR hc hcl ht rfl hrest (by omega) (by omega) h (fun r σ' μ' ⟨x, hr, hq⟩ => by subst hr; exact hq)
theorem pw_cV7i {M' : Mt} {i a : Nat} {a1 a2 a3 a4 a5 a6 a7 : Value} {rest : List Value} (c : Nat) (d : decode (mB M) pc = .ok (.invokevirtual i, 3)) (hl : Cond.methodLink (mY M).cls i (mY M') ∈ pw_Tb) (hv : MV M' 7) (hi : MI M') (hR : MR M M') (hm : mCe M' = 0 ∧ mSl M' = 0) (hc : c < 9) (hcl : (mY M').cls = pw_R c) (hrest : (rest.map fun v => v.category).sum ≤ 8) (ht : tg σ a = c + 1) (h : CTi X M' (.ref a :: [a1, a2, a3, a4, a5, a6, a7]) σ μ (fun x σ' μ' => PW X M b1 b2 (pc + 3) ls (.int x :: rest) σ' μ' Q)) : PW X M b1 b2 pc ls (a7 :: a6 :: a5 :: a4 :: a3 :: a2 :: a1 :: .ref a :: rest) σ μ Q :=
  pw_callV (As := [a1, a2, a3, a4, a5, a6, a7]) (b1' := b1) (b2' := b2) c d hl hv hi hR hc hcl ht rfl hrest (by omega) (by omega) h (fun r σ' μ' ⟨x, hr, hq⟩ => by subst hr; exact hq)
theorem pw_cV7v {M' : Mt} {i a : Nat} {a1 a2 a3 a4 a5 a6 a7 : Value} {rest : List Value} (c : Nat) (d : decode (mB M) pc = .ok (.invokevirtual i, 3)) (hl : Cond.methodLink (mY M).cls i (mY M') ∈ pw_Tb) (hv : MV M' 7) (hi : MI M') (hR : MR M M') (hm : mCe M' = 0 ∧ mSl M' = 0) (hc : c < 9) (hcl : (mY M').cls = pw_R c) (hrest : (rest.map fun v => v.category).sum ≤ 8) (ht : tg σ a = c + 1) (h : CTv X M' (.ref a :: [a1, a2, a3, a4, a5, a6, a7]) σ μ (fun σ' μ' => PW X M b1 b2 (pc + 3) ls rest σ' μ' Q)) : PW X M b1 b2 pc ls (a7 :: a6 :: a5 :: a4 :: a3 :: a2 :: a1 :: .ref a :: rest) σ μ Q :=
  pw_callV (As := [a1, a2, a3, a4, a5, a6, a7]) (b1' := b1) (b2' := b2) c d hl hv hi hR hc hcl ht rfl hrest (by omega) (by omega) h (fun r σ' μ' ⟨hr, hq⟩ => by subst hr; exact hq)
theorem pw_cV7r {M' : Mt} {i a : Nat} {a1 a2 a3 a4 a5 a6 a7 : Value} {rest : List Value} (c : Nat) (d : decode (mB M) pc = .ok (.invokevirtual i, 3)) (hl : Cond.methodLink (mY M).cls i (mY M') ∈ pw_Tb) (hv : MV M' 7) (hi : MI M') (hR : MR M M') (hm : mCe M' = 0 ∧ mSl M' = 0) (hc : c < 9) (hcl : (mY M').cls = pw_R c) (hrest : (rest.map fun v => v.category).sum ≤ 8) (ht : tg σ a = c + 1) (h : CTr X M' (.ref a :: [a1, a2, a3, a4, a5, a6, a7]) σ μ (fun o σ' μ' => PW X M b1 b2 (pc + 3) ls (va_rf o :: rest) σ' μ' Q)) : PW X M b1 b2 pc ls (a7 :: a6 :: a5 :: a4 :: a3 :: a2 :: a1 :: .ref a :: rest) σ μ Q :=
  pw_callV (As := [a1, a2, a3, a4, a5, a6, a7]) (b1' := b1) (b2' := b2) c d hl hv hi hR hc hcl ht rfl hrest (by omega) (by omega) h (fun r σ' μ' ⟨x, hr, hq⟩ => by subst hr; exact hq)
theorem pw_cV8i {M' : Mt} {i a : Nat} {a1 a2 a3 a4 a5 a6 a7 a8 : Value} {rest : List Value} (c : Nat) (d : decode (mB M) pc = .ok (.invokevirtual i, 3)) (hl : Cond.methodLink (mY M).cls i (mY M') ∈ pw_Tb) (hv : MV M' 8) (hi : MI M') (hR : MR M M') (hm : mCe M' = 0 ∧ mSl M' = 0) (hc : c < 9) (hcl : (mY M').cls = pw_R c) (hrest : (rest.map fun v => v.category).sum ≤ 8) (ht : tg σ a = c + 1) (h : CTi X M' (.ref a :: [a1, a2, a3, a4, a5, a6, a7, a8]) σ μ (fun x σ' μ' => PW X M b1 b2 (pc + 3) ls (.int x :: rest) σ' μ' Q)) : PW X M b1 b2 pc ls (a8 :: a7 :: a6 :: a5 :: a4 :: a3 :: a2 :: a1 :: .ref a :: rest) σ μ Q :=
  pw_callV (As := [a1, a2, a3, a4, a5, a6, a7, a8]) (b1' := b1) (b2' := b2) c d hl hv hi hR hc hcl ht rfl hrest (by omega) (by omega) h (fun r σ' μ' ⟨x, hr, hq⟩ => by subst hr; exact hq)
theorem pw_cV8v {M' : Mt} {i a : Nat} {a1 a2 a3 a4 a5 a6 a7 a8 : Value} {rest : List Value} (c : Nat) (d : decode (mB M) pc = .ok (.invokevirtual i, 3)) (hl : Cond.methodLink (mY M).cls i (mY M') ∈ pw_Tb) (hv : MV M' 8) (hi : MI M') (hR : MR M M') (hm : mCe M' = 0 ∧ mSl M' = 0) (hc : c < 9) (hcl : (mY M').cls = pw_R c) (hrest : (rest.map fun v => v.category).sum ≤ 8) (ht : tg σ a = c + 1) (h : CTv X M' (.ref a :: [a1, a2, a3, a4, a5, a6, a7, a8]) σ μ (fun σ' μ' => PW X M b1 b2 (pc + 3) ls rest σ' μ' Q)) : PW X M b1 b2 pc ls (a8 :: a7 :: a6 :: a5 :: a4 :: a3 :: a2 :: a1 :: .ref a :: rest) σ μ Q :=
  pw_callV (As := [a1, a2, a3, a4, a5, a6, a7, a8]) (b1' := b1) (b2' := b2) c d hl hv hi hR hc hcl ht rfl hrest (by omega) (by omega) h (fun r σ' μ' ⟨hr, hq⟩ => by subst hr; exact hq)
theorem pw_cV8r {M' : Mt} {i a : Nat} {a1 a2 a3 a4 a5 a6 a7 a8 : Value} {rest : List Value} (c : Nat) (d : decode (mB M) pc = .ok (.invokevirtual i, 3)) (hl : Cond.methodLink (mY M).cls i (mY M') ∈ pw_Tb) (hv : MV M' 8) (hi : MI M') (hR : MR M M') (hm : mCe M' = 0 ∧ mSl M' = 0) (hc : c < 9) (hcl : (mY M').cls = pw_R c) (hrest : (rest.map fun v => v.category).sum ≤ 8) (ht : tg σ a = c + 1) (h : CTr X M' (.ref a :: [a1, a2, a3, a4, a5, a6, a7, a8]) σ μ (fun o σ' μ' => PW X M b1 b2 (pc + 3) ls (va_rf o :: rest) σ' μ' Q)) : PW X M b1 b2 pc ls (a8 :: a7 :: a6 :: a5 :: a4 :: a3 :: a2 :: a1 :: .ref a :: rest) σ μ Q :=
  pw_callV (As := [a1, a2, a3, a4, a5, a6, a7, a8]) (b1' := b1) (b2' := b2) c d hl hv hi hR hc hcl ht rfl hrest (by omega) (by omega) h (fun r σ' μ' ⟨x, hr, hq⟩ => by subst hr; exact hq)
theorem pw_cS0i {M' : Mt} {i : Nat} {rest : List Value} (d : decode (mB M) pc = .ok (.invokestatic i, 3)) (hl : Cond.methodLink (mY M).cls i (mY M') ∈ pw_Tb) (hv : MV M' 0) (hi : Cond.static (mY M') ∈ pw_Tb) (hR : MR M M') (hm : mCe M' = 0 ∧ mSl M' = 0) (hrest : (rest.map fun v => v.category).sum ≤ 8) (h : CTi X M' [] σ μ (fun x σ' μ' => PW X M b1 b2 (pc + 3) ls (.int x :: rest) σ' μ' Q)) : PW X M b1 b2 pc ls (rest) σ μ Q :=
  pw_callS (As := []) (b1' := b1) (b2' := b2) d hl hv hi hR rfl hrest (by omega) (by omega) h (fun r σ' μ' ⟨x, hr, hq⟩ => by subst hr; exact hq)
theorem pw_cS0v {M' : Mt} {i : Nat} {rest : List Value} (d : decode (mB M) pc = .ok (.invokestatic i, 3)) (hl : Cond.methodLink (mY M).cls i (mY M') ∈ pw_Tb) (hv : MV M' 0) (hi : Cond.static (mY M') ∈ pw_Tb) (hR : MR M M') (hm : mCe M' = 0 ∧ mSl M' = 0) (hrest : (rest.map fun v => v.category).sum ≤ 8) (h : CTv X M' [] σ μ (fun σ' μ' => PW X M b1 b2 (pc + 3) ls rest σ' μ' Q)) : PW X M b1 b2 pc ls (rest) σ μ Q :=
  pw_callS (As := []) (b1' := b1) (b2' := b2) d hl hv hi hR rfl hrest (by omega) (by omega) h (fun r σ' μ' ⟨hr, hq⟩ => by subst hr; exact hq)
theorem pw_cS1i {M' : Mt} {i : Nat} {a1 : Value} {rest : List Value} (d : decode (mB M) pc = .ok (.invokestatic i, 3)) (hl : Cond.methodLink (mY M).cls i (mY M') ∈ pw_Tb) (hv : MV M' 1) (hi : Cond.static (mY M') ∈ pw_Tb) (hR : MR M M') (hm : mCe M' = 0 ∧ mSl M' = 0) (hrest : (rest.map fun v => v.category).sum ≤ 8) (h : CTi X M' [a1] σ μ (fun x σ' μ' => PW X M b1 b2 (pc + 3) ls (.int x :: rest) σ' μ' Q)) : PW X M b1 b2 pc ls (a1 :: rest) σ μ Q :=
  pw_callS (As := [a1]) (b1' := b1) (b2' := b2) d hl hv hi hR rfl hrest (by omega) (by omega) h (fun r σ' μ' ⟨x, hr, hq⟩ => by subst hr; exact hq)
theorem pw_cS1v {M' : Mt} {i : Nat} {a1 : Value} {rest : List Value} (d : decode (mB M) pc = .ok (.invokestatic i, 3)) (hl : Cond.methodLink (mY M).cls i (mY M') ∈ pw_Tb) (hv : MV M' 1) (hi : Cond.static (mY M') ∈ pw_Tb) (hR : MR M M') (hm : mCe M' = 0 ∧ mSl M' = 0) (hrest : (rest.map fun v => v.category).sum ≤ 8) (h : CTv X M' [a1] σ μ (fun σ' μ' => PW X M b1 b2 (pc + 3) ls rest σ' μ' Q)) : PW X M b1 b2 pc ls (a1 :: rest) σ μ Q :=
  pw_callS (As := [a1]) (b1' := b1) (b2' := b2) d hl hv hi hR rfl hrest (by omega) (by omega) h (fun r σ' μ' ⟨hr, hq⟩ => by subst hr; exact hq)
theorem pw_cS2i {M' : Mt} {i : Nat} {a1 a2 : Value} {rest : List Value} (d : decode (mB M) pc = .ok (.invokestatic i, 3)) (hl : Cond.methodLink (mY M).cls i (mY M') ∈ pw_Tb) (hv : MV M' 2) (hi : Cond.static (mY M') ∈ pw_Tb) (hR : MR M M') (hm : mCe M' = 0 ∧ mSl M' = 0) (hrest : (rest.map fun v => v.category).sum ≤ 8) (h : CTi X M' [a1, a2] σ μ (fun x σ' μ' => PW X M b1 b2 (pc + 3) ls (.int x :: rest) σ' μ' Q)) : PW X M b1 b2 pc ls (a2 :: a1 :: rest) σ μ Q :=
  pw_callS (As := [a1, a2]) (b1' := b1) (b2' := b2) d hl hv hi hR rfl hrest (by omega) (by omega) h (fun r σ' μ' ⟨x, hr, hq⟩ => by subst hr; exact hq)
theorem pw_cS2v {M' : Mt} {i : Nat} {a1 a2 : Value} {rest : List Value} (d : decode (mB M) pc = .ok (.invokestatic i, 3)) (hl : Cond.methodLink (mY M).cls i (mY M') ∈ pw_Tb) (hv : MV M' 2) (hi : Cond.static (mY M') ∈ pw_Tb) (hR : MR M M') (hm : mCe M' = 0 ∧ mSl M' = 0) (hrest : (rest.map fun v => v.category).sum ≤ 8) (h : CTv X M' [a1, a2] σ μ (fun σ' μ' => PW X M b1 b2 (pc + 3) ls rest σ' μ' Q)) : PW X M b1 b2 pc ls (a2 :: a1 :: rest) σ μ Q :=
  pw_callS (As := [a1, a2]) (b1' := b1) (b2' := b2) d hl hv hi hR rfl hrest (by omega) (by omega) h (fun r σ' μ' ⟨hr, hq⟩ => by subst hr; exact hq)
theorem pw_cS3i {M' : Mt} {i : Nat} {a1 a2 a3 : Value} {rest : List Value} (d : decode (mB M) pc = .ok (.invokestatic i, 3)) (hl : Cond.methodLink (mY M).cls i (mY M') ∈ pw_Tb) (hv : MV M' 3) (hi : Cond.static (mY M') ∈ pw_Tb) (hR : MR M M') (hm : mCe M' = 0 ∧ mSl M' = 0) (hrest : (rest.map fun v => v.category).sum ≤ 8) (h : CTi X M' [a1, a2, a3] σ μ (fun x σ' μ' => PW X M b1 b2 (pc + 3) ls (.int x :: rest) σ' μ' Q)) : PW X M b1 b2 pc ls (a3 :: a2 :: a1 :: rest) σ μ Q :=
  pw_callS (As := [a1, a2, a3]) (b1' := b1) (b2' := b2) d hl hv hi hR rfl hrest (by omega) (by omega) h (fun r σ' μ' ⟨x, hr, hq⟩ => by subst hr; exact hq)
theorem pw_cS3v {M' : Mt} {i : Nat} {a1 a2 a3 : Value} {rest : List Value} (d : decode (mB M) pc = .ok (.invokestatic i, 3)) (hl : Cond.methodLink (mY M).cls i (mY M') ∈ pw_Tb) (hv : MV M' 3) (hi : Cond.static (mY M') ∈ pw_Tb) (hR : MR M M') (hm : mCe M' = 0 ∧ mSl M' = 0) (hrest : (rest.map fun v => v.category).sum ≤ 8) (h : CTv X M' [a1, a2, a3] σ μ (fun σ' μ' => PW X M b1 b2 (pc + 3) ls rest σ' μ' Q)) : PW X M b1 b2 pc ls (a3 :: a2 :: a1 :: rest) σ μ Q :=
  pw_callS (As := [a1, a2, a3]) (b1' := b1) (b2' := b2) d hl hv hi hR rfl hrest (by omega) (by omega) h (fun r σ' μ' ⟨hr, hq⟩ => by subst hr; exact hq)
theorem pw_cS4i {M' : Mt} {i : Nat} {a1 a2 a3 a4 : Value} {rest : List Value} (d : decode (mB M) pc = .ok (.invokestatic i, 3)) (hl : Cond.methodLink (mY M).cls i (mY M') ∈ pw_Tb) (hv : MV M' 4) (hi : Cond.static (mY M') ∈ pw_Tb) (hR : MR M M') (hm : mCe M' = 0 ∧ mSl M' = 0) (hrest : (rest.map fun v => v.category).sum ≤ 8) (h : CTi X M' [a1, a2, a3, a4] σ μ (fun x σ' μ' => PW X M b1 b2 (pc + 3) ls (.int x :: rest) σ' μ' Q)) : PW X M b1 b2 pc ls (a4 :: a3 :: a2 :: a1 :: rest) σ μ Q :=
  pw_callS (As := [a1, a2, a3, a4]) (b1' := b1) (b2' := b2) d hl hv hi hR rfl hrest (by omega) (by omega) h (fun r σ' μ' ⟨x, hr, hq⟩ => by subst hr; exact hq)
theorem pw_cS4v {M' : Mt} {i : Nat} {a1 a2 a3 a4 : Value} {rest : List Value} (d : decode (mB M) pc = .ok (.invokestatic i, 3)) (hl : Cond.methodLink (mY M).cls i (mY M') ∈ pw_Tb) (hv : MV M' 4) (hi : Cond.static (mY M') ∈ pw_Tb) (hR : MR M M') (hm : mCe M' = 0 ∧ mSl M' = 0) (hrest : (rest.map fun v => v.category).sum ≤ 8) (h : CTv X M' [a1, a2, a3, a4] σ μ (fun σ' μ' => PW X M b1 b2 (pc + 3) ls rest σ' μ' Q)) : PW X M b1 b2 pc ls (a4 :: a3 :: a2 :: a1 :: rest) σ μ Q :=
  pw_callS (As := [a1, a2, a3, a4]) (b1' := b1) (b2' := b2) d hl hv hi hR rfl hrest (by omega) (by omega) h (fun r σ' μ' ⟨hr, hq⟩ => by subst hr; exact hq)
theorem pw_cS5i {M' : Mt} {i : Nat} {a1 a2 a3 a4 a5 : Value} {rest : List Value} (d : decode (mB M) pc = .ok (.invokestatic i, 3)) (hl : Cond.methodLink (mY M).cls i (mY M') ∈ pw_Tb) (hv : MV M' 5) (hi : Cond.static (mY M') ∈ pw_Tb) (hR : MR M M') (hm : mCe M' = 0 ∧ mSl M' = 0) (hrest : (rest.map fun v => v.category).sum ≤ 8) (h : CTi X M' [a1, a2, a3, a4, a5] σ μ (fun x σ' μ' => PW X M b1 b2 (pc + 3) ls (.int x :: rest) σ' μ' Q)) : PW X M b1 b2 pc ls (a5 :: a4 :: a3 :: a2 :: a1 :: rest) σ μ Q :=
  pw_callS (As := [a1, a2, a3, a4, a5]) (b1' := b1) (b2' := b2) d hl hv hi hR rfl hrest (by omega) (by omega) h (fun r σ' μ' ⟨x, hr, hq⟩ => by subst hr; exact hq)
theorem pw_cS5v {M' : Mt} {i : Nat} {a1 a2 a3 a4 a5 : Value} {rest : List Value} (d : decode (mB M) pc = .ok (.invokestatic i, 3)) (hl : Cond.methodLink (mY M).cls i (mY M') ∈ pw_Tb) (hv : MV M' 5) (hi : Cond.static (mY M') ∈ pw_Tb) (hR : MR M M') (hm : mCe M' = 0 ∧ mSl M' = 0) (hrest : (rest.map fun v => v.category).sum ≤ 8) (h : CTv X M' [a1, a2, a3, a4, a5] σ μ (fun σ' μ' => PW X M b1 b2 (pc + 3) ls rest σ' μ' Q)) : PW X M b1 b2 pc ls (a5 :: a4 :: a3 :: a2 :: a1 :: rest) σ μ Q :=
  pw_callS (As := [a1, a2, a3, a4, a5]) (b1' := b1) (b2' := b2) d hl hv hi hR rfl hrest (by omega) (by omega) h (fun r σ' μ' ⟨hr, hq⟩ => by subst hr; exact hq)
theorem pw_cS6i {M' : Mt} {i : Nat} {a1 a2 a3 a4 a5 a6 : Value} {rest : List Value} (d : decode (mB M) pc = .ok (.invokestatic i, 3)) (hl : Cond.methodLink (mY M).cls i (mY M') ∈ pw_Tb) (hv : MV M' 6) (hi : Cond.static (mY M') ∈ pw_Tb) (hR : MR M M') (hm : mCe M' = 0 ∧ mSl M' = 0) (hrest : (rest.map fun v => v.category).sum ≤ 8) (h : CTi X M' [a1, a2, a3, a4, a5, a6] σ μ (fun x σ' μ' => PW X M b1 b2 (pc + 3) ls (.int x :: rest) σ' μ' Q)) : PW X M b1 b2 pc ls (a6 :: a5 :: a4 :: a3 :: a2 :: a1 :: rest) σ μ Q :=
  pw_callS (As := [a1, a2, a3, a4, a5, a6]) (b1' := b1) (b2' := b2) d hl hv hi hR rfl hrest (by omega) (by omega) h (fun r σ' μ' ⟨x, hr, hq⟩ => by subst hr; exact hq)
theorem pw_cS6v {M' : Mt} {i : Nat} {a1 a2 a3 a4 a5 a6 : Value} {rest : List Value} (d : decode (mB M) pc = .ok (.invokestatic i, 3)) (hl : Cond.methodLink (mY M).cls i (mY M') ∈ pw_Tb) (hv : MV M' 6) (hi : Cond.static (mY M') ∈ pw_Tb) (hR : MR M M') (hm : mCe M' = 0 ∧ mSl M' = 0) (hrest : (rest.map fun v => v.category).sum ≤ 8) (h : CTv X M' [a1, a2, a3, a4, a5, a6] σ μ (fun σ' μ' => PW X M b1 b2 (pc + 3) ls rest σ' μ' Q)) : PW X M b1 b2 pc ls (a6 :: a5 :: a4 :: a3 :: a2 :: a1 :: rest) σ μ Q :=
  pw_callS (As := [a1, a2, a3, a4, a5, a6]) (b1' := b1) (b2' := b2) d hl hv hi hR rfl hrest (by omega) (by omega) h (fun r σ' μ' ⟨hr, hq⟩ => by subst hr; exact hq)
theorem pw_cS7i {M' : Mt} {i : Nat} {a1 a2 a3 a4 a5 a6 a7 : Value} {rest : List Value} (d : decode (mB M) pc = .ok (.invokestatic i, 3)) (hl : Cond.methodLink (mY M).cls i (mY M') ∈ pw_Tb) (hv : MV M' 7) (hi : Cond.static (mY M') ∈ pw_Tb) (hR : MR M M') (hm : mCe M' = 0 ∧ mSl M' = 0) (hrest : (rest.map fun v => v.category).sum ≤ 8) (h : CTi X M' [a1, a2, a3, a4, a5, a6, a7] σ μ (fun x σ' μ' => PW X M b1 b2 (pc + 3) ls (.int x :: rest) σ' μ' Q)) : PW X M b1 b2 pc ls (a7 :: a6 :: a5 :: a4 :: a3 :: a2 :: a1 :: rest) σ μ Q :=
  pw_callS (As := [a1, a2, a3, a4, a5, a6, a7]) (b1' := b1) (b2' := b2) d hl hv hi hR rfl hrest (by omega) (by omega) h (fun r σ' μ' ⟨x, hr, hq⟩ => by subst hr; exact hq)
theorem pw_cS7v {M' : Mt} {i : Nat} {a1 a2 a3 a4 a5 a6 a7 : Value} {rest : List Value} (d : decode (mB M) pc = .ok (.invokestatic i, 3)) (hl : Cond.methodLink (mY M).cls i (mY M') ∈ pw_Tb) (hv : MV M' 7) (hi : Cond.static (mY M') ∈ pw_Tb) (hR : MR M M') (hm : mCe M' = 0 ∧ mSl M' = 0) (hrest : (rest.map fun v => v.category).sum ≤ 8) (h : CTv X M' [a1, a2, a3, a4, a5, a6, a7] σ μ (fun σ' μ' => PW X M b1 b2 (pc + 3) ls rest σ' μ' Q)) : PW X M b1 b2 pc ls (a7 :: a6 :: a5 :: a4 :: a3 :: a2 :: a1 :: rest) σ μ Q :=
  pw_callS (As := [a1, a2, a3, a4, a5, a6, a7]) (b1' := b1) (b2' := b2) d hl hv hi hR rfl hrest (by omega) (by omega) h (fun r σ' μ' ⟨hr, hq⟩ => by subst hr; exact hq)
theorem pw_cS8i {M' : Mt} {i : Nat} {a1 a2 a3 a4 a5 a6 a7 a8 : Value} {rest : List Value} (d : decode (mB M) pc = .ok (.invokestatic i, 3)) (hl : Cond.methodLink (mY M).cls i (mY M') ∈ pw_Tb) (hv : MV M' 8) (hi : Cond.static (mY M') ∈ pw_Tb) (hR : MR M M') (hm : mCe M' = 0 ∧ mSl M' = 0) (hrest : (rest.map fun v => v.category).sum ≤ 8) (h : CTi X M' [a1, a2, a3, a4, a5, a6, a7, a8] σ μ (fun x σ' μ' => PW X M b1 b2 (pc + 3) ls (.int x :: rest) σ' μ' Q)) : PW X M b1 b2 pc ls (a8 :: a7 :: a6 :: a5 :: a4 :: a3 :: a2 :: a1 :: rest) σ μ Q :=
  pw_callS (As := [a1, a2, a3, a4, a5, a6, a7, a8]) (b1' := b1) (b2' := b2) d hl hv hi hR rfl hrest (by omega) (by omega) h (fun r σ' μ' ⟨x, hr, hq⟩ => by subst hr; exact hq)
theorem pw_cS8v {M' : Mt} {i : Nat} {a1 a2 a3 a4 a5 a6 a7 a8 : Value} {rest : List Value} (d : decode (mB M) pc = .ok (.invokestatic i, 3)) (hl : Cond.methodLink (mY M).cls i (mY M') ∈ pw_Tb) (hv : MV M' 8) (hi : Cond.static (mY M') ∈ pw_Tb) (hR : MR M M') (hm : mCe M' = 0 ∧ mSl M' = 0) (hrest : (rest.map fun v => v.category).sum ≤ 8) (h : CTv X M' [a1, a2, a3, a4, a5, a6, a7, a8] σ μ (fun σ' μ' => PW X M b1 b2 (pc + 3) ls rest σ' μ' Q)) : PW X M b1 b2 pc ls (a8 :: a7 :: a6 :: a5 :: a4 :: a3 :: a2 :: a1 :: rest) σ μ Q :=
  pw_callS (As := [a1, a2, a3, a4, a5, a6, a7, a8]) (b1' := b1) (b2' := b2) d hl hv hi hR rfl hrest (by omega) (by omega) h (fun r σ' μ' ⟨hr, hq⟩ => by subst hr; exact hq)
theorem pw_cSN0i {M' : Mt} {i : Nat} {rest : List Value} (d : decode (mB M) pc = .ok (.invokestatic i, 3)) (hl : Cond.methodLinkNest (mY M).cls i (mY M') RX7 ∈ pw_nest) (hv : MV M' 0) (hi : Cond.static (mY M') ∈ pw_Tb) (hR : MR M M') (hm : mCe M' = 0 ∧ mSl M' = 0) (hrest : (rest.map fun v => v.category).sum ≤ 8) (h : CTi X M' [] σ μ (fun x σ' μ' => PW X M b1 b2 (pc + 3) ls (.int x :: rest) σ' μ' Q)) : PW X M b1 b2 pc ls (rest) σ μ Q :=
  pw_callSN (As := []) (b1' := b1) (b2' := b2) d hl hv hi hR rfl hrest (by omega) (by omega) h (fun r σ' μ' ⟨x, hr, hq⟩ => by subst hr; exact hq)
theorem pw_cSN0v {M' : Mt} {i : Nat} {rest : List Value} (d : decode (mB M) pc = .ok (.invokestatic i, 3)) (hl : Cond.methodLinkNest (mY M).cls i (mY M') RX7 ∈ pw_nest) (hv : MV M' 0) (hi : Cond.static (mY M') ∈ pw_Tb) (hR : MR M M') (hm : mCe M' = 0 ∧ mSl M' = 0) (hrest : (rest.map fun v => v.category).sum ≤ 8) (h : CTv X M' [] σ μ (fun σ' μ' => PW X M b1 b2 (pc + 3) ls rest σ' μ' Q)) : PW X M b1 b2 pc ls (rest) σ μ Q :=
  pw_callSN (As := []) (b1' := b1) (b2' := b2) d hl hv hi hR rfl hrest (by omega) (by omega) h (fun r σ' μ' ⟨hr, hq⟩ => by subst hr; exact hq)
theorem pw_cSN1i {M' : Mt} {i : Nat} {a1 : Value} {rest : List Value} (d : decode (mB M) pc = .ok (.invokestatic i, 3)) (hl : Cond.methodLinkNest (mY M).cls i (mY M') RX7 ∈ pw_nest) (hv : MV M' 1) (hi : Cond.static (mY M') ∈ pw_Tb) (hR : MR M M') (hm : mCe M' = 0 ∧ mSl M' = 0) (hrest : (rest.map fun v => v.category).sum ≤ 8) (h : CTi X M' [a1] σ μ (fun x σ' μ' => PW X M b1 b2 (pc + 3) ls (.int x :: rest) σ' μ' Q)) : PW X M b1 b2 pc ls (a1 :: rest) σ μ Q :=
  pw_callSN (As := [a1]) (b1' := b1) (b2' := b2) d hl hv hi hR rfl hrest (by omega) (by omega) h (fun r σ' μ' ⟨x, hr, hq⟩ => by subst hr; exact hq)
theorem pw_cSN1v {M' : Mt} {i : Nat} {a1 : Value} {rest : List Value} (d : decode (mB M) pc = .ok (.invokestatic i, 3)) (hl : Cond.methodLinkNest (mY M).cls i (mY M') RX7 ∈ pw_nest) (hv : MV M' 1) (hi : Cond.static (mY M') ∈ pw_Tb) (hR : MR M M') (hm : mCe M' = 0 ∧ mSl M' = 0) (hrest : (rest.map fun v => v.category).sum ≤ 8) (h : CTv X M' [a1] σ μ (fun σ' μ' => PW X M b1 b2 (pc + 3) ls rest σ' μ' Q)) : PW X M b1 b2 pc ls (a1 :: rest) σ μ Q :=
  pw_callSN (As := [a1]) (b1' := b1) (b2' := b2) d hl hv hi hR rfl hrest (by omega) (by omega) h (fun r σ' μ' ⟨hr, hq⟩ => by subst hr; exact hq)
theorem pw_cSN2i {M' : Mt} {i : Nat} {a1 a2 : Value} {rest : List Value} (d : decode (mB M) pc = .ok (.invokestatic i, 3)) (hl : Cond.methodLinkNest (mY M).cls i (mY M') RX7 ∈ pw_nest) (hv : MV M' 2) (hi : Cond.static (mY M') ∈ pw_Tb) (hR : MR M M') (hm : mCe M' = 0 ∧ mSl M' = 0) (hrest : (rest.map fun v => v.category).sum ≤ 8) (h : CTi X M' [a1, a2] σ μ (fun x σ' μ' => PW X M b1 b2 (pc + 3) ls (.int x :: rest) σ' μ' Q)) : PW X M b1 b2 pc ls (a2 :: a1 :: rest) σ μ Q :=
  pw_callSN (As := [a1, a2]) (b1' := b1) (b2' := b2) d hl hv hi hR rfl hrest (by omega) (by omega) h (fun r σ' μ' ⟨x, hr, hq⟩ => by subst hr; exact hq)
theorem pw_cSN2v {M' : Mt} {i : Nat} {a1 a2 : Value} {rest : List Value} (d : decode (mB M) pc = .ok (.invokestatic i, 3)) (hl : Cond.methodLinkNest (mY M).cls i (mY M') RX7 ∈ pw_nest) (hv : MV M' 2) (hi : Cond.static (mY M') ∈ pw_Tb) (hR : MR M M') (hm : mCe M' = 0 ∧ mSl M' = 0) (hrest : (rest.map fun v => v.category).sum ≤ 8) (h : CTv X M' [a1, a2] σ μ (fun σ' μ' => PW X M b1 b2 (pc + 3) ls rest σ' μ' Q)) : PW X M b1 b2 pc ls (a2 :: a1 :: rest) σ μ Q :=
  pw_callSN (As := [a1, a2]) (b1' := b1) (b2' := b2) d hl hv hi hR rfl hrest (by omega) (by omega) h (fun r σ' μ' ⟨hr, hq⟩ => by subst hr; exact hq)
theorem pw_cSN3i {M' : Mt} {i : Nat} {a1 a2 a3 : Value} {rest : List Value} (d : decode (mB M) pc = .ok (.invokestatic i, 3)) (hl : Cond.methodLinkNest (mY M).cls i (mY M') RX7 ∈ pw_nest) (hv : MV M' 3) (hi : Cond.static (mY M') ∈ pw_Tb) (hR : MR M M') (hm : mCe M' = 0 ∧ mSl M' = 0) (hrest : (rest.map fun v => v.category).sum ≤ 8) (h : CTi X M' [a1, a2, a3] σ μ (fun x σ' μ' => PW X M b1 b2 (pc + 3) ls (.int x :: rest) σ' μ' Q)) : PW X M b1 b2 pc ls (a3 :: a2 :: a1 :: rest) σ μ Q :=
  pw_callSN (As := [a1, a2, a3]) (b1' := b1) (b2' := b2) d hl hv hi hR rfl hrest (by omega) (by omega) h (fun r σ' μ' ⟨x, hr, hq⟩ => by subst hr; exact hq)
theorem pw_cSN3v {M' : Mt} {i : Nat} {a1 a2 a3 : Value} {rest : List Value} (d : decode (mB M) pc = .ok (.invokestatic i, 3)) (hl : Cond.methodLinkNest (mY M).cls i (mY M') RX7 ∈ pw_nest) (hv : MV M' 3) (hi : Cond.static (mY M') ∈ pw_Tb) (hR : MR M M') (hm : mCe M' = 0 ∧ mSl M' = 0) (hrest : (rest.map fun v => v.category).sum ≤ 8) (h : CTv X M' [a1, a2, a3] σ μ (fun σ' μ' => PW X M b1 b2 (pc + 3) ls rest σ' μ' Q)) : PW X M b1 b2 pc ls (a3 :: a2 :: a1 :: rest) σ μ Q :=
  pw_callSN (As := [a1, a2, a3]) (b1' := b1) (b2' := b2) d hl hv hi hR rfl hrest (by omega) (by omega) h (fun r σ' μ' ⟨hr, hq⟩ => by subst hr; exact hq)
theorem pw_cSN4i {M' : Mt} {i : Nat} {a1 a2 a3 a4 : Value} {rest : List Value} (d : decode (mB M) pc = .ok (.invokestatic i, 3)) (hl : Cond.methodLinkNest (mY M).cls i (mY M') RX7 ∈ pw_nest) (hv : MV M' 4) (hi : Cond.static (mY M') ∈ pw_Tb) (hR : MR M M') (hm : mCe M' = 0 ∧ mSl M' = 0) (hrest : (rest.map fun v => v.category).sum ≤ 8) (h : CTi X M' [a1, a2, a3, a4] σ μ (fun x σ' μ' => PW X M b1 b2 (pc + 3) ls (.int x :: rest) σ' μ' Q)) : PW X M b1 b2 pc ls (a4 :: a3 :: a2 :: a1 :: rest) σ μ Q :=
  pw_callSN (As := [a1, a2, a3, a4]) (b1' := b1) (b2' := b2) d hl hv hi hR rfl hrest (by omega) (by omega) h (fun r σ' μ' ⟨x, hr, hq⟩ => by subst hr; exact hq)
theorem pw_cSN4v {M' : Mt} {i : Nat} {a1 a2 a3 a4 : Value} {rest : List Value} (d : decode (mB M) pc = .ok (.invokestatic i, 3)) (hl : Cond.methodLinkNest (mY M).cls i (mY M') RX7 ∈ pw_nest) (hv : MV M' 4) (hi : Cond.static (mY M') ∈ pw_Tb) (hR : MR M M') (hm : mCe M' = 0 ∧ mSl M' = 0) (hrest : (rest.map fun v => v.category).sum ≤ 8) (h : CTv X M' [a1, a2, a3, a4] σ μ (fun σ' μ' => PW X M b1 b2 (pc + 3) ls rest σ' μ' Q)) : PW X M b1 b2 pc ls (a4 :: a3 :: a2 :: a1 :: rest) σ μ Q :=
  pw_callSN (As := [a1, a2, a3, a4]) (b1' := b1) (b2' := b2) d hl hv hi hR rfl hrest (by omega) (by omega) h (fun r σ' μ' ⟨hr, hq⟩ => by subst hr; exact hq)
theorem pw_cSN5i {M' : Mt} {i : Nat} {a1 a2 a3 a4 a5 : Value} {rest : List Value} (d : decode (mB M) pc = .ok (.invokestatic i, 3)) (hl : Cond.methodLinkNest (mY M).cls i (mY M') RX7 ∈ pw_nest) (hv : MV M' 5) (hi : Cond.static (mY M') ∈ pw_Tb) (hR : MR M M') (hm : mCe M' = 0 ∧ mSl M' = 0) (hrest : (rest.map fun v => v.category).sum ≤ 8) (h : CTi X M' [a1, a2, a3, a4, a5] σ μ (fun x σ' μ' => PW X M b1 b2 (pc + 3) ls (.int x :: rest) σ' μ' Q)) : PW X M b1 b2 pc ls (a5 :: a4 :: a3 :: a2 :: a1 :: rest) σ μ Q :=
  pw_callSN (As := [a1, a2, a3, a4, a5]) (b1' := b1) (b2' := b2) d hl hv hi hR rfl hrest (by omega) (by omega) h (fun r σ' μ' ⟨x, hr, hq⟩ => by subst hr; exact hq)
theorem pw_cSN5v {M' : Mt} {i : Nat} {a1 a2 a3 a4 a5 : Value} {rest : List Value} (d : decode (mB M) pc = .ok (.invokestatic i, 3)) (hl : Cond.methodLinkNest (mY M).cls i (mY M') RX7 ∈ pw_nest) (hv : MV M' 5) (hi : Cond.static (mY M') ∈ pw_Tb) (hR : MR M M') (hm : mCe M' = 0 ∧ mSl M' = 0) (hrest : (rest.map fun v => v.category).sum ≤ 8) (h : CTv X M' [a1, a2, a3, a4, a5] σ μ (fun σ' μ' => PW X M b1 b2 (pc + 3) ls rest σ' μ' Q)) : PW X M b1 b2 pc ls (a5 :: a4 :: a3 :: a2 :: a1 :: rest) σ μ Q :=
  pw_callSN (As := [a1, a2, a3, a4, a5]) (b1' := b1) (b2' := b2) d hl hv hi hR rfl hrest (by omega) (by omega) h (fun r σ' μ' ⟨hr, hq⟩ => by subst hr; exact hq)
theorem pw_cSN6i {M' : Mt} {i : Nat} {a1 a2 a3 a4 a5 a6 : Value} {rest : List Value} (d : decode (mB M) pc = .ok (.invokestatic i, 3)) (hl : Cond.methodLinkNest (mY M).cls i (mY M') RX7 ∈ pw_nest) (hv : MV M' 6) (hi : Cond.static (mY M') ∈ pw_Tb) (hR : MR M M') (hm : mCe M' = 0 ∧ mSl M' = 0) (hrest : (rest.map fun v => v.category).sum ≤ 8) (h : CTi X M' [a1, a2, a3, a4, a5, a6] σ μ (fun x σ' μ' => PW X M b1 b2 (pc + 3) ls (.int x :: rest) σ' μ' Q)) : PW X M b1 b2 pc ls (a6 :: a5 :: a4 :: a3 :: a2 :: a1 :: rest) σ μ Q :=
  pw_callSN (As := [a1, a2, a3, a4, a5, a6]) (b1' := b1) (b2' := b2) d hl hv hi hR rfl hrest (by omega) (by omega) h (fun r σ' μ' ⟨x, hr, hq⟩ => by subst hr; exact hq)
theorem pw_cSN6v {M' : Mt} {i : Nat} {a1 a2 a3 a4 a5 a6 : Value} {rest : List Value} (d : decode (mB M) pc = .ok (.invokestatic i, 3)) (hl : Cond.methodLinkNest (mY M).cls i (mY M') RX7 ∈ pw_nest) (hv : MV M' 6) (hi : Cond.static (mY M') ∈ pw_Tb) (hR : MR M M') (hm : mCe M' = 0 ∧ mSl M' = 0) (hrest : (rest.map fun v => v.category).sum ≤ 8) (h : CTv X M' [a1, a2, a3, a4, a5, a6] σ μ (fun σ' μ' => PW X M b1 b2 (pc + 3) ls rest σ' μ' Q)) : PW X M b1 b2 pc ls (a6 :: a5 :: a4 :: a3 :: a2 :: a1 :: rest) σ μ Q :=
  pw_callSN (As := [a1, a2, a3, a4, a5, a6]) (b1' := b1) (b2' := b2) d hl hv hi hR rfl hrest (by omega) (by omega) h (fun r σ' μ' ⟨hr, hq⟩ => by subst hr; exact hq)
theorem pw_cSN7i {M' : Mt} {i : Nat} {a1 a2 a3 a4 a5 a6 a7 : Value} {rest : List Value} (d : decode (mB M) pc = .ok (.invokestatic i, 3)) (hl : Cond.methodLinkNest (mY M).cls i (mY M') RX7 ∈ pw_nest) (hv : MV M' 7) (hi : Cond.static (mY M') ∈ pw_Tb) (hR : MR M M') (hm : mCe M' = 0 ∧ mSl M' = 0) (hrest : (rest.map fun v => v.category).sum ≤ 8) (h : CTi X M' [a1, a2, a3, a4, a5, a6, a7] σ μ (fun x σ' μ' => PW X M b1 b2 (pc + 3) ls (.int x :: rest) σ' μ' Q)) : PW X M b1 b2 pc ls (a7 :: a6 :: a5 :: a4 :: a3 :: a2 :: a1 :: rest) σ μ Q :=
  pw_callSN (As := [a1, a2, a3, a4, a5, a6, a7]) (b1' := b1) (b2' := b2) d hl hv hi hR rfl hrest (by omega) (by omega) h (fun r σ' μ' ⟨x, hr, hq⟩ => by subst hr; exact hq)
theorem pw_cSN7v {M' : Mt} {i : Nat} {a1 a2 a3 a4 a5 a6 a7 : Value} {rest : List Value} (d : decode (mB M) pc = .ok (.invokestatic i, 3)) (hl : Cond.methodLinkNest (mY M).cls i (mY M') RX7 ∈ pw_nest) (hv : MV M' 7) (hi : Cond.static (mY M') ∈ pw_Tb) (hR : MR M M') (hm : mCe M' = 0 ∧ mSl M' = 0) (hrest : (rest.map fun v => v.category).sum ≤ 8) (h : CTv X M' [a1, a2, a3, a4, a5, a6, a7] σ μ (fun σ' μ' => PW X M b1 b2 (pc + 3) ls rest σ' μ' Q)) : PW X M b1 b2 pc ls (a7 :: a6 :: a5 :: a4 :: a3 :: a2 :: a1 :: rest) σ μ Q :=
  pw_callSN (As := [a1, a2, a3, a4, a5, a6, a7]) (b1' := b1) (b2' := b2) d hl hv hi hR rfl hrest (by omega) (by omega) h (fun r σ' μ' ⟨hr, hq⟩ => by subst hr; exact hq)
theorem pw_cSN8i {M' : Mt} {i : Nat} {a1 a2 a3 a4 a5 a6 a7 a8 : Value} {rest : List Value} (d : decode (mB M) pc = .ok (.invokestatic i, 3)) (hl : Cond.methodLinkNest (mY M).cls i (mY M') RX7 ∈ pw_nest) (hv : MV M' 8) (hi : Cond.static (mY M') ∈ pw_Tb) (hR : MR M M') (hm : mCe M' = 0 ∧ mSl M' = 0) (hrest : (rest.map fun v => v.category).sum ≤ 8) (h : CTi X M' [a1, a2, a3, a4, a5, a6, a7, a8] σ μ (fun x σ' μ' => PW X M b1 b2 (pc + 3) ls (.int x :: rest) σ' μ' Q)) : PW X M b1 b2 pc ls (a8 :: a7 :: a6 :: a5 :: a4 :: a3 :: a2 :: a1 :: rest) σ μ Q :=
  pw_callSN (As := [a1, a2, a3, a4, a5, a6, a7, a8]) (b1' := b1) (b2' := b2) d hl hv hi hR rfl hrest (by omega) (by omega) h (fun r σ' μ' ⟨x, hr, hq⟩ => by subst hr; exact hq)
theorem pw_cSN8v {M' : Mt} {i : Nat} {a1 a2 a3 a4 a5 a6 a7 a8 : Value} {rest : List Value} (d : decode (mB M) pc = .ok (.invokestatic i, 3)) (hl : Cond.methodLinkNest (mY M).cls i (mY M') RX7 ∈ pw_nest) (hv : MV M' 8) (hi : Cond.static (mY M') ∈ pw_Tb) (hR : MR M M') (hm : mCe M' = 0 ∧ mSl M' = 0) (hrest : (rest.map fun v => v.category).sum ≤ 8) (h : CTv X M' [a1, a2, a3, a4, a5, a6, a7, a8] σ μ (fun σ' μ' => PW X M b1 b2 (pc + 3) ls rest σ' μ' Q)) : PW X M b1 b2 pc ls (a8 :: a7 :: a6 :: a5 :: a4 :: a3 :: a2 :: a1 :: rest) σ μ Q :=
  pw_callSN (As := [a1, a2, a3, a4, a5, a6, a7, a8]) (b1' := b1) (b2' := b2) d hl hv hi hR rfl hrest (by omega) (by omega) h (fun r σ' μ' ⟨hr, hq⟩ => by subst hr; exact hq)
end PWC
end
section
/-! Makings, natives, static rows, over the pure memory -/
theorem pw_fv0 : ∀ c, c < 9 → ∀ j, j < pw_N c → defaultValue (pw_ty c j) = vp_V (pw_fv c (fun _ => none) (fun _ => 0)) j := by
  refine pw_nine ?_ ?_ ?_ ?_ ?_ ?_ ?_ ?_ ?_
  · intro j hj
    match j, hj with
    | 0, _ => rfl
    | 1, _ => rfl
    | 2, _ => rfl
    | 3, _ => rfl
    | 4, _ => rfl
    | 5, _ => rfl
    | 6, _ => rfl
    | 7, _ => rfl
    | j + 8, hj => exact absurd hj (by show ¬ j + 8 < 8; omega)
  · intro j hj
    match j, hj with
    | 0, _ => rfl
    | 1, _ => rfl
    | 2, _ => rfl
    | j + 3, hj => exact absurd hj (by show ¬ j + 3 < 3; omega)
  · intro j hj
    match j, hj with
    | 0, _ => rfl
    | 1, _ => rfl
    | j + 2, hj => exact absurd hj (by show ¬ j + 2 < 2; omega)
  · intro j hj
    match j, hj with
    | 0, _ => rfl
    | 1, _ => rfl
    | j + 2, hj => exact absurd hj (by show ¬ j + 2 < 2; omega)
  · intro j hj
    match j, hj with
    | 0, _ => rfl
    | 1, _ => rfl
    | 2, _ => rfl
    | 3, _ => rfl
    | 4, _ => rfl
    | 5, _ => rfl
    | 6, _ => rfl
    | j + 7, hj => exact absurd hj (by show ¬ j + 7 < 7; omega)
  · intro j hj
    match j, hj with
    | 0, _ => rfl
    | 1, _ => rfl
    | 2, _ => rfl
    | 3, _ => rfl
    | j + 4, hj => exact absurd hj (by show ¬ j + 4 < 4; omega)
  · intro j hj
    match j, hj with
    | 0, _ => rfl
    | 1, _ => rfl
    | 2, _ => rfl
    | 3, _ => rfl
    | 4, _ => rfl
    | 5, _ => rfl
    | 6, _ => rfl
    | 7, _ => rfl
    | 8, _ => rfl
    | 9, _ => rfl
    | 10, _ => rfl
    | 11, _ => rfl
    | 12, _ => rfl
    | 13, _ => rfl
    | 14, _ => rfl
    | j + 15, hj => exact absurd hj (by show ¬ j + 15 < 15; omega)
  · intro j hj
    match j, hj with
    | 0, _ => rfl
    | 1, _ => rfl
    | 2, _ => rfl
    | 3, _ => rfl
    | 4, _ => rfl
    | 5, _ => rfl
    | j + 6, hj => exact absurd hj (by show ¬ j + 6 < 6; omega)
  · intro j hj
    match j, hj with
    | 0, _ => rfl
    | 1, _ => rfl
    | 2, _ => rfl
    | 3, _ => rfl
    | 4, _ => rfl
    | 5, _ => rfl
    | j + 6, hj => exact absurd hj (by show ¬ j + 6 < 6; omega)
theorem HP.push {X : Cx} {σ : Sp} {μ : Mm} {H H1 : Heap} {a t l : Nat} {f : Nat → Int32} (h : HP X σ μ H) (ha : a = cxB X + nn σ) (e1 : va_at (cxD X) vwCl (a, pw_ce X (wN σ (cxB X) t l) (wC μ a f) a) H1) (z1 : H1.size = H.size + 1) (o1 : ∀ q, q < H.size → H1[q]? = H[q]?) (hb : t = 7 → (f 5 = 0 ∨ f 5 = 1) ∧ (f 6 = 0 ∨ f 6 = 1)) : HP X (wN σ (cxB X) t l) (wC μ a f) H1 := by
  subst ha
  have hk : ∀ (k : Nat) (x : Nat × va_E), (pw_ws X σ μ)[k]? = some x → H1[x.1]? = H[x.1]? := fun k x hx => o1 x.1 ((h.1 k x hx).lt)
  have ho : ∀ b, b ≠ cxB X + nn σ → pw_ce X (wN σ (cxB X) t l) (wC μ (cxB X + nn σ) f) b = pw_ce X σ μ b := by
    intro b hb
    have g1 : tg (wN σ (cxB X) t l) b = tg σ b := if_neg hb
    have g2 : ln (wN σ (cxB X) t l) b = ln σ b := if_neg hb
    have g3 : rf (wN σ (cxB X) t l) b = rf σ b := if_neg hb
    have g4 : wC μ (cxB X + nn σ) f b = μ b := if_neg hb
    unfold pw_ce
    rw [g1, g2, g3, g4]
  have hP := (h.1.kept hk).app (fun k x hx => by
    have hz : k < 1 := (List.getElem?_eq_some_iff.mp hx).1
    rw [show k = 0 by omega] at hx
    cases hx
    exact e1 : va_P (cxD X) vwCl [(cxB X + nn σ, pw_ce X (wN σ (cxB X) t l) (wC μ (cxB X + nn σ) f) (cxB X + nn σ))] H1)
  rw [pw_ws_push rfl rfl rfl ho] at hP
  refine ⟨hP, by rw [z1, h.2.1]; show _ = cxB X + (nn σ + 1); omega, fun b hb2 => ?_, fun b hb2 => ?_⟩
  · show cxB X ≤ b ∧ b < cxB X + (nn σ + 1)
    by_cases hbn : b = cxB X + nn σ
    · omega
    · have g1 : tg (wN σ (cxB X) t l) b = tg σ b := if_neg hbn
      rw [g1] at hb2
      have := h.2.2.1 b hb2
      omega
  · by_cases hbn : b = cxB X + nn σ
    · have g1 : tg (wN σ (cxB X) t l) b = t := if_pos hbn
      have g4 : wC μ (cxB X + nn σ) f b = f := if_pos hbn
      rw [g4]
      exact hb (g1.symm.trans hb2)
    · have g1 : tg (wN σ (cxB X) t l) b = tg σ b := if_neg hbn
      have g4 : wC μ (cxB X + nn σ) f b = μ b := if_neg hbn
      rw [g4]
      exact h.2.2.2 b (g1.symm.trans hb2)
theorem va_S.push {A : Nat → Prop} {H0 H H1 : Heap} {locs : List Loc} (hS : va_S A H0 H locs) (z1 : H1.size = H.size + 1) (o1 : ∀ q, q < H.size → H1[q]? = H[q]?) : va_S A H0 H1 locs :=
  ⟨Nat.le_trans hS.1 (by omega), fun x h1 h2 => (o1 x (Nat.lt_of_lt_of_le h1 hS.1)).trans (hS.2.1 x h1 h2), hS.2.2⟩
theorem wN_tg {σ : Sp} {B t l a : Nat} (h : a = B + nn σ) : tg (wN σ B t l) a = t := if_pos h
theorem wN_ln {σ : Sp} {B t l a : Nat} (h : a = B + nn σ) : ln (wN σ B t l) a = l := if_pos h
theorem wN_rf {σ : Sp} {B t l a : Nat} (h : a = B + nn σ) : rf (wN σ B t l) a = fun _ => none := if_pos h
theorem wN_nn {σ : Sp} {B t l : Nat} : nn (wN σ B t l) = nn σ + 1 := rfl
theorem wN_tg_ne {σ : Sp} {B t l a : Nat} (h : a ≠ B + nn σ) : tg (wN σ B t l) a = tg σ a := if_neg h
theorem wN_ln_ne {σ : Sp} {B t l a : Nat} (h : a ≠ B + nn σ) : ln (wN σ B t l) a = ln σ a := if_neg h
theorem wN_rf_ne {σ : Sp} {B t l a : Nat} (h : a ≠ B + nn σ) : rf (wN σ B t l) a = rf σ a := if_neg h
section PWM
variable {X : Cx} {M : Mt} {b1 b2 pc : Nat} {ls : List (Option Value)} {st : List Value} {σ : Sp} {μ : Mm} {Q : Option Value → Sp → Mm → Prop}
theorem pw_new {i a b1' b2' : Nat} (c : Nat) (d : decode (mB M) pc = .ok (.new i, 3)) (hcl : Cond.classLink (mY M).cls i (pw_R c) ∈ pw_Tb) (hin : Cond.instantiable (pw_R c) (pw_N c) ∈ pw_Tb) (hini : Cond.initialized (pw_R c) ∈ pw_Tb) (hc : c < 9) (ha : a = cxB X + nn σ) (hb1 : b1' + 1 ≤ b1) (hb2 : b2' + pw_N c ≤ b2) (kk : PW X M b1' b2' (pc + 3) ls (.ref a :: st) (wN σ (cxB X) (c + 1) 0) (wC μ a (fun _ => 0)) Q) : PW X M b1 b2 pc ls st σ μ Q := by
  intro p e R s m args below meth cd H locs cells slots ar Z B S P F L c1 c2 K
  have hts := B.2.2.2.2.2.1
  have hKn := S.1.1 c _ (pw_cl c hc)
  have hz := P.2.1
  refine W.newcK B.1 B.2.1 B.2.2.2.2.1 (hts _ hcl) (hts _ hin) (hts _ hini) rfl d (by omega) (by omega) hKn.2.1 (h := a) (by rw [hz, ha]) fun H1 kC hkC e1 z1 o1 => ?_
  have z2 : H1.size = H.size + 1 := by rw [z1, hz, ha]
  have o2 : ∀ q, q < H.size → H1[q]? = H[q]? := fun q hq => o1 q (by rw [ha, ← hz]; exact hq)
  refine kk p e R s m args below meth cd H1 locs _ _ ar Z B S (P.push ha ?_ z2 o2 (fun _ => ⟨Or.inl rfl, Or.inl rfl⟩)) (F.push z2 o2) L (by omega) (by omega) K
  rw [pw_ce_o (c := c) (wN_tg ha) hc, wN_rf ha, wC_self]
  exact ⟨_, pw_cl c hc, (u_born (pw_ty c) hts (pw_hin c hc) hKn hkC e1 (pw_hty c hc)).to (pw_fv0 c hc)⟩
theorem pw_newaC {a N b1' b2' : Nat} {n : Int32} (d : decode (mB M) pc = .ok (.newarray .char, 2)) (hw : Cond.arrayClass .char ∈ pw_Tb) (hn : ¬ n < 0) (hN : n.toNatClampNeg = N) (hs : N < 100000000) (ha : a = cxB X + nn σ) (hb1 : b1' + 1 ≤ b1) (hb2 : b2' + N ≤ b2) (kk : PW X M b1' b2' (pc + 2) ls (.ref a :: st) (wN σ (cxB X) 10 N) (wC μ a (fun _ => 0)) Q) : PW X M b1 b2 pc ls (.int n :: st) σ μ Q := by
  intro p e R s m args below meth cd H locs cells slots ar Z B S P F L c1 c2 K
  have hz := P.2.1
  have hcb : componentBytes .char ≤ 4 := by decide
  refine va_newaK (atype := .char) B.1 B.2.1 (B.2.2.2.2.2.1 _ hw) rfl d rfl hn hN (Nat.le_trans (Nat.mul_le_mul_left N hcb) (by omega)) (by omega) (by omega) (h := a) (by rw [hz, ha]) fun H1 cA e1 z1 o1 hAr hNm => ?_
  have z2 : H1.size = H.size + 1 := by rw [z1, hz, ha]
  have o2 : ∀ q, q < H.size → H1[q]? = H[q]? := fun q hq => o1 q (by rw [ha, ← hz]; exact hq)
  have hcA : cA = (cxC X).1 := Option.some.inj (hNm.symm.trans (S.1.2 0 _ rfl).2)
  refine kk p e R s m args below meth cd H1 locs _ _ ar Z B S (P.push ha ?_ z2 o2 (fun h => by cases h)) (F.push z2 o2) L (by omega) (by omega) K
  rw [pw_ce_C (wN_tg ha), wN_ln ha, wC_self]
  show H1[a]? = some (vp_cell _ _)
  rw [e1, hcA]
  rfl
theorem pw_newaI {a N b1' b2' : Nat} {n : Int32} (d : decode (mB M) pc = .ok (.newarray .int, 2)) (hw : Cond.arrayClass .int ∈ pw_Tb) (hn : ¬ n < 0) (hN : n.toNatClampNeg = N) (hs : N < 100000000) (ha : a = cxB X + nn σ) (hb1 : b1' + 1 ≤ b1) (hb2 : b2' + N ≤ b2) (kk : PW X M b1' b2' (pc + 2) ls (.ref a :: st) (wN σ (cxB X) 11 N) (wC μ a (fun _ => 0)) Q) : PW X M b1 b2 pc ls (.int n :: st) σ μ Q := by
  intro p e R s m args below meth cd H locs cells slots ar Z B S P F L c1 c2 K
  have hz := P.2.1
  have hcb : componentBytes .int ≤ 4 := by decide
  refine va_newaK (atype := .int) B.1 B.2.1 (B.2.2.2.2.2.1 _ hw) rfl d rfl hn hN (Nat.le_trans (Nat.mul_le_mul_left N hcb) (by omega)) (by omega) (by omega) (h := a) (by rw [hz, ha]) fun H1 cA e1 z1 o1 hAr hNm => ?_
  have z2 : H1.size = H.size + 1 := by rw [z1, hz, ha]
  have o2 : ∀ q, q < H.size → H1[q]? = H[q]? := fun q hq => o1 q (by rw [ha, ← hz]; exact hq)
  have hcA : cA = (cxC X).2.1 := Option.some.inj (hNm.symm.trans (S.1.2 1 _ rfl).2)
  refine kk p e R s m args below meth cd H1 locs _ _ ar Z B S (P.push ha ?_ z2 o2 (fun h => by cases h)) (F.push z2 o2) L (by omega) (by omega) K
  rw [pw_ce_I (wN_tg ha), wN_ln ha, wC_self]
  show H1[a]? = some (vp_cell _ _)
  rw [e1, hcA]
  rfl
theorem pw_newqB {i a N b1' b2' : Nat} {n : Int32} (d : decode (mB M) pc = .ok (.anewarray i, 3)) (hcl : Cond.classLink (mY M).cls i RX0 ∈ pw_Tb) (hn : ¬ n < 0) (hN : n.toNatClampNeg = N) (hs : N < 100000000) (ha : a = cxB X + nn σ) (hb1 : b1' + 1 ≤ b1) (hb2 : b2' + N ≤ b2) (kk : PW X M b1' b2' (pc + 3) ls (.ref a :: st) (wN σ (cxB X) 13 N) (wC μ a (fun _ => 0)) Q) : PW X M b1 b2 pc ls (.int n :: st) σ μ Q := by
  intro p e R s m args below meth cd H locs cells slots ar Z B S P F L c1 c2 K
  have hz := P.2.1
  subst hN
  refine W.anew B.1 B.2.1 B.2.2.2.2.1 (B.2.2.2.2.2.1 _ hcl) (va_AO.use S.2.2.1) rfl d rfl hn (by omega) (by omega) (by omega) fun cA kA comp f1 f2 f3 f4 => ?_
  generalize hH1 : H.push ({ cls := cA, slots := Array.replicate n.toNatClampNeg .null, vm := .none } : Cell) = H1
  have z2 : H1.size = H.size + 1 := by rw [← hH1, Array.size_push]
  have e1 : H1[H.size]? = some (arrV cA n.toNatClampNeg (fun _ => .null)) := by rw [← hH1, Array.getElem?_push_size, ← arrV_new]
  have o2 : ∀ q : Nat, q < H.size → H1[q]? = H[q]? := fun q hq => by rw [← hH1, Array.getElem?_push, if_neg (Nat.ne_of_lt hq)]
  obtain ⟨_, _, _, _, _, g4⟩ := (S.1.2 3 _ rfl).2
  have hcA : cA = (cxC X).2.2.2.1 := Option.some.inj (f1.symm.trans g4)
  have haz : H.size = a := by rw [hz, ha]
  rw [haz] at e1 ⊢
  refine kk p e R s m args below meth cd H1 locs _ _ ar Z B S (P.push ha ?_ z2 o2 (fun h => by cases h)) (F.push z2 o2) L (by omega) (by omega) K
  rw [pw_ce_B (wN_tg ha), wN_ln ha, wN_rf ha]
  show H1[a]? = some (vp_cell _ _)
  rw [e1, hcA]
  rfl
theorem pw_aastB {a v : Nat} {i : Int32} (d : decode (mB M) pc = .ok (.aastore, 1)) (ht : tg σ a = 13) (hv : tg σ v = 0 + 1) (hin : vp_in i (ln σ a)) (kk : PW X M b1 b2 (pc + 1) ls st (wR σ a i.toNatClampNeg (some v)) μ Q) : PW X M b1 b2 pc ls (.ref v :: .int i :: .ref a :: st) σ μ Q := by
  intro p e R s m args below meth cd H locs cells slots ar Z B S P F L c1 c2 K
  have ha := P.at (a := a) (by omega)
  rw [pw_ce_B ht] at ha
  have hlt : i.toNatClampNeg < ln σ a := Nat.not_le.mp fun q => hin (Or.inr q)
  have h0 : ¬ i < 0 := fun q => hin (Or.inl q)
  obtain ⟨cellV, g1, g2, g3⟩ := pw_recv S P (c := 0) (by omega) hv
  have hcls := (S.1.1 0 _ (pw_cl 0 (by omega))).2
  have hcv : cellV.cls = (cxD X).1 0 := Option.some.inj (g3.symm.trans hcls.1)
  obtain ⟨kA, comp, k1, k2, k3, -⟩ := (S.1.2 3 _ rfl).2
  have hcomp : comp = (cxD X).1 0 := Option.some.inj (k3.symm.trans hcls.1)
  subst hcomp
  obtain ⟨kC, hkC, -⟩ := hcls.2
  refine W.aast B.1 B.2.1 (P.1 _ _ ha) (fun q h => by cases h) (fun h => by cases h) k1 k2 rfl hkC ⟨h0, by show _ < (arrV _ _ _).slots.size; rw [arrV_size]; exact hlt⟩ g1 (fun q h => by rw [h] at g2; cases g2) (by rw [hcv]; exact hkC) (by rw [hcv]; exact va_assign hcls) rfl rfl d fun H1 e1 z oq => ?_
  refine kk p e R s m args below meth cd H1 _ cells slots ar Z B S (P.upd (a := a) (e := _) (by omega) rfl rfl (P.1.set (pw_D X σ μ) ha (e := pw_ce X (wR σ a i.toNatClampNeg (some v)) μ a) ?_ oq) z rfl pw_ce_wR P.2.2.2) (F.put z oq (P.2.2.1 a (by omega)).1) L c1 c2 K
  rw [pw_ce_B (show tg (wR σ a i.toNatClampNeg (some v)) a = 13 from ht)]
  have hrf : rf (wR σ a i.toNatClampNeg (some v)) a = va_up (rf σ a) i.toNatClampNeg (some v) := if_pos rfl
  rw [hrf]
  show H1[a]? = some (vp_cell _ _)
  rw [e1, vp_cell_q, vp_cell_q, arrV_store]
  congr 2
  funext q
  by_cases hq : q = i.toNatClampNeg
  · subst hq
    simp [updV, va_up, va_rf]
  · simp [updV, va_up, hq]
theorem pw_newqS {i a N b1' b2' : Nat} {n : Int32} (d : decode (mB M) pc = .ok (.anewarray i, 3)) (hcl : Cond.classLink (mY M).cls i RX6 ∈ pw_Tb) (hn : ¬ n < 0) (hN : n.toNatClampNeg = N) (hs : N < 100000000) (ha : a = cxB X + nn σ) (hb1 : b1' + 1 ≤ b1) (hb2 : b2' + N ≤ b2) (kk : PW X M b1' b2' (pc + 3) ls (.ref a :: st) (wN σ (cxB X) 14 N) (wC μ a (fun _ => 0)) Q) : PW X M b1 b2 pc ls (.int n :: st) σ μ Q := by
  intro p e R s m args below meth cd H locs cells slots ar Z B S P F L c1 c2 K
  have hz := P.2.1
  subst hN
  refine W.anew B.1 B.2.1 B.2.2.2.2.1 (B.2.2.2.2.2.1 _ hcl) (va_AO.use S.2.2.2.1) rfl d rfl hn (by omega) (by omega) (by omega) fun cA kA comp f1 f2 f3 f4 => ?_
  generalize hH1 : H.push ({ cls := cA, slots := Array.replicate n.toNatClampNeg .null, vm := .none } : Cell) = H1
  have z2 : H1.size = H.size + 1 := by rw [← hH1, Array.size_push]
  have e1 : H1[H.size]? = some (arrV cA n.toNatClampNeg (fun _ => .null)) := by rw [← hH1, Array.getElem?_push_size, ← arrV_new]
  have o2 : ∀ q : Nat, q < H.size → H1[q]? = H[q]? := fun q hq => by rw [← hH1, Array.getElem?_push, if_neg (Nat.ne_of_lt hq)]
  obtain ⟨_, _, _, _, _, g4⟩ := (S.1.2 4 _ rfl).2
  have hcA : cA = (cxC X).2.2.2.2 := Option.some.inj (f1.symm.trans g4)
  have haz : H.size = a := by rw [hz, ha]
  rw [haz] at e1 ⊢
  refine kk p e R s m args below meth cd H1 locs _ _ ar Z B S (P.push ha ?_ z2 o2 (fun h => by cases h)) (F.push z2 o2) L (by omega) (by omega) K
  rw [pw_ce_S (wN_tg ha), wN_ln ha, wN_rf ha]
  show H1[a]? = some (vp_cell _ _)
  rw [e1, hcA]
  rfl
theorem pw_aastS {a v : Nat} {i : Int32} (d : decode (mB M) pc = .ok (.aastore, 1)) (ht : tg σ a = 14) (hv : tg σ v = 6 + 1) (hin : vp_in i (ln σ a)) (kk : PW X M b1 b2 (pc + 1) ls st (wR σ a i.toNatClampNeg (some v)) μ Q) : PW X M b1 b2 pc ls (.ref v :: .int i :: .ref a :: st) σ μ Q := by
  intro p e R s m args below meth cd H locs cells slots ar Z B S P F L c1 c2 K
  have ha := P.at (a := a) (by omega)
  rw [pw_ce_S ht] at ha
  have hlt : i.toNatClampNeg < ln σ a := Nat.not_le.mp fun q => hin (Or.inr q)
  have h0 : ¬ i < 0 := fun q => hin (Or.inl q)
  obtain ⟨cellV, g1, g2, g3⟩ := pw_recv S P (c := 6) (by omega) hv
  have hcls := (S.1.1 6 _ (pw_cl 6 (by omega))).2
  have hcv : cellV.cls = (cxD X).1 6 := Option.some.inj (g3.symm.trans hcls.1)
  obtain ⟨kA, comp, k1, k2, k3, -⟩ := (S.1.2 4 _ rfl).2
  have hcomp : comp = (cxD X).1 6 := Option.some.inj (k3.symm.trans hcls.1)
  subst hcomp
  obtain ⟨kC, hkC, -⟩ := hcls.2
  refine W.aast B.1 B.2.1 (P.1 _ _ ha) (fun q h => by cases h) (fun h => by cases h) k1 k2 rfl hkC ⟨h0, by show _ < (arrV _ _ _).slots.size; rw [arrV_size]; exact hlt⟩ g1 (fun q h => by rw [h] at g2; cases g2) (by rw [hcv]; exact hkC) (by rw [hcv]; exact va_assign hcls) rfl rfl d fun H1 e1 z oq => ?_
  refine kk p e R s m args below meth cd H1 _ cells slots ar Z B S (P.upd (a := a) (e := _) (by omega) rfl rfl (P.1.set (pw_D X σ μ) ha (e := pw_ce X (wR σ a i.toNatClampNeg (some v)) μ a) ?_ oq) z rfl pw_ce_wR P.2.2.2) (F.put z oq (P.2.2.1 a (by omega)).1) L c1 c2 K
  rw [pw_ce_S (show tg (wR σ a i.toNatClampNeg (some v)) a = 14 from ht)]
  have hrf : rf (wR σ a i.toNatClampNeg (some v)) a = va_up (rf σ a) i.toNatClampNeg (some v) := if_pos rfl
  rw [hrf]
  show H1[a]? = some (vp_cell _ _)
  rw [e1, vp_cell_q, vp_cell_q, arrV_store]
  congr 2
  funext q
  by_cases hq : q = i.toNatClampNeg
  · subst hq
    simp [updV, va_up, va_rf]
  · simp [updV, va_up, hq]
/-- static rows -/
theorem pw_gets {i : Nat} {n : String} {t : Nat} (d : decode (mB M) pc = .ok (.getstatic i, 3)) (hw : Cond.fieldLink (mY M).cls i RX7 n "[I" ∈ pw_Tb) (hZ : ∀ s, SX X s → va_Z RX7 n "[I" (.ref t) (fun q => cxB X ≤ q) s s.heap) (kk : PW X M b1 b2 (pc + 3) ls (.ref t :: st) σ μ Q) : PW X M b1 b2 pc ls st σ μ Q :=
  fun p e R s m args below meth cd H locs cells slots ar Z B S P F L c1 c2 K => va_gets B.1 B.2.1 (hZ s S) F B.2.2.2.2.1 (B.2.2.2.2.2.1 _ hw) (fun _ h => h) d (kk p e R s m args below meth cd H locs cells slots ar Z B S P F L c1 c2 K)
theorem pw_getsN {i : Nat} {n : String} {t : Nat} (d : decode (mB M) pc = .ok (.getstatic i, 3)) (hw : Cond.fieldLinkNest (mY M).cls i RX7 n "[I" RX7 ∈ pw_nest) (hZ : ∀ s, SX X s → va_Z RX7 n "[I" (.ref t) (fun q => cxB X ≤ q) s s.heap) (kk : PW X M b1 b2 (pc + 3) ls (.ref t :: st) σ μ Q) : PW X M b1 b2 pc ls st σ μ Q :=
  fun p e R s m args below meth cd H locs cells slots ar Z B S P F L c1 c2 K => va_getsN B.1 B.2.1 (hZ s S) F B.2.2.2.2.1 (va_Nw.use (pw_nest_on _ hw) (S.2.1 _ hw)) (fun _ h => h) d (kk p e R s m args below meth cd H locs cells slots ar Z B S P F L c1 c2 K)
theorem pw_sa_arr {s : State} {c : ClassId} {t : Nat} {f : Nat → Int32} {H : Heap} (h : pw_SA c t f H) (ha : ArrOfT s c .int) : ∃ cell : Cell, H[t]? = some cell ∧ s.isArrayOf cell .int ∧ cell.vm ≠ .unknown ∧ cell.slots.size = 5 ∧ (∀ j, j < 5 → cell.slots[j]? = some (.int (f j))) ∧ cell.cls = c ∧ cell.slots = (arrV c 5 (fun j => .int (f j))).slots ∧ cell.vm.isStatics = false := by
  obtain ⟨cell, h1, h2, h3, h4, h5⟩ := h
  obtain ⟨-, k, hk, comp, hkk⟩ := ha 0 (fun _ => .null)
  refine ⟨cell, h1, ⟨fun k hk => (by rw [hk] at h4; cases h4), k, by rw [h2]; exact hk, comp, hkk⟩, h5, by rw [h3, arrV_size], fun j hj => by rw [h3, arrV_read _ _ hj], h2, h3, h4⟩
theorem pw_tald {i : Int32} {t : Nat} {f : Nat → Int32} (d : decode (mB M) pc = .ok (.iaload, 1)) (hT : ∀ s, SX X s → pw_SA (cxC X).2.1 t f s.heap ∧ t < cxB X) (hin : vp_in i 5) (kk : PW X M b1 b2 (pc + 1) ls (.int (f i.toNatClampNeg) :: st) σ μ Q) : PW X M b1 b2 pc ls (.int i :: .ref t :: st) σ μ Q := by
  intro p e R s m args below meth cd H locs cells slots ar Z B S P F L c1 c2 K
  obtain ⟨hSA, htb⟩ := hT s S
  obtain ⟨cell, h1, h2, h3, h4, h5, -⟩ := pw_sa_arr hSA (S.1.2 1 _ rfl).1
  have hlt : i.toNatClampNeg < 5 := Nat.not_le.mp fun q => hin (Or.inr q)
  exact W.iald (v := .int (f i.toNatClampNeg)) B.1 B.2.1 (by rw [F.2.1 t (Array.getElem?_eq_some_iff.mp h1).1 (by omega)]; exact h1) h2 h3 (by rw [h4]; exact hin) (h5 _ hlt) rfl rfl d (kk p e R s m args below meth cd H locs cells slots ar Z B S P F L c1 c2 K)
theorem pw_clone {i t a b1' b2' : Nat} {f : Nat → Int32} (d : decode (mB M) pc = .ok (.invokevirtual i, 3)) (hl : Cond.methodLink (mY M).cls i ⟨"[I", "clone", "()Ljava/lang/Object;"⟩ ∈ pw_Tb) (h1 : Cond.sameMethod "[I" "java/lang/Object" "clone" "()Ljava/lang/Object;" ∈ pw_Tb) (h2 : Cond.native ⟨"java/lang/Object", "clone", "()Ljava/lang/Object;"⟩ ∈ pw_Tb) (h3 : Cond.instanceMethod ⟨"java/lang/Object", "clone", "()Ljava/lang/Object;"⟩ ∈ pw_Tb) (h4 : Cond.selects "[I" ⟨"[I", "clone", "()Ljava/lang/Object;"⟩ ⟨"java/lang/Object", "clone", "()Ljava/lang/Object;"⟩ ∈ pw_Tb)
    (hT : ∀ s, SX X s → pw_SA (cxC X).2.1 t f s.heap ∧ t < cxB X) (hf1 : 1 ≤ mF M) (hlo : (st.map fun v => v.category).sum + 14 ≤ mLo M) (ha : a = cxB X + nn σ) (hb1 : b1' + 1 ≤ b1) (hb2 : b2' + 5 ≤ b2) (kk : PW X M b1' b2' (pc + 3) ls (.ref a :: st) (wN σ (cxB X) 11 5) (wC μ a f) Q) : PW X M b1 b2 pc ls (.ref t :: st) σ μ Q := by
  intro p e R s m args below meth cd H locs cells slots ar Z B S P F L c1 c2 K
  have hts := B.2.2.2.2.2.1
  have hz := P.2.1
  obtain ⟨hSA, htb⟩ := hT s S
  obtain ⟨cell, g1, g2, g3, g4, g5, g6, g7, g8⟩ := pw_sa_arr hSA (S.1.2 1 _ rfl).1
  have hnm : s.vm.findClass "[I" = some (cxC X).2.1 := va_nm_int (S.1.2 1 _ rfl).2
  obtain ⟨c0, t0', f1, f2, f3⟩ := Cond.castable_spec (va_Nw.use (A := args) rfl (S.2.1 (.castable "[I" "java/lang/Cloneable") (by decide +kernel)))
  cases hnm.symm.trans f1
  intro T hT X0
  have hcellH : H[t]? = some cell := by rw [F.2.1 t (Array.getElem?_eq_some_iff.mp g1).1 (by omega)]; exact g1
  obtain ⟨-, kS, hkS, compS, hkindS⟩ := (S.1.2 1 _ rfl).1 0 (fun _ => .null)
  obtain ⟨-, kA, hkA, comp, hkind⟩ := State.isArrayOf_alike X0.warmed.alike ((S.1.2 1 _ rfl).1 0 (fun _ => .null))
  obtain ⟨vm', X', stp⟩ := X0.cloneArray B.1 B.2.2.2.2.1 (hts _ hl) (hts _ h1) (hts _ h2) (hts _ h3) (hts _ h4) (a := t) (cell := cell) (by rw [hT]; exact hcellH) (fun k h => by rw [h] at g8; cases g8) g3 (by rw [g6]; exact hnm) f2 (by rw [g6]; exact f3)
    (fun i v hv => by
      rw [g6]
      have hk' : T.vm.classes[(cxC X).2.1]? = some kA := hkA
      have hi5 : i < 5 := by rw [← g4]; exact (Array.getElem?_eq_some_iff.mp hv).1
      rw [g5 i hi5] at hv
      cases hv
      simp [State.fitsSlot, State.slotType?, hk', hkind, fits])
    (g := F0 m pc ar (.ref t :: st)) rfl (L.1.trans B.2.2.2.1.symm) rfl (by rw [B.2.1]; exact d) (Nat.le_trans hf1 B.2.2.2.2.2.2.2.2.1) (by show 2 * 0 + _ + 14 ≤ _; exact Nat.le_trans (by omega) B.2.2.2.2.2.2.2.2.2) (by omega) (by rw [g4]; omega) (hloader := by rw [g6]; exact Vm.clonesLoader_of_array hkS hkindS)
  have hce : ({ cls := cell.cls, slots := cell.slots } : Cell) = arrV (cxC X).2.1 5 (fun j => .int (f j)) := by rw [g6, g7]; rfl
  rw [hce, g4] at X'
  generalize hH1 : H.push (arrV (cxC X).2.1 5 (fun j => .int (f j))) = H1
  have z2 : H1.size = H.size + 1 := by rw [← hH1, Array.size_push]
  have e1 : H1[H.size]? = some (arrV (cxC X).2.1 5 (fun j => .int (f j))) := by rw [← hH1, Array.getElem?_push_size]
  have o2 : ∀ q : Nat, q < H.size → H1[q]? = H[q]? := fun q hq => by rw [← hH1, Array.getElem?_push, if_neg (Nat.ne_of_lt hq)]
  have haz : H.size = a := by rw [hz, ha]
  obtain ⟨t9, a1, b9⟩ := kk p e R s m args below meth cd H1 locs (cells + 1) (slots + 5) ar Z B S (P.push ha (by
      rw [pw_ce_I (wN_tg ha), wN_ln ha, wC_self]
      show H1[a]? = some (vp_cell _ _)
      rw [← haz]
      exact e1) z2 o2 (fun h => by cases h)) (F.push z2 o2) L (by omega) (by omega) K ((T.setVm vm').pushCell (arrV (cxC X).2.1 5 (fun j => .int (f j)))) (by rw [← hH1, ← hT]; rfl) X'
  refine ⟨t9, stp t9 ?_, b9⟩
  rw [hce, hT, haz]
  exact a1
theorem pw_castI {i a : Nat} (d : decode (mB M) pc = .ok (.checkcast i, 3)) (hl : Cond.classLink (mY M).cls i "[I" ∈ pw_Tb) (ht : tg σ a = 11) (kk : PW X M b1 b2 (pc + 3) ls (.ref a :: st) σ μ Q) : PW X M b1 b2 pc ls (.ref a :: st) σ μ Q :=
  fun p e R s m args below meth cd H locs cells slots ar Z B S P F L c1 c2 K => va_castA B.1 B.2.1 B.2.2.2.2.1 (B.2.2.2.2.2.1 _ hl) P.1 (a - cxB X) (by rw [P.at (by omega), pw_ce_I ht]) (va_nm_int (S.1.2 1 _ rfl).2) d (kk p e R s m args below meth cd H locs cells slots ar Z B S P F L c1 c2 K)
theorem pw_acopy {i a0 a : Nat} {sp dp n : Int32} (d : decode (mB M) pc = .ok (.invokestatic i, 3)) (hl : Cond.methodLink (mY M).cls i arraycopyName ∈ pw_Tb) (hnat : Cond.native arraycopyName ∈ pw_Tb) (hst : Cond.static arraycopyName ∈ pw_Tb) (hini : Cond.initialized "java/lang/System" ∈ pw_Tb) (ht0 : tg σ a0 = 11) (ht : tg σ a = 11)
    (h1 : ¬ sp < 0) (h2 : ¬ dp < 0) (h3 : ¬ n < 0) (h4 : sp.toNatClampNeg + n.toNatClampNeg ≤ ln σ a0) (h5 : dp.toNatClampNeg + n.toNatClampNeg ≤ ln σ a) (hf1 : 1 ≤ mF M) (hlo : (st.map fun v => v.category).sum + (nativeFrameWords "java/lang/System" "arraycopy" 5 + 11) ≤ mLo M)
    (kk : PW X M b1 b2 (pc + 3) ls st σ (wC μ a (va_cpy (μ a0) (μ a) sp.toNatClampNeg dp.toNatClampNeg n.toNatClampNeg)) Q) : PW X M b1 b2 pc ls (.int n :: .int dp :: .ref a :: .int sp :: .ref a0 :: st) σ μ Q := by
  intro p e R s m args below meth cd H locs cells slots ar Z B S P F L c1 c2 K
  have hts := B.2.2.2.2.2.1
  have nnz : ∀ z : Int32, ¬ z < 0 → z.toInt = (z.toNatClampNeg : Int) := by
    intro z hz
    have hz0 : (0 : Int) ≤ z.toInt := by
      have := Int32.not_lt.mp hz
      simpa using Int32.le_iff_toInt_le.mp this
    show z.toInt = ((z.toInt.toNat : Nat) : Int)
    omega
  have ha0 := P.at (a := a0) (by omega)
  rw [pw_ce_I ht0] at ha0
  have ha1 := P.at (a := a) (by omega)
  rw [pw_ce_I ht] at ha1
  intro T hT X0
  have hc0 : H[a0]? = some (vp_cell (cxC X).2.1 (ln σ a0, .inl (μ a0))) := P.1 _ _ ha0
  have hc1 : H[a]? = some (vp_cell (cxC X).2.1 (ln σ a, .inl (μ a))) := P.1 _ _ ha1
  obtain ⟨-, k0, hk0, cm0, hkk0⟩ := (S.1.2 1 _ rfl).1 (ln σ a0) (fun j => .int (μ a0 j))
  obtain ⟨-, k1, hk1, cm1, hkk1⟩ := (S.1.2 1 _ rfl).1 (ln σ a) (fun j => .int (μ a j))
  obtain ⟨vm', X', step⟩ := X0.arraycopy B.1 B.2.2.2.2.1 (hts _ hl) (hts _ hnat) (hts _ hst) (hts _ hini) (src := a0) (dst := a) (cs := vp_cell (cxC X).2.1 (ln σ a0, .inl (μ a0))) (cd := vp_cell (cxC X).2.1 (ln σ a, .inl (μ a))) (srcPos := sp) (destPos := dp) (n := n) (by rw [hT]; exact hc0) (by rw [hT]; exact hc1)
    (fun _ h => by cases h) (fun _ h => by cases h) (fun h => by cases h) (fun h => by cases h) hk0 hk1 hkk0 hkk1 (by simp [refKind]) h1 h2 h3
    (by rw [nnz sp h1, nnz n h3]; show ¬ _ > ((arrV (cxC X).2.1 (ln σ a0) (fun j => .int (μ a0 j))).slots.size : Int); rw [arrV_size]; omega)
    (by rw [nnz dp h2, nnz n h3]; show ¬ _ > ((arrV (cxC X).2.1 (ln σ a) (fun j => .int (μ a j))).slots.size : Int); rw [arrV_size]; omega)
    (fun vm₁ _ i hi => by
      have e : (vp_cell (cxC X).2.1 (ln σ a0, .inl (μ a0))).slots.getD (sp.toNatClampNeg + i) .null = .int (μ a0 (sp.toNatClampNeg + i)) := by
        show (arrV (cxC X).2.1 (ln σ a0) (fun j => .int (μ a0 j))).slots.getD _ _ = _
        rw [Array.getD_eq_getD_getElem?, arrV_read _ _ (by omega)]
        rfl
      refine ⟨?_, ?_⟩
      · rw [e]
        rfl
      · rw [e]
        exact trivial)
    (g := F0 m pc ar (.int n :: .int dp :: .ref a :: .int sp :: .ref a0 :: st)) rfl (L.1.trans B.2.2.2.1.symm) (rest := st) rfl (by rw [B.2.1]; exact d) (Nat.le_trans hf1 B.2.2.2.2.2.2.2.2.1) (by show 2 * 0 + _ + _ ≤ _; exact Nat.le_trans (by omega) B.2.2.2.2.2.2.2.2.2)
  have e1 : copied (vp_cell (cxC X).2.1 (ln σ a0, .inl (μ a0))) (vp_cell (cxC X).2.1 (ln σ a, .inl (μ a))) sp dp n = vp_cell (cxC X).2.1 (ln σ a, .inl (va_cpy (μ a0) (μ a) sp.toNatClampNeg dp.toNatClampNeg n.toNatClampNeg)) := va_copied (fun z => .int z) (cxC X).2.1 (cxC X).2.1 (μ a0) (μ a) h4
  rw [e1] at X' step
  generalize hcn : vp_cell (cxC X).2.1 (ln σ a, .inl (va_cpy (μ a0) (μ a) sp.toNatClampNeg dp.toNatClampNeg n.toNatClampNeg)) = cn at X' step
  have hl : a < H.size := (Array.getElem?_eq_some_iff.mp hc1).1
  have hheap : ((T.setVm vm').setCell a cn).heap = H.setIfInBounds a cn := by rw [← hT]; rfl
  have oq : ∀ q : Nat, q ≠ a → (H.setIfInBounds a cn)[q]? = H[q]? := fun q hq => by simp [Array.getElem?_setIfInBounds, Ne.symm hq]
  have hz : (H.setIfInBounds a cn).size = H.size := by simp
  obtain ⟨t9, a1, b9⟩ := kk p e R s m args below meth cd (H.setIfInBounds a cn) _ cells slots ar Z B S (P.upd (a := a) (e := _) (by omega) rfl rfl (P.1.set (pw_D X σ μ) ha1 (e := pw_ce X σ (wC μ a (va_cpy (μ a0) (μ a) sp.toNatClampNeg dp.toNatClampNeg n.toNatClampNeg)) a) (by
      rw [pw_ce_I ht, wC_self]
      show (H.setIfInBounds a cn)[a]? = some (vp_cell _ _)
      rw [hcn]
      simp [Array.getElem?_setIfInBounds, hl]) oq) hz rfl pw_ce_wC (pw_bo_wC P.2.2.2 (by omega))) ⟨by rw [hz]; exact F.1, fun q g1 g2 => by
      rw [oq q (fun e => g2 (by rw [e]; exact (P.2.2.1 a (by omega)).1))]
      exact F.2.1 q g1 g2, fun q hq => by
      rcases List.mem_append.mp hq with h | h
      · exact F.2.2 q h
      · obtain ⟨z, -, hz⟩ := List.mem_map.mp h
        rw [← hz]
        exact (P.2.2.1 a (by omega)).1⟩ L c1 c2 K _ hheap X'
  exact ⟨t9, step t9 a1, b9⟩
theorem pw_min {i : Nat} {x y : Int32} (d : decode (mB M) pc = .ok (.invokestatic i, 3)) (hl : Cond.methodLink (mY M).cls i Lib.Math.min.name ∈ pw_Tb) (hst : Cond.static Lib.Math.min.name ∈ pw_Tb) (hini : Cond.initialized "java/lang/Math" ∈ pw_Tb) (hcode : Cond.code Lib.Math.min.name Lib.Math.min.code 2 (some .int) ∈ pw_Tb) (hf1 : 1 ≤ mF M) (hlo : (st.map fun v => v.category).sum + 13 ≤ mLo M) (kk : PW X M b1 b2 (pc + 3) ls (.int (if y < x then y else x) :: st) σ μ Q) : PW X M b1 b2 pc ls (.int y :: .int x :: st) σ μ Q :=
  fun p e R s m args below meth cd H locs cells slots ar Z B S P F L c1 c2 K => va_mmin B.1 B.2.1 (B.2.2.2.1.trans L.1.symm) B.2.2.2.2.1 (B.2.2.2.2.2.1 _ hl) (B.2.2.2.2.2.1 _ hst) (B.2.2.2.2.2.1 _ hini) (B.2.2.2.2.2.1 _ hcode) (Nat.le_trans hf1 B.2.2.2.2.2.2.2.2.1) (Nat.le_trans hlo B.2.2.2.2.2.2.2.2.2) (by omega) (by omega) d (kk p e R s m args below meth cd H locs cells slots ar Z B S P F L c1 c2 K)
theorem pw_max {i : Nat} {x y : Int32} (d : decode (mB M) pc = .ok (.invokestatic i, 3)) (hl : Cond.methodLink (mY M).cls i Lib.Math.max.name ∈ pw_Tb) (hst : Cond.static Lib.Math.max.name ∈ pw_Tb) (hini : Cond.initialized "java/lang/Math" ∈ pw_Tb) (hcode : Cond.code Lib.Math.max.name Lib.Math.max.code 2 (some .int) ∈ pw_Tb) (hf1 : 1 ≤ mF M) (hlo : (st.map fun v => v.category).sum + 13 ≤ mLo M) (kk : PW X M b1 b2 (pc + 3) ls (.int (if x < y then y else x) :: st) σ μ Q) : PW X M b1 b2 pc ls (.int y :: .int x :: st) σ μ Q :=
  fun p e R s m args below meth cd H locs cells slots ar Z B S P F L c1 c2 K => va_mmax B.1 B.2.1 (B.2.2.2.1.trans L.1.symm) B.2.2.2.2.1 (B.2.2.2.2.2.1 _ hl) (B.2.2.2.2.2.1 _ hst) (B.2.2.2.2.2.1 _ hini) (B.2.2.2.2.2.1 _ hcode) (Nat.le_trans hf1 B.2.2.2.2.2.2.2.2.1) (Nat.le_trans hlo B.2.2.2.2.2.2.2.2.2) (by omega) (by omega) d (kk p e R s m args below meth cd H locs cells slots ar Z B S P F L c1 c2 K)
theorem pw_oinit {i a : Nat} (d : decode (mB M) pc = .ok (.invokespecial i, 3)) (hl : Cond.methodLink (mY M).cls i objectInit ∈ pw_Tb) (hin : Cond.instanceMethod objectInit ∈ pw_Tb) (hcode : Cond.code objectInit ⟨#[0xb1]⟩ 1 none ∈ pw_Tb) (hf1 : 1 ≤ mF M) (hlo : (st.map fun v => v.category).sum + 12 ≤ mLo M) (kk : PW X M b1 b2 (pc + 3) ls st σ μ Q) : PW X M b1 b2 pc ls (.ref a :: st) σ μ Q :=
  fun p e R s m args below meth cd H locs cells slots ar Z B S P F L c1 c2 K => W.objInit B.1 B.2.1 B.2.2.2.2.1 (B.2.2.2.2.2.1 _ hl) (B.2.2.2.2.2.1 _ hin) (B.2.2.2.2.2.1 _ hcode) rfl (L.1.trans B.2.2.2.1.symm) rfl d (Nat.le_trans hf1 B.2.2.2.2.2.2.2.2.1) (by show 2 * 0 + _ + 12 ≤ _; exact Nat.le_trans (by omega) B.2.2.2.2.2.2.2.2.2) (kk p e R s m args below meth cd H locs cells slots ar Z B S P F L c1 c2 K)
end PWM
end
section
/-! The methods: what they are, what the tables say of them; printed by a program -/
theorem pw_in {w : Cond} (i : Nat) (h : tables_1[i]? = some w) (hg : goodWord w = true) : w ∈ pw_Tb := List.mem_filter.mpr ⟨List.mem_append_right _ (List.mem_of_getElem? h), hg⟩
theorem pw_inS {w : Cond} (i : Nat) (h : (k2_sels lw_privs)[i]? = some w) (hg : goodWord w = true) : w ∈ pw_Tb := List.mem_filter.mpr ⟨List.mem_append_left _ (List.mem_of_getElem? h), hg⟩
def mJ6_bitCount_0f7a4 : Mt := (yJ6_bitCount_0f7a4, cJ6_bitCount_0f7a4, 1, (some .int), 0, 0, 0, 0)
theorem vJ6_bitCount_0f7a4 : MV mJ6_bitCount_0f7a4 1 := ⟨pw_in 461 (by decide +kernel) (by decide +kernel), pw_in 11 (by decide +kernel) (by decide +kernel), by decide +kernel, by decide +kernel, by decide +kernel⟩
theorem sJ6_bitCount_0f7a4 : Cond.static (mY mJ6_bitCount_0f7a4) ∈ pw_Tb := pw_in 460 (by decide +kernel) (by decide +kernel)
def mL_ahead : Mt := (yL_ahead, cL_ahead, 27, (some .boolean), 7, 173, 6, 191)
set_option maxRecDepth 100000 in
theorem vL_ahead : MV mL_ahead 8 := ⟨pw_in 578 rfl (by decide +kernel), pw_in 0 (by decide +kernel) (by decide +kernel), by decide +kernel, by decide +kernel, by decide +kernel⟩
theorem sL_ahead : Cond.static (mY mL_ahead) ∈ pw_Tb := pw_in 577 (by decide +kernel) (by decide +kernel)
def mL_away : Mt := (yL_away, cL_away, 4, none, 0, 0, 0, 0)
theorem vL_away : MV mL_away 3 := ⟨pw_in 483 (by decide +kernel) (by decide +kernel), pw_in 0 (by decide +kernel) (by decide +kernel), by decide +kernel, by decide +kernel, by decide +kernel⟩
theorem sL_away : Cond.static (mY mL_away) ∈ pw_Tb := pw_in 482 (by decide +kernel) (by decide +kernel)
def mL_beat : Mt := (yL_beat, cL_beat, 15, (some .int), 2, 48, 0, 0)
set_option maxRecDepth 100000 in
theorem vL_beat : MV mL_beat 6 := ⟨pw_in 492 rfl (by decide +kernel), pw_in 0 (by decide +kernel) (by decide +kernel), by decide +kernel, by decide +kernel, by decide +kernel⟩
theorem sL_beat : Cond.static (mY mL_beat) ∈ pw_Tb := pw_in 491 (by decide +kernel) (by decide +kernel)
def mL_cell : Mt := (yL_cell, cL_cell, 2, (some .int), 0, 0, 0, 0)
theorem vL_cell : MV mL_cell 2 := ⟨pw_in 474 (by decide +kernel) (by decide +kernel), pw_in 0 (by decide +kernel) (by decide +kernel), by decide +kernel, by decide +kernel, by decide +kernel⟩
theorem sL_cell : Cond.static (mY mL_cell) ∈ pw_Tb := pw_in 473 (by decide +kernel) (by decide +kernel)
def mL_copy : Mt := (yL_copy, cL_copy, 3, none, 0, 0, 0, 0)
theorem vL_copy : MV mL_copy 2 := ⟨pw_in 581 (by decide +kernel) (by decide +kernel), pw_in 0 (by decide +kernel) (by decide +kernel), by decide +kernel, by decide +kernel, by decide +kernel⟩
theorem sL_copy : Cond.static (mY mL_copy) ∈ pw_Tb := pw_in 580 (by decide +kernel) (by decide +kernel)
def mL_fails : Mt := (yL_fails, cL_fails, 6, none, 1, 23, 0, 0)
theorem vL_fails : MV mL_fails 6 := ⟨pw_in 486 (by decide +kernel) (by decide +kernel), pw_in 0 (by decide +kernel) (by decide +kernel), by decide +kernel, by decide +kernel, by decide +kernel⟩
theorem sL_fails : Cond.static (mY mL_fails) ∈ pw_Tb := pw_in 485 (by decide +kernel) (by decide +kernel)
def mL_law : Mt := (yL_law, code, 17, some .boolean, 10, 438, 600000, 7302250)
def mL_low : Mt := (yL_low, cL_low, 2, (some .int), 0, 0, 0, 0)
theorem vL_low : MV mL_low 2 := ⟨pw_in 479 (by decide +kernel) (by decide +kernel), pw_in 0 (by decide +kernel) (by decide +kernel), by decide +kernel, by decide +kernel, by decide +kernel⟩
theorem sL_low : Cond.static (mY mL_low) ∈ pw_Tb := pw_in 478 (by decide +kernel) (by decide +kernel)
def mL_stations : Mt := (yL_stations, cL_stations, 13, (some .boolean), 3, 67, 0, 0)
set_option maxRecDepth 100000 in
theorem vL_stations : MV mL_stations 7 := ⟨pw_in 539 rfl (by decide +kernel), pw_in 0 (by decide +kernel) (by decide +kernel), by decide +kernel, by decide +kernel, by decide +kernel⟩
theorem sL_stations : Cond.static (mY mL_stations) ∈ pw_Tb := pw_in 538 (by decide +kernel) (by decide +kernel)
def mL_tells : Mt := (yL_tells, cL_tells, 16, (some .boolean), 5, 112, 1, 10)
set_option maxRecDepth 100000 in
theorem vL_tells : MV mL_tells 7 := ⟨pw_in 498 rfl (by decide +kernel), pw_in 0 (by decide +kernel) (by decide +kernel), by decide +kernel, by decide +kernel, by decide +kernel⟩
theorem sL_tells : Cond.static (mY mL_tells) ∈ pw_Tb := pw_in 497 (by decide +kernel) (by decide +kernel)
def mL_up : Mt := (yL_up, cL_up, 2, (some .boolean), 0, 0, 0, 0)
theorem vL_up : MV mL_up 2 := ⟨pw_in 495 (by decide +kernel) (by decide +kernel), pw_in 0 (by decide +kernel) (by decide +kernel), by decide +kernel, by decide +kernel, by decide +kernel⟩
theorem sL_up : Cond.static (mY mL_up) ∈ pw_Tb := pw_in 494 (by decide +kernel) (by decide +kernel)
def mL_wireOf : Mt := (yL_wireOf, cL_wireOf, 2, (some .int), 0, 0, 0, 0)
theorem vL_wireOf : MV mL_wireOf 2 := ⟨pw_in 489 (by decide +kernel) (by decide +kernel), pw_in 0 (by decide +kernel) (by decide +kernel), by decide +kernel, by decide +kernel, by decide +kernel⟩
theorem sL_wireOf : Cond.static (mY mL_wireOf) ∈ pw_Tb := pw_in 488 (by decide +kernel) (by decide +kernel)
def mX0_addStation : Mt := (yX0_addStation, cX0_addStation, 2, (some .int), 0, 0, 0, 0)
theorem vX0_addStation : MV mX0_addStation 1 := ⟨pw_in 311 (by decide +kernel) (by decide +kernel), pw_in 2 (by decide +kernel) (by decide +kernel), by decide +kernel, by decide +kernel, by decide +kernel⟩
theorem iX0_addStation : MI mX0_addStation := ⟨pw_in 309 (by decide +kernel) (by decide +kernel), pw_in 310 (by decide +kernel) (by decide +kernel)⟩
def mX0_addWord : Mt := (yX0_addWord, cX0_addWord, 5, (some .int), 1, 22, 0, 0)
theorem vX0_addWord : MV mX0_addWord 3 := ⟨pw_in 319 (by decide +kernel) (by decide +kernel), pw_in 2 (by decide +kernel) (by decide +kernel), by decide +kernel, by decide +kernel, by decide +kernel⟩
theorem iX0_addWord : MI mX0_addWord := ⟨pw_in 317 (by decide +kernel) (by decide +kernel), pw_in 318 (by decide +kernel) (by decide +kernel)⟩
def mX0_awakeStations : Mt := (yX0_awakeStations, cX0_awakeStations, 3, (some .int), 1, 20, 0, 0)
theorem vX0_awakeStations : MV mX0_awakeStations 0 := ⟨pw_in 411 (by decide +kernel) (by decide +kernel), pw_in 2 (by decide +kernel) (by decide +kernel), by decide +kernel, by decide +kernel, by decide +kernel⟩
theorem iX0_awakeStations : MI mX0_awakeStations := ⟨pw_in 409 (by decide +kernel) (by decide +kernel), pw_in 410 (by decide +kernel) (by decide +kernel)⟩
def mX0_beHeard : Mt := (yX0_beHeard, cX0_beHeard, 6, none, 2, 50, 0, 0)
theorem vX0_beHeard : MV mX0_beHeard 1 := ⟨pw_in 448 (by decide +kernel) (by decide +kernel), pw_in 2 (by decide +kernel) (by decide +kernel), by decide +kernel, by decide +kernel, by decide +kernel⟩
theorem iX0_beHeard : MI mX0_beHeard := ⟨pw_in 447 (by decide +kernel) (by decide +kernel), pw_inS 5 (by decide +kernel) (by decide +kernel)⟩
def mX0_beginWords : Mt := (yX0_beginWords, cX0_beginWords, 5, none, 3, 64, 0, 0)
theorem vX0_beginWords : MV mX0_beginWords 1 := ⟨pw_in 419 (by decide +kernel) (by decide +kernel), pw_in 2 (by decide +kernel) (by decide +kernel), by decide +kernel, by decide +kernel, by decide +kernel⟩
theorem iX0_beginWords : MI mX0_beginWords := ⟨pw_in 418 (by decide +kernel) (by decide +kernel), pw_inS 2 (by decide +kernel) (by decide +kernel)⟩
def mX0_changeCharges : Mt := (yX0_changeCharges, cX0_changeCharges, 7, none, 3, 64, 0, 0)
theorem vX0_changeCharges : MV mX0_changeCharges 1 := ⟨pw_in 458 (by decide +kernel) (by decide +kernel), pw_in 2 (by decide +kernel) (by decide +kernel), by decide +kernel, by decide +kernel, by decide +kernel⟩
theorem iX0_changeCharges : MI mX0_changeCharges := ⟨pw_in 457 (by decide +kernel) (by decide +kernel), pw_inS 6 (by decide +kernel) (by decide +kernel)⟩
def mX0_changeSetting : Mt := (yX0_changeSetting, cX0_changeSetting, 4, (some .int), 2, 43, 0, 0)
theorem vX0_changeSetting : MV mX0_changeSetting 2 := ⟨pw_in 289 (by decide +kernel) (by decide +kernel), pw_in 2 (by decide +kernel) (by decide +kernel), by decide +kernel, by decide +kernel, by decide +kernel⟩
theorem iX0_changeSetting : MI mX0_changeSetting := ⟨pw_in 287 (by decide +kernel) (by decide +kernel), pw_in 288 (by decide +kernel) (by decide +kernel)⟩
def mX0_copyFrom : Mt := (yX0_copyFrom, cX0_copyFrom, 3, none, 4, 89, 0, 0)
theorem vX0_copyFrom : MV mX0_copyFrom 1 := ⟨pw_in 262 (by decide +kernel) (by decide +kernel), pw_in 2 (by decide +kernel) (by decide +kernel), by decide +kernel, by decide +kernel, by decide +kernel⟩
theorem iX0_copyFrom : MI mX0_copyFrom := ⟨pw_in 260 (by decide +kernel) (by decide +kernel), pw_in 261 (by decide +kernel) (by decide +kernel)⟩
def mX0_find : Mt := (yX0_find, cX0_find, 2, (some (.object "BusSilences$Station")), 0, 0, 0, 0)
theorem vX0_find : MV mX0_find 1 := ⟨pw_in 323 (by decide +kernel) (by decide +kernel), pw_in 2 (by decide +kernel) (by decide +kernel), by decide +kernel, by decide +kernel, by decide +kernel⟩
theorem iX0_find : MI mX0_find := ⟨pw_in 321 (by decide +kernel) (by decide +kernel), pw_in 322 (by decide +kernel) (by decide +kernel)⟩
def mX0_forgetWord : Mt := (yX0_forgetWord, cX0_forgetWord, 4, (some .int), 2, 42, 0, 0)
theorem vX0_forgetWord : MV mX0_forgetWord 1 := ⟨pw_in 342 (by decide +kernel) (by decide +kernel), pw_in 2 (by decide +kernel) (by decide +kernel), by decide +kernel, by decide +kernel, by decide +kernel⟩
theorem iX0_forgetWord : MI mX0_forgetWord := ⟨pw_in 340 (by decide +kernel) (by decide +kernel), pw_in 341 (by decide +kernel) (by decide +kernel)⟩
def mX0_giveUp : Mt := (yX0_giveUp, cX0_giveUp, 3, none, 2, 42, 0, 0)
theorem vX0_giveUp : MV mX0_giveUp 1 := ⟨pw_in 386 (by decide +kernel) (by decide +kernel), pw_in 2 (by decide +kernel) (by decide +kernel), by decide +kernel, by decide +kernel, by decide +kernel⟩
theorem iX0_giveUp : MI mX0_giveUp := ⟨pw_in 385 (by decide +kernel) (by decide +kernel), pw_inS 1 (by decide +kernel) (by decide +kernel)⟩
def mX0_goOnSpeaking : Mt := (yX0_goOnSpeaking, cX0_goOnSpeaking, 6, (some .int), 3, 75, 0, 0)
theorem vX0_goOnSpeaking : MV mX0_goOnSpeaking 2 := ⟨pw_in 444 (by decide +kernel) (by decide +kernel), pw_in 2 (by decide +kernel) (by decide +kernel), by decide +kernel, by decide +kernel, by decide +kernel⟩
theorem iX0_goOnSpeaking : MI mX0_goOnSpeaking := ⟨pw_in 443 (by decide +kernel) (by decide +kernel), pw_inS 4 (by decide +kernel) (by decide +kernel)⟩
def mX0_hasFault : Mt := (yX0_hasFault, cX0_hasFault, 2, (some .boolean), 1, 20, 0, 0)
theorem vX0_hasFault : MV mX0_hasFault 1 := ⟨pw_in 370 (by decide +kernel) (by decide +kernel), pw_in 2 (by decide +kernel) (by decide +kernel), by decide +kernel, by decide +kernel, by decide +kernel⟩
theorem iX0_hasFault : MI mX0_hasFault := ⟨pw_in 368 (by decide +kernel) (by decide +kernel), pw_in 369 (by decide +kernel) (by decide +kernel)⟩
def mX0_hasWords : Mt := (yX0_hasWords, cX0_hasWords, 2, (some .boolean), 0, 0, 0, 0)
theorem vX0_hasWords : MV mX0_hasWords 0 := ⟨pw_in 590 (by decide +kernel) (by decide +kernel), pw_in 2 (by decide +kernel) (by decide +kernel), by decide +kernel, by decide +kernel, by decide +kernel⟩
theorem iX0_hasWords : MI mX0_hasWords := ⟨pw_in 588 (by decide +kernel) (by decide +kernel), pw_in 589 (by decide +kernel) (by decide +kernel)⟩
def mX0_init : Mt := (yX0_init, cX0_init, 2, none, 3, 61, 61, 423)
theorem vX0_init : MV mX0_init 0 := ⟨pw_in 24 (by decide +kernel) (by decide +kernel), pw_in 2 (by decide +kernel) (by decide +kernel), by decide +kernel, by decide +kernel, by decide +kernel⟩
theorem nX0_init : Cond.instanceMethod (mY mX0_init) ∈ pw_Tb := pw_in 23 (by decide +kernel) (by decide +kernel)
def mX0_isRested : Mt := (yX0_isRested, cX0_isRested, 2, (some .boolean), 1, 20, 0, 0)
theorem vX0_isRested : MV mX0_isRested 1 := ⟨pw_in 423 (by decide +kernel) (by decide +kernel), pw_in 2 (by decide +kernel) (by decide +kernel), by decide +kernel, by decide +kernel, by decide +kernel⟩
theorem iX0_isRested : MI mX0_isRested := ⟨pw_in 421 (by decide +kernel) (by decide +kernel), pw_in 422 (by decide +kernel) (by decide +kernel)⟩
def mX0_loseChargeAbove : Mt := (yX0_loseChargeAbove, cX0_loseChargeAbove, 3, none, 1, 21, 0, 0)
theorem vX0_loseChargeAbove : MV mX0_loseChargeAbove 1 := ⟨pw_in 297 (by decide +kernel) (by decide +kernel), pw_in 2 (by decide +kernel) (by decide +kernel), by decide +kernel, by decide +kernel, by decide +kernel⟩
theorem iX0_loseChargeAbove : MI mX0_loseChargeAbove := ⟨pw_in 296 (by decide +kernel) (by decide +kernel), pw_inS 0 (by decide +kernel) (by decide +kernel)⟩
def mX0_passBeat : Mt := (yX0_passBeat, cX0_passBeat, 4, (some .int), 4, 100, 0, 0)
theorem vX0_passBeat : MV mX0_passBeat 0 := ⟨pw_in 407 (by decide +kernel) (by decide +kernel), pw_in 2 (by decide +kernel) (by decide +kernel), by decide +kernel, by decide +kernel, by decide +kernel⟩
theorem iX0_passBeat : MI mX0_passBeat := ⟨pw_in 405 (by decide +kernel) (by decide +kernel), pw_in 406 (by decide +kernel) (by decide +kernel)⟩
def mX0_passBeats : Mt := (yX0_passBeats, cX0_passBeats, 4, (some .int), 5, 123, 0, 0)
theorem vX0_passBeats : MV mX0_passBeats 1 := ⟨pw_in 402 (by decide +kernel) (by decide +kernel), pw_in 2 (by decide +kernel) (by decide +kernel), by decide +kernel, by decide +kernel, by decide +kernel⟩
theorem iX0_passBeats : MI mX0_passBeats := ⟨pw_in 400 (by decide +kernel) (by decide +kernel), pw_in 401 (by decide +kernel) (by decide +kernel)⟩
def mX0_pulledWires : Mt := (yX0_pulledWires, cX0_pulledWires, 3, (some .int), 1, 20, 0, 0)
theorem vX0_pulledWires : MV mX0_pulledWires 0 := ⟨pw_in 436 (by decide +kernel) (by decide +kernel), pw_in 2 (by decide +kernel) (by decide +kernel), by decide +kernel, by decide +kernel, by decide +kernel⟩
theorem iX0_pulledWires : MI mX0_pulledWires := ⟨pw_in 435 (by decide +kernel) (by decide +kernel), pw_inS 3 (by decide +kernel) (by decide +kernel)⟩
def mX0_restWires : Mt := (yX0_restWires, cX0_restWires, 3, none, 1, 21, 0, 0)
theorem vX0_restWires : MV mX0_restWires 1 := ⟨pw_in 471 (by decide +kernel) (by decide +kernel), pw_in 2 (by decide +kernel) (by decide +kernel), by decide +kernel, by decide +kernel, by decide +kernel⟩
theorem iX0_restWires : MI mX0_restWires := ⟨pw_in 470 (by decide +kernel) (by decide +kernel), pw_inS 7 (by decide +kernel) (by decide +kernel)⟩
def mX0_speakersOn : Mt := (yX0_speakersOn, cX0_speakersOn, 4, (some .int), 0, 0, 0, 0)
theorem vX0_speakersOn : MV mX0_speakersOn 1 := ⟨pw_in 509 (by decide +kernel) (by decide +kernel), pw_in 2 (by decide +kernel) (by decide +kernel), by decide +kernel, by decide +kernel, by decide +kernel⟩
theorem iX0_speakersOn : MI mX0_speakersOn := ⟨pw_in 507 (by decide +kernel) (by decide +kernel), pw_in 508 (by decide +kernel) (by decide +kernel)⟩
def mX0_stationsAt : Mt := (yX0_stationsAt, cX0_stationsAt, 4, (some .int), 1, 21, 0, 0)
theorem vX0_stationsAt : MV mX0_stationsAt 1 := ⟨pw_in 427 (by decide +kernel) (by decide +kernel), pw_in 2 (by decide +kernel) (by decide +kernel), by decide +kernel, by decide +kernel, by decide +kernel⟩
theorem iX0_stationsAt : MI mX0_stationsAt := ⟨pw_in 425 (by decide +kernel) (by decide +kernel), pw_in 426 (by decide +kernel) (by decide +kernel)⟩
def mX0_sumOf : Mt := (yX0_sumOf, cX0_sumOf, 4, (some .int), 2, 41, 0, 0)
theorem vX0_sumOf : MV mX0_sumOf 1 := ⟨pw_in 531 (by decide +kernel) (by decide +kernel), pw_in 2 (by decide +kernel) (by decide +kernel), by decide +kernel, by decide +kernel, by decide +kernel⟩
theorem iX0_sumOf : MI mX0_sumOf := ⟨pw_in 529 (by decide +kernel) (by decide +kernel), pw_in 530 (by decide +kernel) (by decide +kernel)⟩
def mX0_toggleDoze : Mt := (yX0_toggleDoze, cX0_toggleDoze, 3, (some .int), 3, 64, 0, 0)
theorem vX0_toggleDoze : MV mX0_toggleDoze 1 := ⟨pw_in 378 (by decide +kernel) (by decide +kernel), pw_in 2 (by decide +kernel) (by decide +kernel), by decide +kernel, by decide +kernel, by decide +kernel⟩
theorem iX0_toggleDoze : MI mX0_toggleDoze := ⟨pw_in 376 (by decide +kernel) (by decide +kernel), pw_in 377 (by decide +kernel) (by decide +kernel)⟩
def mX0_toggleFault : Mt := (yX0_toggleFault, cX0_toggleFault, 2, (some .int), 2, 41, 0, 0)
theorem vX0_toggleFault : MV mX0_toggleFault 1 := ⟨pw_in 366 (by decide +kernel) (by decide +kernel), pw_in 2 (by decide +kernel) (by decide +kernel), by decide +kernel, by decide +kernel, by decide +kernel⟩
theorem iX0_toggleFault : MI mX0_toggleFault := ⟨pw_in 364 (by decide +kernel) (by decide +kernel), pw_in 365 (by decide +kernel) (by decide +kernel)⟩
def mX0_waitingFor : Mt := (yX0_waitingFor, cX0_waitingFor, 4, (some .int), 3, 65, 0, 0)
theorem vX0_waitingFor : MV mX0_waitingFor 1 := ⟨pw_in 513 (by decide +kernel) (by decide +kernel), pw_in 2 (by decide +kernel) (by decide +kernel), by decide +kernel, by decide +kernel, by decide +kernel⟩
theorem iX0_waitingFor : MI mX0_waitingFor := ⟨pw_in 511 (by decide +kernel) (by decide +kernel), pw_in 512 (by decide +kernel) (by decide +kernel)⟩
def mX1_init : Mt := (yX1_init, cX1_init, 2, none, 4, 82, 435, 3024)
theorem vX1_init : MV mX1_init 0 := ⟨pw_in 180 (by decide +kernel) (by decide +kernel), pw_in 6 (by decide +kernel) (by decide +kernel), by decide +kernel, by decide +kernel, by decide +kernel⟩
theorem nX1_init : Cond.instanceMethod (mY mX1_init) ∈ pw_Tb := pw_in 179 (by decide +kernel) (by decide +kernel)
def mX1_keep : Mt := (yX1_keep, cX1_keep, 2, (some .int), 1, 21, 0, 0)
theorem vX1_keep : MV mX1_keep 1 := ⟨pw_in 302 (by decide +kernel) (by decide +kernel), pw_in 6 (by decide +kernel) (by decide +kernel), by decide +kernel, by decide +kernel, by decide +kernel⟩
theorem iX1_keep : MI mX1_keep := ⟨pw_in 300 (by decide +kernel) (by decide +kernel), pw_in 301 (by decide +kernel) (by decide +kernel)⟩
def mX1_prepare : Mt := (yX1_prepare, cX1_prepare, 2, none, 5, 111, 0, 0)
theorem vX1_prepare : MV mX1_prepare 1 := ⟨pw_in 258 (by decide +kernel) (by decide +kernel), pw_in 6 (by decide +kernel) (by decide +kernel), by decide +kernel, by decide +kernel, by decide +kernel⟩
theorem iX1_prepare : MI mX1_prepare := ⟨pw_in 256 (by decide +kernel) (by decide +kernel), pw_in 257 (by decide +kernel) (by decide +kernel)⟩
def mX2_add : Mt := (yX2_add, cX2_add, 5, none, 1, 26, 0, 0)
theorem vX2_add : MV mX2_add 4 := ⟨pw_in 452 (by decide +kernel) (by decide +kernel), pw_in 5 (by decide +kernel) (by decide +kernel), by decide +kernel, by decide +kernel, by decide +kernel⟩
theorem iX2_add : MI mX2_add := ⟨pw_in 450 (by decide +kernel) (by decide +kernel), pw_in 451 (by decide +kernel) (by decide +kernel)⟩
def mX2_copyFrom : Mt := (yX2_copyFrom, cX2_copyFrom, 2, none, 2, 47, 0, 0)
theorem vX2_copyFrom : MV mX2_copyFrom 1 := ⟨pw_in 284 (by decide +kernel) (by decide +kernel), pw_in 5 (by decide +kernel) (by decide +kernel), by decide +kernel, by decide +kernel, by decide +kernel⟩
theorem iX2_copyFrom : MI mX2_copyFrom := ⟨pw_in 282 (by decide +kernel) (by decide +kernel), pw_in 283 (by decide +kernel) (by decide +kernel)⟩
def mX2_fact : Mt := (yX2_fact, cX2_fact, 3, (some .int), 1, 21, 0, 0)
theorem vX2_fact : MV mX2_fact 2 := ⟨pw_in 568 (by decide +kernel) (by decide +kernel), pw_in 5 (by decide +kernel) (by decide +kernel), by decide +kernel, by decide +kernel, by decide +kernel⟩
theorem iX2_fact : MI mX2_fact := ⟨pw_in 566 (by decide +kernel) (by decide +kernel), pw_in 567 (by decide +kernel) (by decide +kernel)⟩
def mX2_has : Mt := (yX2_has, cX2_has, 2, (some .boolean), 0, 0, 0, 0)
theorem vX2_has : MV mX2_has 1 := ⟨pw_in 564 (by decide +kernel) (by decide +kernel), pw_in 5 (by decide +kernel) (by decide +kernel), by decide +kernel, by decide +kernel, by decide +kernel⟩
theorem iX2_has : MI mX2_has := ⟨pw_in 562 (by decide +kernel) (by decide +kernel), pw_in 563 (by decide +kernel) (by decide +kernel)⟩
def mX2_init : Mt := (yX2_init, cX2_init, 1, none, 1, 20, 1, 16)
theorem vX2_init : MV mX2_init 0 := ⟨pw_in 69 (by decide +kernel) (by decide +kernel), pw_in 5 (by decide +kernel) (by decide +kernel), by decide +kernel, by decide +kernel, by decide +kernel⟩
theorem nX2_init : Cond.instanceMethod (mY mX2_init) ∈ pw_Tb := pw_in 68 (by decide +kernel) (by decide +kernel)
def mX3_init : Mt := (yX3_init, cX3_init, 1, none, 1, 20, 1, 80)
theorem vX3_init : MV mX3_init 0 := ⟨pw_in 200 (by decide +kernel) (by decide +kernel), pw_in 7 (by decide +kernel) (by decide +kernel), by decide +kernel, by decide +kernel, by decide +kernel⟩
theorem nX3_init : Cond.instanceMethod (mY mX3_init) ∈ pw_Tb := pw_in 199 (by decide +kernel) (by decide +kernel)
def mX4_init : Mt := (yX4_init, cX4_init, 2, none, 1, 20, 0, 0)
theorem vX4_init : MV mX4_init 1 := ⟨pw_in 214 (by decide +kernel) (by decide +kernel), pw_in 8 (by decide +kernel) (by decide +kernel), by decide +kernel, by decide +kernel, by decide +kernel⟩
theorem nX4_init : Cond.instanceMethod (mY mX4_init) ∈ pw_Tb := pw_in 213 (by decide +kernel) (by decide +kernel)
def mX5_add : Mt := (yX5_add, cX5_add, 3, none, 0, 0, 0, 0)
theorem vX5_add : MV mX5_add 2 := ⟨pw_in 334 (by decide +kernel) (by decide +kernel), pw_in 4 (by decide +kernel) (by decide +kernel), by decide +kernel, by decide +kernel, by decide +kernel⟩
theorem iX5_add : MI mX5_add := ⟨pw_in 332 (by decide +kernel) (by decide +kernel), pw_in 333 (by decide +kernel) (by decide +kernel)⟩
def mX5_copyFrom : Mt := (yX5_copyFrom, cX5_copyFrom, 2, none, 2, 47, 0, 0)
theorem vX5_copyFrom : MV mX5_copyFrom 1 := ⟨pw_in 279 (by decide +kernel) (by decide +kernel), pw_in 4 (by decide +kernel) (by decide +kernel), by decide +kernel, by decide +kernel, by decide +kernel⟩
theorem iX5_copyFrom : MI mX5_copyFrom := ⟨pw_in 277 (by decide +kernel) (by decide +kernel), pw_in 278 (by decide +kernel) (by decide +kernel)⟩
def mX5_countFor : Mt := (yX5_countFor, cX5_countFor, 4, (some .int), 2, 42, 0, 0)
theorem vX5_countFor : MV mX5_countFor 1 := ⟨pw_in 517 (by decide +kernel) (by decide +kernel), pw_in 4 (by decide +kernel) (by decide +kernel), by decide +kernel, by decide +kernel, by decide +kernel⟩
theorem iX5_countFor : MI mX5_countFor := ⟨pw_in 515 (by decide +kernel) (by decide +kernel), pw_in 516 (by decide +kernel) (by decide +kernel)⟩
def mX5_dropFirst : Mt := (yX5_dropFirst, cX5_dropFirst, 2, none, 0, 0, 0, 0)
theorem vX5_dropFirst : MV mX5_dropFirst 0 := ⟨pw_in 354 (by decide +kernel) (by decide +kernel), pw_in 4 (by decide +kernel) (by decide +kernel), by decide +kernel, by decide +kernel, by decide +kernel⟩
theorem iX5_dropFirst : MI mX5_dropFirst := ⟨pw_in 352 (by decide +kernel) (by decide +kernel), pw_in 353 (by decide +kernel) (by decide +kernel)⟩
def mX5_has : Mt := (yX5_has, cX5_has, 2, (some .boolean), 0, 0, 0, 0)
theorem vX5_has : MV mX5_has 1 := ⟨pw_in 350 (by decide +kernel) (by decide +kernel), pw_in 4 (by decide +kernel) (by decide +kernel), by decide +kernel, by decide +kernel, by decide +kernel⟩
theorem iX5_has : MI mX5_has := ⟨pw_in 348 (by decide +kernel) (by decide +kernel), pw_in 349 (by decide +kernel) (by decide +kernel)⟩
def mX5_init : Mt := (yX5_init, cX5_init, 1, none, 1, 20, 3, 12)
theorem vX5_init : MV mX5_init 0 := ⟨pw_in 46 (by decide +kernel) (by decide +kernel), pw_in 4 (by decide +kernel) (by decide +kernel), by decide +kernel, by decide +kernel, by decide +kernel⟩
theorem nX5_init : Cond.instanceMethod (mY mX5_init) ∈ pw_Tb := pw_in 45 (by decide +kernel) (by decide +kernel)
def mX5_numberAt : Mt := (yX5_numberAt, cX5_numberAt, 2, (some .int), 1, 21, 0, 0)
theorem vX5_numberAt : MV mX5_numberAt 1 := ⟨pw_in 346 (by decide +kernel) (by decide +kernel), pw_in 4 (by decide +kernel) (by decide +kernel), by decide +kernel, by decide +kernel, by decide +kernel⟩
theorem iX5_numberAt : MI mX5_numberAt := ⟨pw_in 344 (by decide +kernel) (by decide +kernel), pw_in 345 (by decide +kernel) (by decide +kernel)⟩
def mX5_triesAt : Mt := (yX5_triesAt, cX5_triesAt, 2, (some .int), 1, 21, 0, 0)
theorem vX5_triesAt : MV mX5_triesAt 1 := ⟨pw_in 556 (by decide +kernel) (by decide +kernel), pw_in 4 (by decide +kernel) (by decide +kernel), by decide +kernel, by decide +kernel, by decide +kernel⟩
theorem iX5_triesAt : MI mX5_triesAt := ⟨pw_in 554 (by decide +kernel) (by decide +kernel), pw_in 555 (by decide +kernel) (by decide +kernel)⟩
def mX5_tryFirst : Mt := (yX5_tryFirst, cX5_tryFirst, 1, (some .int), 0, 0, 0, 0)
theorem vX5_tryFirst : MV mX5_tryFirst 0 := ⟨pw_in 394 (by decide +kernel) (by decide +kernel), pw_in 4 (by decide +kernel) (by decide +kernel), by decide +kernel, by decide +kernel, by decide +kernel⟩
theorem iX5_tryFirst : MI mX5_tryFirst := ⟨pw_in 392 (by decide +kernel) (by decide +kernel), pw_in 393 (by decide +kernel) (by decide +kernel)⟩
def mX5_wireAt : Mt := (yX5_wireAt, cX5_wireAt, 2, (some .int), 1, 21, 0, 0)
theorem vX5_wireAt : MV mX5_wireAt 1 := ⟨pw_in 390 (by decide +kernel) (by decide +kernel), pw_in 4 (by decide +kernel) (by decide +kernel), by decide +kernel, by decide +kernel, by decide +kernel⟩
theorem iX5_wireAt : MI mX5_wireAt := ⟨pw_in 388 (by decide +kernel) (by decide +kernel), pw_in 389 (by decide +kernel) (by decide +kernel)⟩
def mX6_begin : Mt := (yX6_begin, cX6_begin, 3, none, 2, 42, 0, 0)
theorem vX6_begin : MV mX6_begin 2 := ⟨pw_in 431 (by decide +kernel) (by decide +kernel), pw_in 3 (by decide +kernel) (by decide +kernel), by decide +kernel, by decide +kernel, by decide +kernel⟩
theorem iX6_begin : MI mX6_begin := ⟨pw_in 429 (by decide +kernel) (by decide +kernel), pw_in 430 (by decide +kernel) (by decide +kernel)⟩
def mX6_copyFrom : Mt := (yX6_copyFrom, cX6_copyFrom, 2, none, 3, 68, 0, 0)
theorem vX6_copyFrom : MV mX6_copyFrom 1 := ⟨pw_in 275 (by decide +kernel) (by decide +kernel), pw_in 3 (by decide +kernel) (by decide +kernel), by decide +kernel, by decide +kernel, by decide +kernel⟩
theorem iX6_copyFrom : MI mX6_copyFrom := ⟨pw_in 273 (by decide +kernel) (by decide +kernel), pw_in 274 (by decide +kernel) (by decide +kernel)⟩
def mX6_fact : Mt := (yX6_fact, cX6_fact, 2, (some .int), 1, 20, 0, 0)
theorem vX6_fact : MV mX6_fact 1 := ⟨pw_in 535 (by decide +kernel) (by decide +kernel), pw_in 3 (by decide +kernel) (by decide +kernel), by decide +kernel, by decide +kernel, by decide +kernel⟩
theorem iX6_fact : MI mX6_fact := ⟨pw_in 533 (by decide +kernel) (by decide +kernel), pw_in 534 (by decide +kernel) (by decide +kernel)⟩
def mX6_fallSilent : Mt := (yX6_fallSilent, cX6_fallSilent, 1, none, 0, 0, 0, 0)
theorem vX6_fallSilent : MV mX6_fallSilent 0 := ⟨pw_in 358 (by decide +kernel) (by decide +kernel), pw_in 3 (by decide +kernel) (by decide +kernel), by decide +kernel, by decide +kernel, by decide +kernel⟩
theorem iX6_fallSilent : MI mX6_fallSilent := ⟨pw_in 356 (by decide +kernel) (by decide +kernel), pw_in 357 (by decide +kernel) (by decide +kernel)⟩
def mX6_init : Mt := (yX6_init, cX6_init, 2, none, 2, 40, 6, 34)
theorem vX6_init : MV mX6_init 1 := ⟨pw_in 40 (by decide +kernel) (by decide +kernel), pw_in 3 (by decide +kernel) (by decide +kernel), by decide +kernel, by decide +kernel, by decide +kernel⟩
theorem nX6_init : Cond.instanceMethod (mY mX6_init) ∈ pw_Tb := pw_in 39 (by decide +kernel) (by decide +kernel)
def mX6_isAt : Mt := (yX6_isAt, cX6_isAt, 2, (some .boolean), 0, 0, 0, 0)
theorem vX6_isAt : MV mX6_isAt 1 := ⟨pw_in 330 (by decide +kernel) (by decide +kernel), pw_in 3 (by decide +kernel) (by decide +kernel), by decide +kernel, by decide +kernel, by decide +kernel⟩
theorem iX6_isAt : MI mX6_isAt := ⟨pw_in 328 (by decide +kernel) (by decide +kernel), pw_in 329 (by decide +kernel) (by decide +kernel)⟩
def mX6_isAwake : Mt := (yX6_isAwake, cX6_isAwake, 1, (some .boolean), 0, 0, 0, 0)
theorem vX6_isAwake : MV mX6_isAwake 0 := ⟨pw_in 415 (by decide +kernel) (by decide +kernel), pw_in 3 (by decide +kernel) (by decide +kernel), by decide +kernel, by decide +kernel, by decide +kernel⟩
theorem iX6_isAwake : MI mX6_isAwake := ⟨pw_in 413 (by decide +kernel) (by decide +kernel), pw_in 414 (by decide +kernel) (by decide +kernel)⟩
def mX6_isSpeaking : Mt := (yX6_isSpeaking, cX6_isSpeaking, 1, (some .boolean), 0, 0, 0, 0)
theorem vX6_isSpeaking : MV mX6_isSpeaking 0 := ⟨pw_in 382 (by decide +kernel) (by decide +kernel), pw_in 3 (by decide +kernel) (by decide +kernel), by decide +kernel, by decide +kernel, by decide +kernel⟩
theorem iX6_isSpeaking : MI mX6_isSpeaking := ⟨pw_in 380 (by decide +kernel) (by decide +kernel), pw_in 381 (by decide +kernel) (by decide +kernel)⟩
def mX6_letsGo : Mt := (yX6_letsGo, cX6_letsGo, 1, (some .boolean), 0, 0, 0, 0)
theorem vX6_letsGo : MV mX6_letsGo 0 := ⟨pw_in 440 (by decide +kernel) (by decide +kernel), pw_in 3 (by decide +kernel) (by decide +kernel), by decide +kernel, by decide +kernel, by decide +kernel⟩
theorem iX6_letsGo : MI mX6_letsGo := ⟨pw_in 438 (by decide +kernel) (by decide +kernel), pw_in 439 (by decide +kernel) (by decide +kernel)⟩
def mX7_bestRest : Mt := (yX7_bestRest, cX7_bestRest, 7, (some .int), 6, 147, 0, 0)
def mX7_busiest : Mt := (yX7_busiest, cX7_busiest, 5, (some .int), 4, 88, 0, 0)
def mX7_copyNumbers : Mt := (yX7_copyNumbers, cX7_copyNumbers, 2, none, 1, 26, 0, 0)
theorem vX7_copyNumbers : MV mX7_copyNumbers 2 := ⟨pw_in 265 (by decide +kernel) (by decide +kernel), pw_in 1 (by decide +kernel) (by decide +kernel), by decide +kernel, by decide +kernel, by decide +kernel⟩
theorem sX7_copyNumbers : Cond.static (mY mX7_copyNumbers) ∈ pw_Tb := pw_in 264 (by decide +kernel) (by decide +kernel)
def mX7_count : Mt := (yX7_count, cX7_count, 2, (some .int), 3, 64, 0, 0)
def mX7_doze : Mt := (yX7_doze, cX7_doze, 2, (some .int), 6, 132, 0, 0)
def mX7_endsIn : Mt := (yX7_endsIn, cX7_endsIn, 6, (some .int), 5, 123, 0, 0)
def mX7_forget : Mt := (yX7_forget, cX7_forget, 2, (some .int), 6, 132, 0, 0)
def mX7_heard : Mt := (yX7_heard, cX7_heard, 5, (some .int), 2, 43, 0, 0)
def mX7_heardWithRest : Mt := (yX7_heardWithRest, cX7_heardWithRest, 5, (some .int), 5, 123, 0, 0)
theorem vX7_heardWithRest : MV mX7_heardWithRest 2 := ⟨pw_in 609 (by decide +kernel) (by decide +kernel), pw_in 1 (by decide +kernel) (by decide +kernel), by decide +kernel, by decide +kernel, by decide +kernel⟩
theorem iX7_heardWithRest : MI mX7_heardWithRest := ⟨pw_in 608 (by decide +kernel) (by decide +kernel), pw_inS 8 (by decide +kernel) (by decide +kernel)⟩
def mX7_init : Mt := (yX7_init, cX7_init, 1, none, 5, 103, 564, 3980)
def mX7_isWire : Mt := (yX7_isWire, cX7_isWire, 1, (some .boolean), 0, 0, 0, 0)
theorem vX7_isWire : MV mX7_isWire 1 := ⟨pw_in 326 (by decide +kernel) (by decide +kernel), pw_in 1 (by decide +kernel) (by decide +kernel), by decide +kernel, by decide +kernel, by decide +kernel⟩
theorem sX7_isWire : Cond.static (mY mX7_isWire) ∈ pw_Tb := pw_in 325 (by decide +kernel) (by decide +kernel)
def mX7_of : Mt := (yX7_of, cX7_of, 4, (some .int), 2, 41, 0, 0)
def mX7_ofWire : Mt := (yX7_ofWire, cX7_ofWire, 3, (some .int), 4, 88, 0, 0)
def mX7_pass : Mt := (yX7_pass, cX7_pass, 2, (some .int), 6, 146, 0, 0)
def mX7_quietIn : Mt := (yX7_quietIn, cX7_quietIn, 2, (some .int), 5, 123, 0, 0)
def mX7_row : Mt := (yX7_row, cX7_row, 5, (some .int), 2, 42, 0, 0)
def mX7_set : Mt := (yX7_set, cX7_set, 3, (some .int), 6, 132, 0, 0)
def mX7_sleepsIn : Mt := (yX7_sleepsIn, cX7_sleepsIn, 4, (some .int), 5, 123, 0, 0)
def mX7_station : Mt := (yX7_station, cX7_station, 2, (some .int), 6, 132, 0, 0)
def mX7_stick : Mt := (yX7_stick, cX7_stick, 2, (some .int), 6, 132, 0, 0)
def mX7_why : Mt := (yX7_why, cX7_why, 4, (some .int), 2, 42, 0, 0)
def mX7_word : Mt := (yX7_word, cX7_word, 4, (some .int), 6, 132, 0, 0)
theorem kX7_1 : Cond.methodLink RX7 1 objectInit ∈ pw_Tb := pw_in 17 (by decide +kernel) (by decide +kernel)
theorem kX7_9 : Cond.methodLink RX7 9 (mY mX0_init) ∈ pw_Tb := pw_in 22 (by decide +kernel) (by decide +kernel)
theorem kX7_21 : Cond.methodLink RX7 21 (mY mX1_init) ∈ pw_Tb := pw_in 178 (by decide +kernel) (by decide +kernel)
theorem kX7_39 : Cond.methodLink RX7 39 (mY mX4_init) ∈ pw_Tb := pw_in 212 (by decide +kernel) (by decide +kernel)
theorem kX7_46 : Cond.methodLink RX7 46 (mY mX1_prepare) ∈ pw_Tb := pw_in 255 (by decide +kernel) (by decide +kernel)
theorem kX7_50 : Cond.methodLink RX7 50 (mY mX0_changeSetting) ∈ pw_Tb := pw_in 286 (by decide +kernel) (by decide +kernel)
theorem kX7_54 : Cond.methodLink RX7 54 (mY mX1_keep) ∈ pw_Tb := pw_in 299 (by decide +kernel) (by decide +kernel)
theorem kX7_58 : Cond.methodLink RX7 58 (mY mX0_addStation) ∈ pw_Tb := pw_in 308 (by decide +kernel) (by decide +kernel)
theorem kX7_61 : Cond.methodLink RX7 61 (mY mX0_addWord) ∈ pw_Tb := pw_in 316 (by decide +kernel) (by decide +kernel)
theorem kX7_65 : Cond.methodLink RX7 65 (mY mX0_forgetWord) ∈ pw_Tb := pw_in 339 (by decide +kernel) (by decide +kernel)
theorem kX7_68 : Cond.methodLink RX7 68 (mY mX0_toggleFault) ∈ pw_Tb := pw_in 363 (by decide +kernel) (by decide +kernel)
theorem kX7_71 : Cond.methodLink RX7 71 (mY mX0_toggleDoze) ∈ pw_Tb := pw_in 375 (by decide +kernel) (by decide +kernel)
theorem kX7_74 : Cond.methodLink RX7 74 (mY mX0_passBeats) ∈ pw_Tb := pw_in 399 (by decide +kernel) (by decide +kernel)
theorem kX7_77 : Cond.methodLink RX7 77 (mY mX7_isWire) ∈ pw_Tb := pw_in 503 (by decide +kernel) (by decide +kernel)
theorem kX7_85 : Cond.methodLink RX7 85 (mY mX0_hasFault) ∈ pw_Tb := pw_in 504 (by decide +kernel) (by decide +kernel)
theorem kX7_88 : Cond.methodLink RX7 88 (mY mX0_stationsAt) ∈ pw_Tb := pw_in 505 (by decide +kernel) (by decide +kernel)
theorem kX7_91 : Cond.methodLink RX7 91 (mY mX0_speakersOn) ∈ pw_Tb := pw_in 506 (by decide +kernel) (by decide +kernel)
theorem kX7_94 : Cond.methodLink RX7 94 (mY mX0_waitingFor) ∈ pw_Tb := pw_in 510 (by decide +kernel) (by decide +kernel)
theorem kX7_103 : Cond.methodLink RX7 103 (mY mX0_find) ∈ pw_Tb := pw_in 544 (by decide +kernel) (by decide +kernel)
theorem kX7_107 : Cond.methodLink RX7 107 (mY mX6_fact) ∈ pw_Tb := pw_in 545 (by decide +kernel) (by decide +kernel)
theorem kX7_116 : Cond.methodLink RX7 116 (mY mX5_has) ∈ pw_Tb := pw_in 550 (by decide +kernel) (by decide +kernel)
theorem kX7_121 : Cond.methodLink RX7 121 (mY mX5_numberAt) ∈ pw_Tb := pw_in 551 (by decide +kernel) (by decide +kernel)
theorem kX7_124 : Cond.methodLink RX7 124 (mY mX5_wireAt) ∈ pw_Tb := pw_in 552 (by decide +kernel) (by decide +kernel)
theorem kX7_127 : Cond.methodLink RX7 127 (mY mX5_triesAt) ∈ pw_Tb := pw_in 553 (by decide +kernel) (by decide +kernel)
theorem kX7_134 : Cond.methodLink RX7 134 (mY mX2_has) ∈ pw_Tb := pw_in 561 (by decide +kernel) (by decide +kernel)
theorem kX7_137 : Cond.methodLink RX7 137 (mY mX2_fact) ∈ pw_Tb := pw_in 565 (by decide +kernel) (by decide +kernel)
theorem kX7_146 : Cond.methodLink RX7 146 (mY mX0_awakeStations) ∈ pw_Tb := pw_in 527 (by decide +kernel) (by decide +kernel)
theorem kX7_150 : Cond.methodLink RX7 150 (mY mX0_sumOf) ∈ pw_Tb := pw_in 528 (by decide +kernel) (by decide +kernel)
theorem kX7_163 : Cond.methodLink RX7 163 (mY mX6_isSpeaking) ∈ pw_Tb := pw_in 574 (by decide +kernel) (by decide +kernel)
theorem kX7_175 : Cond.methodLink RX7 175 (mY mX0_isRested) ∈ pw_Tb := pw_in 575 (by decide +kernel) (by decide +kernel)
theorem kX7_178 : Cond.methodLink RX7 178 (mY mX0_copyFrom) ∈ pw_Tb := pw_in 586 (by decide +kernel) (by decide +kernel)
theorem kX7_181 : Cond.methodLink RX7 181 (mY mX0_passBeat) ∈ pw_Tb := pw_in 591 (by decide +kernel) (by decide +kernel)
theorem kX7_190 : Cond.methodLink RX7 190 (mY mX0_hasWords) ∈ pw_Tb := pw_in 587 (by decide +kernel) (by decide +kernel)
theorem kX7_199 : Cond.methodLink RX7 199 (mY mX7_heardWithRest) ∈ pw_Tb := pw_in 606 (by decide +kernel) (by decide +kernel)
theorem kX7_243 : Cond.methodLink RX7 243 Lib.Math.min.name ∈ pw_Tb := pw_in 266 (by decide +kernel) (by decide +kernel)
theorem kX7_248 : Cond.methodLink RX7 248 arraycopyName ∈ pw_Tb := pw_in 269 (by decide +kernel) (by decide +kernel)
theorem kX0_3 : Cond.methodLink RX0 3 objectInit ∈ pw_Tb := pw_in 25 (by decide +kernel) (by decide +kernel)
theorem kX0_13 : Cond.methodLink RX0 13 ⟨"[I", "clone", "()Ljava/lang/Object;"⟩ ∈ pw_Tb := pw_in 28 (by decide +kernel) (by decide +kernel)
theorem kX0_38 : Cond.methodLink RX0 38 (mY mX6_init) ∈ pw_Tb := pw_in 38 (by decide +kernel) (by decide +kernel)
theorem kX0_45 : Cond.methodLink RX0 45 (mY mX6_copyFrom) ∈ pw_Tb := pw_in 272 (by decide +kernel) (by decide +kernel)
theorem kX0_65 : Cond.methodLink RX0 65 (mY mX0_loseChargeAbove) ∈ pw_Tb := pw_in 294 (by decide +kernel) (by decide +kernel)
theorem kX0_71 : Cond.methodLink RX0 71 Lib.Math.min.name ∈ pw_Tb := pw_in 298 (by decide +kernel) (by decide +kernel)
theorem kX0_80 : Cond.methodLink RX0 80 (mY mX0_find) ∈ pw_Tb := pw_in 320 (by decide +kernel) (by decide +kernel)
theorem kX0_88 : Cond.methodLink RX0 88 (mY mX6_isAt) ∈ pw_Tb := pw_in 327 (by decide +kernel) (by decide +kernel)
theorem kX0_100 : Cond.methodLink RX0 100 (mY mX5_add) ∈ pw_Tb := pw_in 331 (by decide +kernel) (by decide +kernel)
theorem kX0_104 : Cond.methodLink RX0 104 (mY mX5_numberAt) ∈ pw_Tb := pw_in 343 (by decide +kernel) (by decide +kernel)
theorem kX0_108 : Cond.methodLink RX0 108 (mY mX5_dropFirst) ∈ pw_Tb := pw_in 351 (by decide +kernel) (by decide +kernel)
theorem kX0_111 : Cond.methodLink RX0 111 (mY mX6_fallSilent) ∈ pw_Tb := pw_in 355 (by decide +kernel) (by decide +kernel)
theorem kX0_114 : Cond.methodLink RX0 114 (mY mX0_hasFault) ∈ pw_Tb := pw_in 367 (by decide +kernel) (by decide +kernel)
theorem kX0_121 : Cond.methodLink RX0 121 (mY mX6_isSpeaking) ∈ pw_Tb := pw_in 379 (by decide +kernel) (by decide +kernel)
theorem kX0_125 : Cond.methodLink RX0 125 (mY mX0_giveUp) ∈ pw_Tb := pw_in 383 (by decide +kernel) (by decide +kernel)
theorem kX0_129 : Cond.methodLink RX0 129 (mY mX0_passBeat) ∈ pw_Tb := pw_in 404 (by decide +kernel) (by decide +kernel)
theorem kX0_133 : Cond.methodLink RX0 133 (mY mX0_awakeStations) ∈ pw_Tb := pw_in 408 (by decide +kernel) (by decide +kernel)
theorem kX0_136 : Cond.methodLink RX0 136 (mY mX0_beginWords) ∈ pw_Tb := pw_in 416 (by decide +kernel) (by decide +kernel)
theorem kX0_139 : Cond.methodLink RX0 139 (mY mX0_pulledWires) ∈ pw_Tb := pw_in 433 (by decide +kernel) (by decide +kernel)
theorem kX0_142 : Cond.methodLink RX0 142 (mY mX0_goOnSpeaking) ∈ pw_Tb := pw_in 441 (by decide +kernel) (by decide +kernel)
theorem kX0_145 : Cond.methodLink RX0 145 (mY mX0_changeCharges) ∈ pw_Tb := pw_in 455 (by decide +kernel) (by decide +kernel)
theorem kX0_148 : Cond.methodLink RX0 148 (mY mX0_restWires) ∈ pw_Tb := pw_in 468 (by decide +kernel) (by decide +kernel)
theorem kX0_151 : Cond.methodLink RX0 151 (mY mX6_isAwake) ∈ pw_Tb := pw_in 412 (by decide +kernel) (by decide +kernel)
theorem kX0_154 : Cond.methodLink RX0 154 (mY mX5_wireAt) ∈ pw_Tb := pw_in 387 (by decide +kernel) (by decide +kernel)
theorem kX0_157 : Cond.methodLink RX0 157 (mY mX0_isRested) ∈ pw_Tb := pw_in 420 (by decide +kernel) (by decide +kernel)
theorem kX0_160 : Cond.methodLink RX0 160 (mY mX0_stationsAt) ∈ pw_Tb := pw_in 424 (by decide +kernel) (by decide +kernel)
theorem kX0_163 : Cond.methodLink RX0 163 (mY mX6_begin) ∈ pw_Tb := pw_in 428 (by decide +kernel) (by decide +kernel)
theorem kX0_166 : Cond.methodLink RX0 166 (mY mX6_letsGo) ∈ pw_Tb := pw_in 437 (by decide +kernel) (by decide +kernel)
theorem kX0_178 : Cond.methodLink RX0 178 (mY mX0_beHeard) ∈ pw_Tb := pw_in 445 (by decide +kernel) (by decide +kernel)
theorem kX0_188 : Cond.methodLink RX0 188 (mY mX2_add) ∈ pw_Tb := pw_in 449 (by decide +kernel) (by decide +kernel)
theorem kX0_202 : Cond.methodLink RX0 202 (mY mX5_tryFirst) ∈ pw_Tb := pw_in 391 (by decide +kernel) (by decide +kernel)
theorem kX0_208 : Cond.methodLink RX0 208 (mY mJ6_bitCount_0f7a4) ∈ pw_Tb := pw_in 459 (by decide +kernel) (by decide +kernel)
theorem kX0_213 : Cond.methodLink RX0 213 Lib.Math.max.name ∈ pw_Tb := pw_in 465 (by decide +kernel) (by decide +kernel)
theorem kX0_219 : Cond.methodLink RX0 219 (mY mX5_countFor) ∈ pw_Tb := pw_in 514 (by decide +kernel) (by decide +kernel)
theorem kX0_222 : Cond.methodLink RX0 222 (mY mX6_fact) ∈ pw_Tb := pw_in 532 (by decide +kernel) (by decide +kernel)
theorem kX1_3 : Cond.methodLink RX1 3 objectInit ∈ pw_Tb := pw_in 181 (by decide +kernel) (by decide +kernel)
theorem kX1_17 : Cond.methodLink RX1 17 (mY mX0_init) ∈ pw_Tb := pw_in 184 (by decide +kernel) (by decide +kernel)
theorem kX1_22 : Cond.methodLink RX1 22 (mY mX0_copyFrom) ∈ pw_Tb := pw_in 259 (by decide +kernel) (by decide +kernel)
theorem kX1_29 : Cond.methodLink RX1 29 Lib.Math.min.name ∈ pw_Tb := pw_in 303 (by decide +kernel) (by decide +kernel)
theorem kX2_3 : Cond.methodLink RX2 3 objectInit ∈ pw_Tb := pw_in 70 (by decide +kernel) (by decide +kernel)
theorem kX2_23 : Cond.methodLink RX2 23 (mY mX2_has) ∈ pw_Tb := pw_in 569 (by decide +kernel) (by decide +kernel)
theorem kX2_27 : Cond.methodLink RX2 27 arraycopyName ∈ pw_Tb := pw_in 453 (by decide +kernel) (by decide +kernel)
theorem kX2_33 : Cond.methodLink RX2 33 Lib.Math.min.name ∈ pw_Tb := pw_in 454 (by decide +kernel) (by decide +kernel)
theorem kX3_3 : Cond.methodLink RX3 3 objectInit ∈ pw_Tb := pw_in 201 (by decide +kernel) (by decide +kernel)
theorem kX4_3 : Cond.methodLink RX4 3 objectInit ∈ pw_Tb := pw_in 215 (by decide +kernel) (by decide +kernel)
theorem kX5_3 : Cond.methodLink RX5 3 objectInit ∈ pw_Tb := pw_in 47 (by decide +kernel) (by decide +kernel)
theorem kX5_29 : Cond.methodLink RX5 29 (mY mX5_has) ∈ pw_Tb := pw_in 347 (by decide +kernel) (by decide +kernel)
theorem kX5_33 : Cond.methodLink RX5 33 (mY mX5_wireAt) ∈ pw_Tb := pw_in 518 (by decide +kernel) (by decide +kernel)
theorem kX6_3 : Cond.methodLink RX6 3 objectInit ∈ pw_Tb := pw_in 41 (by decide +kernel) (by decide +kernel)
theorem kX6_32 : Cond.methodLink RX6 32 (mY mX5_copyFrom) ∈ pw_Tb := pw_in 276 (by decide +kernel) (by decide +kernel)
theorem kX6_36 : Cond.methodLink RX6 36 (mY mX2_copyFrom) ∈ pw_Tb := pw_in 281 (by decide +kernel) (by decide +kernel)
theorem kX6_73 : Cond.methodLink RX6 73 (mY mX5_numberAt) ∈ pw_Tb := pw_in 432 (by decide +kernel) (by decide +kernel)
theorem kX6_80 : Cond.methodLink RX6 80 (mY mX6_isSpeaking) ∈ pw_Tb := pw_in 536 (by decide +kernel) (by decide +kernel)
theorem kL_10 : Cond.methodLink RL 10 (mY mL_wireOf) ∈ pw_Tb := pw_in 487 (by decide +kernel) (by decide +kernel)
theorem kL_16 : Cond.methodLink RL 16 (mY mL_away) ∈ pw_Tb := pw_in 481 (by decide +kernel) (by decide +kernel)
theorem kL_20 : Cond.methodLink RL 20 (mY mL_up) ∈ pw_Tb := pw_in 493 (by decide +kernel) (by decide +kernel)
theorem kL_24 : Cond.methodLink RL 24 (mY mL_fails) ∈ pw_Tb := pw_in 484 (by decide +kernel) (by decide +kernel)
theorem kL_28 : Cond.methodLink RL 28 (mY mX7_of) ∈ pw_Tb := pw_in 540 (by decide +kernel) (by decide +kernel)
theorem kL_34 : Cond.methodLink RL 34 (mY mX7_row) ∈ pw_Tb := pw_in 546 (by decide +kernel) (by decide +kernel)
theorem kL_38 : Cond.methodLink RL 38 (mY mX7_heard) ∈ pw_Tb := pw_in 557 (by decide +kernel) (by decide +kernel)
theorem kL_41 : Cond.methodLink RL 41 (mY mX7_why) ∈ pw_Tb := pw_in 570 (by decide +kernel) (by decide +kernel)
theorem kL_45 : Cond.methodLink RL 45 (mY mX7_ofWire) ∈ pw_Tb := pw_in 499 (by decide +kernel) (by decide +kernel)
theorem kL_48 : Cond.methodLink RL 48 (mY mX7_busiest) ∈ pw_Tb := pw_in 519 (by decide +kernel) (by decide +kernel)
theorem kL_52 : Cond.methodLink RL 52 (mY mX7_count) ∈ pw_Tb := pw_in 523 (by decide +kernel) (by decide +kernel)
theorem kL_55 : Cond.methodLink RL 55 (mY mL_stations) ∈ pw_Tb := pw_in 537 (by decide +kernel) (by decide +kernel)
theorem kL_59 : Cond.methodLink RL 59 (mY mL_low) ∈ pw_Tb := pw_in 477 (by decide +kernel) (by decide +kernel)
theorem kL_62 : Cond.methodLink RL 62 (mY mL_copy) ∈ pw_Tb := pw_in 579 (by decide +kernel) (by decide +kernel)
theorem kL_66 : Cond.methodLink RL 66 (mY mL_beat) ∈ pw_Tb := pw_in 490 (by decide +kernel) (by decide +kernel)
theorem kL_70 : Cond.methodLink RL 70 (mY mX7_quietIn) ∈ pw_Tb := pw_in 582 (by decide +kernel) (by decide +kernel)
theorem kL_73 : Cond.methodLink RL 73 (mY mX7_sleepsIn) ∈ pw_Tb := pw_in 592 (by decide +kernel) (by decide +kernel)
theorem kL_76 : Cond.methodLink RL 76 (mY mX7_endsIn) ∈ pw_Tb := pw_in 596 (by decide +kernel) (by decide +kernel)
theorem kL_79 : Cond.methodLink RL 79 (mY mX7_bestRest) ∈ pw_Tb := pw_in 600 (by decide +kernel) (by decide +kernel)
theorem kL_82 : Cond.methodLink RL 82 (mY mX7_init) ∈ pw_Tb := pw_in 14 (by decide +kernel) (by decide +kernel)
theorem kL_83 : Cond.methodLink RL 83 (mY mL_cell) ∈ pw_Tb := pw_in 472 (by decide +kernel) (by decide +kernel)
theorem kL_86 : Cond.methodLink RL 86 (mY mX7_station) ∈ pw_Tb := pw_in 304 (by decide +kernel) (by decide +kernel)
theorem kL_89 : Cond.methodLink RL 89 (mY mX7_word) ∈ pw_Tb := pw_in 312 (by decide +kernel) (by decide +kernel)
theorem kL_92 : Cond.methodLink RL 92 (mY mX7_forget) ∈ pw_Tb := pw_in 335 (by decide +kernel) (by decide +kernel)
theorem kL_95 : Cond.methodLink RL 95 (mY mX7_stick) ∈ pw_Tb := pw_in 359 (by decide +kernel) (by decide +kernel)
theorem kL_98 : Cond.methodLink RL 98 (mY mX7_doze) ∈ pw_Tb := pw_in 371 (by decide +kernel) (by decide +kernel)
theorem kL_101 : Cond.methodLink RL 101 (mY mX7_set) ∈ pw_Tb := pw_in 251 (by decide +kernel) (by decide +kernel)
theorem kL_104 : Cond.methodLink RL 104 (mY mX7_pass) ∈ pw_Tb := pw_in 395 (by decide +kernel) (by decide +kernel)
theorem kL_107 : Cond.methodLink RL 107 (mY mL_tells) ∈ pw_Tb := pw_in 496 (by decide +kernel) (by decide +kernel)
theorem kL_110 : Cond.methodLink RL 110 (mY mL_ahead) ∈ pw_Tb := pw_in 576 (by decide +kernel) (by decide +kernel)
theorem kX7_32 : Cond.methodLinkNest RX7 32 (mY mX3_init) RX7 ∈ pw_nest := by decide +kernel
theorem kX0_41 : Cond.methodLinkNest RX0 41 (mY mX7_copyNumbers) RX7 ∈ pw_nest := by decide +kernel
theorem kX0_84 : Cond.methodLinkNest RX0 84 (mY mX7_isWire) RX7 ∈ pw_nest := by decide +kernel
theorem kX2_15 : Cond.methodLinkNest RX2 15 (mY mX7_copyNumbers) RX7 ∈ pw_nest := by decide +kernel
theorem kX5_21 : Cond.methodLinkNest RX5 21 (mY mX7_copyNumbers) RX7 ∈ pw_nest := by decide +kernel
theorem kX6_11 : Cond.methodLinkNest RX6 11 (mY mX5_init) RX7 ∈ pw_nest := by decide +kernel
theorem kX6_20 : Cond.methodLinkNest RX6 20 (mY mX2_init) RX7 ∈ pw_nest := by decide +kernel
theorem fX7_10 : Cond.fieldLink RX7 10 RX7 "now" "LBusSilences$Bus;" ∈ pw_Tb := pw_in 232 (by decide +kernel) (by decide +kernel)
theorem fX7_16 : Cond.fieldLink RX7 16 RX7 "trial" "LBusSilences$Bus;" ∈ pw_Tb := pw_in 233 (by decide +kernel) (by decide +kernel)
theorem fX7_22 : Cond.fieldLink RX7 22 RX7 "history" "LBusSilences$History;" ∈ pw_Tb := pw_in 234 (by decide +kernel) (by decide +kernel)
theorem fX7_26 : Cond.fieldLink RX7 26 RX7 "slots" "[LBusSilences$Bus;" ∈ pw_Tb := pw_in 235 (by decide +kernel) (by decide +kernel)
theorem fX7_33 : Cond.fieldLink RX7 33 RX7 "pad" "LBusSilences$Pad;" ∈ pw_Tb := pw_in 236 (by decide +kernel) (by decide +kernel)
theorem fX7_42 : Cond.fieldLink RX7 42 RX7 "reader" "LBusSilences$Reader;" ∈ pw_Tb := pw_in 237 (by decide +kernel) (by decide +kernel)
theorem fX7_81 : Cond.fieldLink RX7 81 RX0 "highFor" "[I" ∈ pw_Tb := pw_in 147 (by decide +kernel) (by decide +kernel)
theorem fX7_97 : Cond.fieldLink RX7 97 RX0 "heardOn" "[I" ∈ pw_Tb := pw_in 149 (by decide +kernel) (by decide +kernel)
theorem fX7_100 : Cond.fieldLink RX7 100 RX0 "lostOn" "[I" ∈ pw_Tb := pw_in 151 (by decide +kernel) (by decide +kernel)
theorem fX7_112 : Cond.fieldLink RX7 112 RX6 "row" "LBusSilences$Row;" ∈ pw_Tb := pw_in 82 (by decide +kernel) (by decide +kernel)
theorem fX7_130 : Cond.fieldLink RX7 130 RX6 "latest" "LBusSilences$Latest;" ∈ pw_Tb := pw_in 84 (by decide +kernel) (by decide +kernel)
theorem fX7_139 : Cond.fieldLink RX7 139 RX0 "beats" "I" ∈ pw_Tb := pw_in 158 (by decide +kernel) (by decide +kernel)
theorem fX7_143 : Cond.fieldLink RX7 143 RX0 "arrived" "I" ∈ pw_Tb := pw_in 154 (by decide +kernel) (by decide +kernel)
theorem fX7_153 : Cond.fieldLink RX7 153 RX0 "faults" "I" ∈ pw_Tb := pw_in 156 (by decide +kernel) (by decide +kernel)
theorem fX7_156 : Cond.fieldLink RX7 156 RX0 "settings" "[I" ∈ pw_Tb := pw_in 145 (by decide +kernel) (by decide +kernel)
theorem fX7_159 : Cond.fieldLink RX7 159 RX3 "length" "I" ∈ pw_Tb := pw_in 203 (by decide +kernel) (by decide +kernel)
theorem fX7_162 : Cond.fieldLink RX7 162 RX1 "length" "I" ∈ pw_Tb := pw_in 188 (by decide +kernel) (by decide +kernel)
theorem fX7_167 : Cond.fieldLink RX7 167 RX6 "dozing" "Z" ∈ pw_Tb := pw_in 95 (by decide +kernel) (by decide +kernel)
theorem fX7_171 : Cond.fieldLink RX7 171 RX6 "asleep" "Z" ∈ pw_Tb := pw_in 91 (by decide +kernel) (by decide +kernel)
theorem fX7_174 : Cond.fieldLink RX7 174 RX5 "length" "I" ∈ pw_Tb := pw_in 54 (by decide +kernel) (by decide +kernel)
theorem fX7_184 : Cond.fieldLink RX7 184 RX6 "wordsHeard" "I" ∈ pw_Tb := pw_in 104 (by decide +kernel) (by decide +kernel)
theorem fX7_187 : Cond.fieldLink RX7 187 RX6 "wordsLost" "I" ∈ pw_Tb := pw_in 107 (by decide +kernel) (by decide +kernel)
theorem fX7_193 : Cond.fieldLink RX7 193 RX7 "LOWEST" "[I" ∈ pw_Tb := pw_in 604 (by decide +kernel) (by decide +kernel)
theorem fX7_196 : Cond.fieldLink RX7 196 RX7 "GREATEST" "[I" ∈ pw_Tb := pw_in 605 (by decide +kernel) (by decide +kernel)
theorem fX0_18 : Cond.fieldLink RX0 18 RX0 "settings" "[I" ∈ pw_Tb := pw_in 144 (by decide +kernel) (by decide +kernel)
theorem fX0_23 : Cond.fieldLink RX0 23 RX0 "highFor" "[I" ∈ pw_Tb := pw_in 146 (by decide +kernel) (by decide +kernel)
theorem fX0_26 : Cond.fieldLink RX0 26 RX0 "heardOn" "[I" ∈ pw_Tb := pw_in 148 (by decide +kernel) (by decide +kernel)
theorem fX0_29 : Cond.fieldLink RX0 29 RX0 "lostOn" "[I" ∈ pw_Tb := pw_in 150 (by decide +kernel) (by decide +kernel)
theorem fX0_34 : Cond.fieldLink RX0 34 RX0 "stations" "[LBusSilences$Station;" ∈ pw_Tb := pw_in 152 (by decide +kernel) (by decide +kernel)
theorem fX0_49 : Cond.fieldLink RX0 49 RX0 "arrived" "I" ∈ pw_Tb := pw_in 153 (by decide +kernel) (by decide +kernel)
theorem fX0_53 : Cond.fieldLink RX0 53 RX0 "faults" "I" ∈ pw_Tb := pw_in 155 (by decide +kernel) (by decide +kernel)
theorem fX0_56 : Cond.fieldLink RX0 56 RX0 "beats" "I" ∈ pw_Tb := pw_in 157 (by decide +kernel) (by decide +kernel)
theorem fX0_68 : Cond.fieldLink RX0 68 RX6 "charge" "I" ∈ pw_Tb := pw_in 89 (by decide +kernel) (by decide +kernel)
theorem fX0_77 : Cond.fieldLink RX0 77 RX6 "wires" "I" ∈ pw_Tb := pw_in 87 (by decide +kernel) (by decide +kernel)
theorem fX0_91 : Cond.fieldLink RX0 91 RX6 "row" "LBusSilences$Row;" ∈ pw_Tb := pw_in 81 (by decide +kernel) (by decide +kernel)
theorem fX0_95 : Cond.fieldLink RX0 95 RX5 "length" "I" ∈ pw_Tb := pw_in 52 (by decide +kernel) (by decide +kernel)
theorem fX0_117 : Cond.fieldLink RX0 117 RX6 "dozing" "Z" ∈ pw_Tb := pw_in 94 (by decide +kernel) (by decide +kernel)
theorem fX0_169 : Cond.fieldLink RX0 169 RX6 "wireSpokenOn" "I" ∈ pw_Tb := pw_in 99 (by decide +kernel) (by decide +kernel)
theorem fX0_172 : Cond.fieldLink RX0 172 RX6 "nextBeat" "I" ∈ pw_Tb := pw_in 97 (by decide +kernel) (by decide +kernel)
theorem fX0_175 : Cond.fieldLink RX0 175 RX6 "listeners" "I" ∈ pw_Tb := pw_in 102 (by decide +kernel) (by decide +kernel)
theorem fX0_181 : Cond.fieldLink RX0 181 RX6 "name" "I" ∈ pw_Tb := pw_in 79 (by decide +kernel) (by decide +kernel)
theorem fX0_184 : Cond.fieldLink RX0 184 RX6 "latest" "LBusSilences$Latest;" ∈ pw_Tb := pw_in 85 (by decide +kernel) (by decide +kernel)
theorem fX0_193 : Cond.fieldLink RX0 193 RX6 "hearings" "I" ∈ pw_Tb := pw_in 110 (by decide +kernel) (by decide +kernel)
theorem fX0_196 : Cond.fieldLink RX0 196 RX6 "wordsHeard" "I" ∈ pw_Tb := pw_in 105 (by decide +kernel) (by decide +kernel)
theorem fX0_199 : Cond.fieldLink RX0 199 RX6 "timesGivenUp" "I" ∈ pw_Tb := pw_in 112 (by decide +kernel) (by decide +kernel)
theorem fX0_205 : Cond.fieldLink RX0 205 RX6 "wordsLost" "I" ∈ pw_Tb := pw_in 108 (by decide +kernel) (by decide +kernel)
theorem fX0_216 : Cond.fieldLink RX0 216 RX6 "asleep" "Z" ∈ pw_Tb := pw_in 92 (by decide +kernel) (by decide +kernel)
theorem fX1_11 : Cond.fieldLink RX1 11 RX1 "states" "[LBusSilences$Bus;" ∈ pw_Tb := pw_in 185 (by decide +kernel) (by decide +kernel)
theorem fX1_18 : Cond.fieldLink RX1 18 RX1 "next" "I" ∈ pw_Tb := pw_in 186 (by decide +kernel) (by decide +kernel)
theorem fX1_26 : Cond.fieldLink RX1 26 RX1 "length" "I" ∈ pw_Tb := pw_in 187 (by decide +kernel) (by decide +kernel)
theorem fX2_9 : Cond.fieldLink RX2 9 RX2 "facts" "[I" ∈ pw_Tb := pw_in 71 (by decide +kernel) (by decide +kernel)
theorem fX2_19 : Cond.fieldLink RX2 19 RX2 "length" "I" ∈ pw_Tb := pw_in 72 (by decide +kernel) (by decide +kernel)
theorem fX3_9 : Cond.fieldLink RX3 9 RX3 "text" "[C" ∈ pw_Tb := pw_in 202 (by decide +kernel) (by decide +kernel)
theorem fX4_9 : Cond.fieldLink RX4 9 RX4 "pad" "LBusSilences$Pad;" ∈ pw_Tb := pw_in 216 (by decide +kernel) (by decide +kernel)
theorem fX5_9 : Cond.fieldLink RX5 9 RX5 "numbers" "[I" ∈ pw_Tb := pw_in 48 (by decide +kernel) (by decide +kernel)
theorem fX5_15 : Cond.fieldLink RX5 15 RX5 "wires" "[I" ∈ pw_Tb := pw_in 49 (by decide +kernel) (by decide +kernel)
theorem fX5_18 : Cond.fieldLink RX5 18 RX5 "tries" "[I" ∈ pw_Tb := pw_in 50 (by decide +kernel) (by decide +kernel)
theorem fX5_25 : Cond.fieldLink RX5 25 RX5 "length" "I" ∈ pw_Tb := pw_in 51 (by decide +kernel) (by decide +kernel)
theorem fX6_12 : Cond.fieldLink RX6 12 RX6 "row" "LBusSilences$Row;" ∈ pw_Tb := pw_in 80 (by decide +kernel) (by decide +kernel)
theorem fX6_21 : Cond.fieldLink RX6 21 RX6 "latest" "LBusSilences$Latest;" ∈ pw_Tb := pw_in 83 (by decide +kernel) (by decide +kernel)
theorem fX6_25 : Cond.fieldLink RX6 25 RX6 "nextBeat" "I" ∈ pw_Tb := pw_in 96 (by decide +kernel) (by decide +kernel)
theorem fX6_29 : Cond.fieldLink RX6 29 RX6 "name" "I" ∈ pw_Tb := pw_in 78 (by decide +kernel) (by decide +kernel)
theorem fX6_39 : Cond.fieldLink RX6 39 RX6 "wires" "I" ∈ pw_Tb := pw_in 86 (by decide +kernel) (by decide +kernel)
theorem fX6_42 : Cond.fieldLink RX6 42 RX6 "charge" "I" ∈ pw_Tb := pw_in 88 (by decide +kernel) (by decide +kernel)
theorem fX6_45 : Cond.fieldLink RX6 45 RX6 "asleep" "Z" ∈ pw_Tb := pw_in 90 (by decide +kernel) (by decide +kernel)
theorem fX6_49 : Cond.fieldLink RX6 49 RX6 "dozing" "Z" ∈ pw_Tb := pw_in 93 (by decide +kernel) (by decide +kernel)
theorem fX6_52 : Cond.fieldLink RX6 52 RX6 "wireSpokenOn" "I" ∈ pw_Tb := pw_in 98 (by decide +kernel) (by decide +kernel)
theorem fX6_55 : Cond.fieldLink RX6 55 RX6 "spokenBits" "I" ∈ pw_Tb := pw_in 100 (by decide +kernel) (by decide +kernel)
theorem fX6_58 : Cond.fieldLink RX6 58 RX6 "listeners" "I" ∈ pw_Tb := pw_in 101 (by decide +kernel) (by decide +kernel)
theorem fX6_61 : Cond.fieldLink RX6 61 RX6 "wordsHeard" "I" ∈ pw_Tb := pw_in 103 (by decide +kernel) (by decide +kernel)
theorem fX6_64 : Cond.fieldLink RX6 64 RX6 "wordsLost" "I" ∈ pw_Tb := pw_in 106 (by decide +kernel) (by decide +kernel)
theorem fX6_67 : Cond.fieldLink RX6 67 RX6 "hearings" "I" ∈ pw_Tb := pw_in 109 (by decide +kernel) (by decide +kernel)
theorem fX6_70 : Cond.fieldLink RX6 70 RX6 "timesGivenUp" "I" ∈ pw_Tb := pw_in 111 (by decide +kernel) (by decide +kernel)
theorem fX6_77 : Cond.fieldLink RX6 77 RX5 "length" "I" ∈ pw_Tb := pw_in 53 (by decide +kernel) (by decide +kernel)
theorem lX7_7 : Cond.classLink RX7 7 RX0 ∈ pw_Tb := pw_in 20 (by decide +kernel) (by decide +kernel)
theorem lX7_19 : Cond.classLink RX7 19 RX1 ∈ pw_Tb := pw_in 176 (by decide +kernel) (by decide +kernel)
theorem lX7_30 : Cond.classLink RX7 30 RX3 ∈ pw_Tb := pw_in 196 (by decide +kernel) (by decide +kernel)
theorem lX7_37 : Cond.classLink RX7 37 RX4 ∈ pw_Tb := pw_in 210 (by decide +kernel) (by decide +kernel)
theorem lX0_14 : Cond.classLink RX0 14 "[I" ∈ pw_Tb := pw_in 34 (by decide +kernel) (by decide +kernel)
theorem lX0_32 : Cond.classLink RX0 32 RX6 ∈ pw_Tb := pw_in 35 (by decide +kernel) (by decide +kernel)
theorem lX1_9 : Cond.classLink RX1 9 RX0 ∈ pw_Tb := pw_in 182 (by decide +kernel) (by decide +kernel)
theorem lX6_9 : Cond.classLink RX6 9 RX5 ∈ pw_Tb := pw_in 42 (by decide +kernel) (by decide +kernel)
theorem lX6_18 : Cond.classLink RX6 18 RX2 ∈ pw_Tb := pw_in 65 (by decide +kernel) (by decide +kernel)
theorem lL_29 : Cond.classLink RL 29 RX7 ∈ pw_Tb := pw_in 12 (by decide +kernel) (by decide +kernel)
theorem tX0 : Cond.instantiable RX0 (pw_N 0) ∈ pw_Tb := pw_in 21 (by decide +kernel) (by decide +kernel)
theorem uX0 : Cond.initialized RX0 ∈ pw_Tb := pw_in 2 (by decide +kernel) (by decide +kernel)
theorem tX6 : Cond.instantiable RX6 (pw_N 6) ∈ pw_Tb := pw_in 37 (by decide +kernel) (by decide +kernel)
theorem uX6 : Cond.initialized RX6 ∈ pw_Tb := pw_in 3 (by decide +kernel) (by decide +kernel)
theorem tX5 : Cond.instantiable RX5 (pw_N 5) ∈ pw_Tb := pw_in 43 (by decide +kernel) (by decide +kernel)
theorem uX5 : Cond.initialized RX5 ∈ pw_Tb := pw_in 4 (by decide +kernel) (by decide +kernel)
theorem ta_int : Cond.arrayClass .int ∈ pw_Tb := pw_in 64 (by decide +kernel) (by decide +kernel)
theorem tX2 : Cond.instantiable RX2 (pw_N 2) ∈ pw_Tb := pw_in 66 (by decide +kernel) (by decide +kernel)
theorem uX2 : Cond.initialized RX2 ∈ pw_Tb := pw_in 5 (by decide +kernel) (by decide +kernel)
theorem tX1 : Cond.instantiable RX1 (pw_N 1) ∈ pw_Tb := pw_in 177 (by decide +kernel) (by decide +kernel)
theorem uX1 : Cond.initialized RX1 ∈ pw_Tb := pw_in 6 (by decide +kernel) (by decide +kernel)
theorem tX3 : Cond.instantiable RX3 (pw_N 3) ∈ pw_Tb := pw_in 197 (by decide +kernel) (by decide +kernel)
theorem uX3 : Cond.initialized RX3 ∈ pw_Tb := pw_in 7 (by decide +kernel) (by decide +kernel)
theorem ta_char : Cond.arrayClass .char ∈ pw_Tb := pw_in 209 (by decide +kernel) (by decide +kernel)
theorem tX4 : Cond.instantiable RX4 (pw_N 4) ∈ pw_Tb := pw_in 211 (by decide +kernel) (by decide +kernel)
theorem uX4 : Cond.initialized RX4 ∈ pw_Tb := pw_in 8 (by decide +kernel) (by decide +kernel)
theorem qX0_128 : Cond.constant RX0 128 99999 ∈ pw_Tb := pw_in 403 (by decide +kernel) (by decide +kernel)
theorem qJ6_265 : Cond.constant RJ6 265 1431655765 ∈ pw_Tb := pw_in 462 (by decide +kernel) (by decide +kernel)
theorem qJ6_266 : Cond.constant RJ6 266 858993459 ∈ pw_Tb := pw_in 463 (by decide +kernel) (by decide +kernel)
theorem qJ6_267 : Cond.constant RJ6 267 252645135 ∈ pw_Tb := pw_in 464 (by decide +kernel) (by decide +kernel)
theorem qL_7 : Cond.constant RL 7 32452867 ∈ pw_Tb := pw_in 475 (by decide +kernel) (by decide +kernel)
theorem qL_8 : Cond.constant RL 8 15485863 ∈ pw_Tb := pw_in 476 (by decide +kernel) (by decide +kernel)
theorem qL_9 : Cond.constant RL 9 2147483647 ∈ pw_Tb := pw_in 480 (by decide +kernel) (by decide +kernel)
theorem tm_mins : Cond.static Lib.Math.min.name ∈ pw_Tb := pw_in 267 (by decide +kernel) (by decide +kernel)
theorem tm_minc : Cond.code Lib.Math.min.name Lib.Math.min.code 2 (some .int) ∈ pw_Tb := pw_in 268 (by decide +kernel) (by decide +kernel)
theorem tm_maxs : Cond.static Lib.Math.max.name ∈ pw_Tb := pw_in 466 (by decide +kernel) (by decide +kernel)
theorem tm_maxc : Cond.code Lib.Math.max.name Lib.Math.max.code 2 (some .int) ∈ pw_Tb := pw_in 467 (by decide +kernel) (by decide +kernel)
theorem tm_i : Cond.initialized "java/lang/Math" ∈ pw_Tb := pw_in 9 (by decide +kernel) (by decide +kernel)
theorem ts_i : Cond.initialized "java/lang/System" ∈ pw_Tb := pw_in 10 (by decide +kernel) (by decide +kernel)
theorem ts_n : Cond.native arraycopyName ∈ pw_Tb := pw_in 271 (by decide +kernel) (by decide +kernel)
theorem ts_s : Cond.static arraycopyName ∈ pw_Tb := pw_in 270 (by decide +kernel) (by decide +kernel)
theorem to_i : Cond.instanceMethod objectInit ∈ pw_Tb := pw_in 18 (by decide +kernel) (by decide +kernel)
theorem to_c : Cond.code objectInit ⟨#[0xb1]⟩ 1 none ∈ pw_Tb := pw_in 19 (by decide +kernel) (by decide +kernel)
theorem tc_n : Cond.native ⟨"java/lang/Object", "clone", "()Ljava/lang/Object;"⟩ ∈ pw_Tb := pw_in 30 (by decide +kernel) (by decide +kernel)
theorem tc_i : Cond.instanceMethod ⟨"java/lang/Object", "clone", "()Ljava/lang/Object;"⟩ ∈ pw_Tb := pw_in 31 (by decide +kernel) (by decide +kernel)
theorem tc_s : Cond.selects "[I" ⟨"[I", "clone", "()Ljava/lang/Object;"⟩ ⟨"java/lang/Object", "clone", "()Ljava/lang/Object;"⟩ ∈ pw_Tb := pw_in 32 (by decide +kernel) (by decide +kernel)
theorem tc_m : Cond.sameMethod "[I" "java/lang/Object" "clone" "()Ljava/lang/Object;" ∈ pw_Tb := pw_in 29 (by decide +kernel) (by decide +kernel)
end
