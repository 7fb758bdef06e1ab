section
-- ===== PART A: goes FIRST, ahead of the names: the tables' words, and 'selects' of the private methods out of them =====
/-- a private method of a class that the tables say can be made, by its rows of tables_1 -/
def lw_okq (q : MethodName × Nat) : Prop := (q.1.cls ≠ "java/lang/invoke/MethodHandle" ∧ q.1.cls ≠ "java/lang/invoke/VarHandle") ∧ Cond.instantiable q.1.cls q.2 ∈ tables_1 ∧ Cond.privateMethod q.1 ∈ tables_1 ∧ Cond.instanceMethod q.1 ∈ tables_1
theorem lw_p0 : lw_okq (⟨"ThermostatColony$Colony", "heatRooms", "()V"⟩, 6) := ⟨⟨by decide +kernel, by decide +kernel⟩, List.mem_of_getElem? (i := 19) (by decide +kernel), List.mem_of_getElem? (i := 317) (by decide +kernel), List.mem_of_getElem? (i := 318) (by decide +kernel)⟩
theorem lw_p1 : lw_okq (⟨"ThermostatColony$Weather", "temperatureBefore", "(II)I"⟩, 3) := ⟨⟨by decide +kernel, by decide +kernel⟩, List.mem_of_getElem? (i := 27) (by decide +kernel), List.mem_of_getElem? (i := 325) (by decide +kernel), List.mem_of_getElem? (i := 326) (by decide +kernel)⟩
theorem lw_p2 : lw_okq (⟨"ThermostatColony$Colony", "exchangeHeat", "()V"⟩, 6) := ⟨⟨by decide +kernel, by decide +kernel⟩, List.mem_of_getElem? (i := 19) (by decide +kernel), List.mem_of_getElem? (i := 333) (by decide +kernel), List.mem_of_getElem? (i := 334) (by decide +kernel)⟩
theorem lw_p3 : lw_okq (⟨"ThermostatColony$Colony", "settle", "(LThermostatColony$Room;)Z"⟩, 6) := ⟨⟨by decide +kernel, by decide +kernel⟩, List.mem_of_getElem? (i := 19) (by decide +kernel), List.mem_of_getElem? (i := 348) (by decide +kernel), List.mem_of_getElem? (i := 349) (by decide +kernel)⟩
theorem lw_p4 : lw_okq (⟨"ThermostatColony$Colony", "close", "(LThermostatColony$Room;)V"⟩, 6) := ⟨⟨by decide +kernel, by decide +kernel⟩, List.mem_of_getElem? (i := 19) (by decide +kernel), List.mem_of_getElem? (i := 357) (by decide +kernel), List.mem_of_getElem? (i := 358) (by decide +kernel)⟩
theorem lw_p5 : lw_okq (⟨"ThermostatColony$History", "stateAt", "(I)LThermostatColony$Colony;"⟩, 3) := ⟨⟨by decide +kernel, by decide +kernel⟩, List.mem_of_getElem? (i := 176) (by decide +kernel), List.mem_of_getElem? (i := 392) (by decide +kernel), List.mem_of_getElem? (i := 393) (by decide +kernel)⟩
theorem lw_p6 : lw_okq (⟨"ThermostatColony$Colony", "putLinkAt", "(II)V"⟩, 6) := ⟨⟨by decide +kernel, by decide +kernel⟩, List.mem_of_getElem? (i := 19) (by decide +kernel), List.mem_of_getElem? (i := 461) (by decide +kernel), List.mem_of_getElem? (i := 462) (by decide +kernel)⟩
def lw_privs_1 : List (MethodName × Nat) := [(⟨"ThermostatColony$Colony", "heatRooms", "()V"⟩, 6), (⟨"ThermostatColony$Weather", "temperatureBefore", "(II)I"⟩, 3), (⟨"ThermostatColony$Colony", "exchangeHeat", "()V"⟩, 6), (⟨"ThermostatColony$Colony", "settle", "(LThermostatColony$Room;)Z"⟩, 6), (⟨"ThermostatColony$Colony", "close", "(LThermostatColony$Room;)V"⟩, 6), (⟨"ThermostatColony$History", "stateAt", "(I)LThermostatColony$Colony;"⟩, 3), (⟨"ThermostatColony$Colony", "putLinkAt", "(II)V"⟩, 6)]
theorem lw_r1 : ∀ q ∈ lw_privs_1, lw_okq q := List.forall_mem_cons.mpr ⟨lw_p0, List.forall_mem_cons.mpr ⟨lw_p1, List.forall_mem_cons.mpr ⟨lw_p2, List.forall_mem_cons.mpr ⟨lw_p3, List.forall_mem_cons.mpr ⟨lw_p4, List.forall_mem_cons.mpr ⟨lw_p5, List.forall_mem_cons.mpr ⟨lw_p6, fun _ h => absurd h List.not_mem_nil⟩⟩⟩⟩⟩⟩⟩
def lw_privs : List (MethodName × Nat) := lw_privs_1
def lw_tbl : List Cond := k2_sels lw_privs ++ tables_1
theorem lw_privs_ok : ∀ q ∈ lw_privs, lw_okq q := lw_r1
-- ===== end of PART A; then your names; then what follows =====
end
section
/-! ===== BEGIN words of one list among another's, by their places ===== -/
theorem goodIn_r {big : List Cond} (ws : List Cond) (ps : List Nat) (hp : ws = ps.filterMap (fun i => big[i]?)) (h : ws.all goodWord = true) : GoodIn big ws := by
  intro w hw
  have h1 := List.all_eq_true.mp h w hw
  rw [hp] at hw
  obtain ⟨i, -, hi⟩ := List.mem_filterMap.mp hw
  have hm : w ∈ big := by first | exact List.mem_of_getElem? hi | exact List.getElem?_mem hi
  exact ⟨hm, good_of_word h1⟩
theorem goodIn_app {big a b : List Cond} (ha : GoodIn big a) (hb : GoodIn big b) : GoodIn big (a ++ b) := fun w h => (List.mem_append.mp h).elim (ha w) (hb w)
theorem goodIn_ca {big a b : List Cond} {c : Cond} (ha : GoodIn big (c :: a)) (hb : GoodIn big b) : GoodIn big (c :: (a ++ b)) := fun w h => (List.mem_cons.mp h).elim (fun e => ha w (List.mem_cons.mpr (Or.inl e))) (fun h => (List.mem_append.mp h).elim (fun h => ha w (List.mem_cons.mpr (Or.inr h))) (hb w))
theorem goodIn_sub {big ws : List Cond} (hm : ∀ w ∈ ws, w ∈ big) (h : ws.all goodWord = true) : GoodIn big ws := fun w hw => ⟨hm w hw, good_of_word (List.all_eq_true.mp h w hw)⟩
/-! ===== END ===== -/

/-! ===== BEGIN printed: names, fields, word lists, decode rows ===== -/
def RX0 : String := "ThermostatColony$Books"
def TX0 : u_T := fun k => match k with
  | 0 => ("ThermostatColony$Books", "firstHeat", "I", false)
  | 1 => ("ThermostatColony$Books", "fromHeater", "I", false)
  | 2 => ("ThermostatColony$Books", "toOutside", "I", false)
  | 3 => ("ThermostatColony$Books", "toOthers", "I", false)
  | _ => ("ThermostatColony$Books", "byWarm", "I", false)
def tyX0 : Nat → FieldType := fun k => match k with
  | 0 => .int
  | 1 => .int
  | 2 => .int
  | 3 => .int
  | _ => .int
abbrev wsX00 : List Cond := u_ws RX0 TX0 5
theorem nmX0 : ∀ a, a < 5 → ∀ b, b < 5 → a ≠ b → (TX0 a).2.1 ≠ (TX0 b).2.1 := by decide +kernel
theorem tyX0_ok : ∀ k, k < 5 → parseFieldDescriptor (TX0 k).2.2.1 = some (tyX0 k) := by decide +kernel
abbrev cX0_init : ByteArray := prog_2_method_1_code
def yX0_init : MethodName := ⟨RX0, "<init>", "()V"⟩
abbrev cX0_begin : ByteArray := prog_2_method_2_code
def yX0_begin : MethodName := ⟨RX0, "begin", "(I)V"⟩
abbrev cX0_copyFrom : ByteArray := prog_2_method_3_code
def yX0_copyFrom : MethodName := ⟨RX0, "copyFrom", "(LThermostatColony$Books;)V"⟩
abbrev cX0_sum : ByteArray := prog_2_method_4_code
def yX0_sum : MethodName := ⟨RX0, "sum", "(I)I"⟩
def RX1 : String := "ThermostatColony$Colony"
def TX1 : u_T := fun k => match k with
  | 0 => ("ThermostatColony$Colony", "numbers", "[I", true)
  | 1 => ("ThermostatColony$Colony", "rooms", "[LThermostatColony$Room;", true)
  | 2 => ("ThermostatColony$Colony", "links", "[I", true)
  | 3 => ("ThermostatColony$Colony", "weather", "LThermostatColony$Weather;", true)
  | 4 => ("ThermostatColony$Colony", "roomCount", "I", false)
  | _ => ("ThermostatColony$Colony", "time", "I", false)
def tyX1 : Nat → FieldType := fun k => match k with
  | 0 => .array .int
  | 1 => .array (.object "ThermostatColony$Room")
  | 2 => .array .int
  | 3 => .object "ThermostatColony$Weather"
  | 4 => .int
  | _ => .int
abbrev wsX10 : List Cond := u_ws RX1 TX1 6
theorem nmX1 : ∀ a, a < 6 → ∀ b, b < 6 → a ≠ b → (TX1 a).2.1 ≠ (TX1 b).2.1 := by decide +kernel
theorem tyX1_ok : ∀ k, k < 6 → parseFieldDescriptor (TX1 k).2.2.1 = some (tyX1 k) := by decide +kernel
abbrev cX1_init : ByteArray := prog_3_method_1_code
def yX1_init : MethodName := ⟨RX1, "<init>", "()V"⟩
abbrev cX1_copyFrom : ByteArray := prog_3_method_2_code
def yX1_copyFrom : MethodName := ⟨RX1, "copyFrom", "(LThermostatColony$Colony;)V"⟩
abbrev cX1_number : ByteArray := prog_3_method_3_code
def yX1_number : MethodName := ⟨RX1, "number", "(I)I"⟩
abbrev cX1_putNumber : ByteArray := prog_3_method_4_code
def yX1_putNumber : MethodName := ⟨RX1, "putNumber", "(II)V"⟩
abbrev cX1_roomAt : ByteArray := prog_3_method_5_code
def yX1_roomAt : MethodName := ⟨RX1, "roomAt", "(I)LThermostatColony$Room;"⟩
abbrev cX1_beginRoom : ByteArray := prog_3_method_6_code
def yX1_beginRoom : MethodName := ⟨RX1, "beginRoom", "(IIII)I"⟩
abbrev cX1_hasPair : ByteArray := prog_3_method_7_code
def yX1_hasPair : MethodName := ⟨RX1, "hasPair", "(II)Z"⟩
abbrev cX1_linkOf : ByteArray := prog_3_method_8_code
def yX1_linkOf : MethodName := ⟨RX1, "linkOf", "(II)I"⟩
abbrev cX1_putLink : ByteArray := prog_3_method_9_code
def yX1_putLink : MethodName := ⟨RX1, "putLink", "(III)V"⟩
abbrev cX1_putLinkAt : ByteArray := prog_3_method_10_code
def yX1_putLinkAt : MethodName := ⟨RX1, "putLinkAt", "(II)V"⟩
abbrev cX1_linkPlace : ByteArray := prog_3_method_11_code
def yX1_linkPlace : MethodName := ⟨RX1, "linkPlace", "(II)I"⟩
abbrev cX1_canCarry : ByteArray := prog_3_method_12_code
def yX1_canCarry : MethodName := ⟨RX1, "canCarry", "(II)Z"⟩
abbrev cX1_isSuspect : ByteArray := prog_3_method_13_code
def yX1_isSuspect : MethodName := ⟨RX1, "isSuspect", "(LThermostatColony$Room;)Z"⟩
abbrev cX1_suspectRooms : ByteArray := prog_3_method_14_code
def yX1_suspectRooms : MethodName := ⟨RX1, "suspectRooms", "()I"⟩
abbrev cX1_allFines : ByteArray := prog_3_method_15_code
def yX1_allFines : MethodName := ⟨RX1, "allFines", "()I"⟩
abbrev cX1_heatFromHeaters : ByteArray := prog_3_method_16_code
def yX1_heatFromHeaters : MethodName := ⟨RX1, "heatFromHeaters", "()I"⟩
abbrev cX1_passMinutes : ByteArray := prog_3_method_17_code
def yX1_passMinutes : MethodName := ⟨RX1, "passMinutes", "(I)I"⟩
abbrev cX1_passMinute : ByteArray := prog_3_method_18_code
def yX1_passMinute : MethodName := ⟨RX1, "passMinute", "()I"⟩
abbrev cX1_heatRooms : ByteArray := prog_3_method_19_code
def yX1_heatRooms : MethodName := ⟨RX1, "heatRooms", "()V"⟩
abbrev cX1_exchangeHeat : ByteArray := prog_3_method_20_code
def yX1_exchangeHeat : MethodName := ⟨RX1, "exchangeHeat", "()V"⟩
abbrev cX1_settle : ByteArray := prog_3_method_21_code
def yX1_settle : MethodName := ⟨RX1, "settle", "(LThermostatColony$Room;)Z"⟩
abbrev cX1_close : ByteArray := prog_3_method_22_code
def yX1_close : MethodName := ⟨RX1, "close", "(LThermostatColony$Room;)V"⟩
def RX2 : String := "ThermostatColony$History"
def TX2 : u_T := fun k => match k with
  | 0 => ("ThermostatColony$History", "states", "[LThermostatColony$Colony;", true)
  | 1 => ("ThermostatColony$History", "next", "I", false)
  | _ => ("ThermostatColony$History", "size", "I", false)
def tyX2 : Nat → FieldType := fun k => match k with
  | 0 => .array (.object "ThermostatColony$Colony")
  | 1 => .int
  | _ => .int
abbrev wsX20 : List Cond := u_ws RX2 TX2 3
theorem nmX2 : ∀ a, a < 3 → ∀ b, b < 3 → a ≠ b → (TX2 a).2.1 ≠ (TX2 b).2.1 := by decide +kernel
theorem tyX2_ok : ∀ k, k < 3 → parseFieldDescriptor (TX2 k).2.2.1 = some (tyX2 k) := by decide +kernel
abbrev cX2_init : ByteArray := prog_4_method_1_code
def yX2_init : MethodName := ⟨RX2, "<init>", "()V"⟩
abbrev cX2_save : ByteArray := prog_4_method_2_code
def yX2_save : MethodName := ⟨RX2, "save", "(LThermostatColony$Colony;)V"⟩
abbrev cX2_restore : ByteArray := prog_4_method_3_code
def yX2_restore : MethodName := ⟨RX2, "restore", "(LThermostatColony$Colony;)V"⟩
abbrev cX2_stateAt : ByteArray := prog_4_method_4_code
def yX2_stateAt : MethodName := ⟨RX2, "stateAt", "(I)LThermostatColony$Colony;"⟩
def RX3 : String := "ThermostatColony$Room"
def TX3 : u_T := fun k => match k with
  | 0 => ("ThermostatColony$Room", "books", "LThermostatColony$Books;", true)
  | 1 => ("ThermostatColony$Room", "capacity", "I", false)
  | 2 => ("ThermostatColony$Room", "power", "I", false)
  | 3 => ("ThermostatColony$Room", "leak", "I", false)
  | 4 => ("ThermostatColony$Room", "heat", "I", false)
  | 5 => ("ThermostatColony$Room", "point", "I", false)
  | 6 => ("ThermostatColony$Room", "band", "I", false)
  | 7 => ("ThermostatColony$Room", "blade", "I", false)
  | 8 => ("ThermostatColony$Room", "closed", "Z", false)
  | 9 => ("ThermostatColony$Room", "welded", "Z", false)
  | 10 => ("ThermostatColony$Room", "tripped", "Z", false)
  | 11 => ("ThermostatColony$Room", "wear", "I", false)
  | 12 => ("ThermostatColony$Room", "attempts", "I", false)
  | 13 => ("ThermostatColony$Room", "closings", "I", false)
  | 14 => ("ThermostatColony$Room", "latestClosing", "I", false)
  | 15 => ("ThermostatColony$Room", "fines", "I", false)
  | 16 => ("ThermostatColony$Room", "suspectMinutes", "I", false)
  | _ => ("ThermostatColony$Room", "minuteTemperature", "I", false)
def tyX3 : Nat → FieldType := fun k => match k with
  | 0 => .object "ThermostatColony$Books"
  | 1 => .int
  | 2 => .int
  | 3 => .int
  | 4 => .int
  | 5 => .int
  | 6 => .int
  | 7 => .int
  | 8 => .boolean
  | 9 => .boolean
  | 10 => .boolean
  | 11 => .int
  | 12 => .int
  | 13 => .int
  | 14 => .int
  | 15 => .int
  | 16 => .int
  | _ => .int
abbrev wsX30 : List Cond := u_ws RX3 TX3 18
theorem nmX3 : ∀ a, a < 18 → ∀ b, b < 18 → a ≠ b → (TX3 a).2.1 ≠ (TX3 b).2.1 := by decide +kernel
theorem tyX3_ok : ∀ k, k < 18 → parseFieldDescriptor (TX3 k).2.2.1 = some (tyX3 k) := by decide +kernel
abbrev cX3_init : ByteArray := prog_5_method_1_code
def yX3_init : MethodName := ⟨RX3, "<init>", "()V"⟩
abbrev cX3_begin : ByteArray := prog_5_method_2_code
def yX3_begin : MethodName := ⟨RX3, "begin", "(IIII)V"⟩
abbrev cX3_copyFrom : ByteArray := prog_5_method_3_code
def yX3_copyFrom : MethodName := ⟨RX3, "copyFrom", "(LThermostatColony$Room;)V"⟩
abbrev cX3_temperature : ByteArray := prog_5_method_4_code
def yX3_temperature : MethodName := ⟨RX3, "temperature", "()I"⟩
abbrev cX3_temperatureWith : ByteArray := prog_5_method_5_code
def yX3_temperatureWith : MethodName := ⟨RX3, "temperatureWith", "(I)I"⟩
abbrev cX3_isBladeCold : ByteArray := prog_5_method_6_code
def yX3_isBladeCold : MethodName := ⟨RX3, "isBladeCold", "()Z"⟩
abbrev cX3_isBladeHot : ByteArray := prog_5_method_7_code
def yX3_isBladeHot : MethodName := ⟨RX3, "isBladeHot", "()Z"⟩
abbrev cX3_bringIn : ByteArray := prog_5_method_8_code
def yX3_bringIn : MethodName := ⟨RX3, "bringIn", "(I)V"⟩
abbrev cX3_beginMinute : ByteArray := prog_5_method_9_code
def yX3_beginMinute : MethodName := ⟨RX3, "beginMinute", "(I)V"⟩
abbrev cX3_giveToOthers : ByteArray := prog_5_method_10_code
def yX3_giveToOthers : MethodName := ⟨RX3, "giveToOthers", "(I)V"⟩
abbrev cX3_tryToOpen : ByteArray := prog_5_method_11_code
def yX3_tryToOpen : MethodName := ⟨RX3, "tryToOpen", "(I)V"⟩
abbrev cX3_renewContact : ByteArray := prog_5_method_12_code
def yX3_renewContact : MethodName := ⟨RX3, "renewContact", "()V"⟩
abbrev cX3_property : ByteArray := prog_5_method_13_code
def yX3_property : MethodName := ⟨RX3, "property", "(I)I"⟩
def RX4 : String := "ThermostatColony$Weather"
def TX4 : u_T := fun k => match k with
  | 0 => ("ThermostatColony$Weather", "minutes", "[I", true)
  | 1 => ("ThermostatColony$Weather", "degrees", "[I", true)
  | _ => ("ThermostatColony$Weather", "size", "I", false)
def tyX4 : Nat → FieldType := fun k => match k with
  | 0 => .array .int
  | 1 => .array .int
  | _ => .int
abbrev wsX40 : List Cond := u_ws RX4 TX4 3
theorem nmX4 : ∀ a, a < 3 → ∀ b, b < 3 → a ≠ b → (TX4 a).2.1 ≠ (TX4 b).2.1 := by decide +kernel
theorem tyX4_ok : ∀ k, k < 3 → parseFieldDescriptor (TX4 k).2.2.1 = some (tyX4 k) := by decide +kernel
abbrev cX4_init : ByteArray := prog_6_method_1_code
def yX4_init : MethodName := ⟨RX4, "<init>", "()V"⟩
abbrev cX4_copyFrom : ByteArray := prog_6_method_2_code
def yX4_copyFrom : MethodName := ⟨RX4, "copyFrom", "(LThermostatColony$Weather;)V"⟩
abbrev cX4_temperatureAt : ByteArray := prog_6_method_5_code
def yX4_temperatureAt : MethodName := ⟨RX4, "temperatureAt", "(I)I"⟩
abbrev cX4_temperatureBefore : ByteArray := prog_6_method_6_code
def yX4_temperatureBefore : MethodName := ⟨RX4, "temperatureBefore", "(II)I"⟩
def RX5 : String := "ThermostatColony$WeatherText"
def TX5 : u_T := fun k => match k with
  | 0 => ("ThermostatColony$WeatherText", "characters", "[I", true)
  | 1 => ("ThermostatColony$WeatherText", "length", "I", false)
  | _ => ("ThermostatColony$WeatherText", "position", "I", false)
def tyX5 : Nat → FieldType := fun k => match k with
  | 0 => .array .int
  | 1 => .int
  | _ => .int
abbrev wsX50 : List Cond := u_ws RX5 TX5 3
theorem nmX5 : ∀ a, a < 3 → ∀ b, b < 3 → a ≠ b → (TX5 a).2.1 ≠ (TX5 b).2.1 := by decide +kernel
theorem tyX5_ok : ∀ k, k < 3 → parseFieldDescriptor (TX5 k).2.2.1 = some (tyX5 k) := by decide +kernel
abbrev cX5_init : ByteArray := prog_7_method_1_code
def yX5_init : MethodName := ⟨RX5, "<init>", "()V"⟩
def RX6 : String := "ThermostatColony"
def TX6 : u_T := fun k => match k with
  | 0 => ("ThermostatColony", "now", "LThermostatColony$Colony;", true)
  | 1 => ("ThermostatColony", "forecast", "LThermostatColony$Colony;", true)
  | 2 => ("ThermostatColony", "history", "LThermostatColony$History;", true)
  | 3 => ("ThermostatColony", "text", "LThermostatColony$WeatherText;", true)
  | _ => ("ThermostatColony", "weatherRead", "LThermostatColony$Weather;", true)
def tyX6 : Nat → FieldType := fun k => match k with
  | 0 => .object "ThermostatColony$Colony"
  | 1 => .object "ThermostatColony$Colony"
  | 2 => .object "ThermostatColony$History"
  | 3 => .object "ThermostatColony$WeatherText"
  | _ => .object "ThermostatColony$Weather"
abbrev wsX60 : List Cond := u_ws RX6 TX6 5
theorem nmX6 : ∀ a, a < 5 → ∀ b, b < 5 → a ≠ b → (TX6 a).2.1 ≠ (TX6 b).2.1 := by decide +kernel
theorem tyX6_ok : ∀ k, k < 5 → parseFieldDescriptor (TX6 k).2.2.1 = some (tyX6 k) := by decide +kernel
abbrev cX6_init : ByteArray := prog_1_method_1_code
def yX6_init : MethodName := ⟨RX6, "<init>", "()V"⟩
abbrev cX6_addRoom : ByteArray := prog_1_method_2_code
def yX6_addRoom : MethodName := ⟨RX6, "addRoom", "(IIII)I"⟩
abbrev cX6_setLink : ByteArray := prog_1_method_3_code
def yX6_setLink : MethodName := ⟨RX6, "setLink", "(III)I"⟩
abbrev cX6_setThermostat : ByteArray := prog_1_method_4_code
def yX6_setThermostat : MethodName := ⟨RX6, "setThermostat", "(III)I"⟩
abbrev cX6_setNumber : ByteArray := prog_1_method_5_code
def yX6_setNumber : MethodName := ⟨RX6, "setNumber", "(II)I"⟩
abbrev cX6_warm : ByteArray := prog_1_method_6_code
def yX6_warm : MethodName := ⟨RX6, "warm", "(II)I"⟩
abbrev cX6_service : ByteArray := prog_1_method_7_code
def yX6_service : MethodName := ⟨RX6, "service", "(I)I"⟩
abbrev cX6_resetCutout : ByteArray := prog_1_method_8_code
def yX6_resetCutout : MethodName := ⟨RX6, "resetCutout", "(I)I"⟩
abbrev cX6_room : ByteArray := prog_1_method_9_code
def yX6_room : MethodName := ⟨RX6, "room", "(II)I"⟩
abbrev cX6_book : ByteArray := prog_1_method_10_code
def yX6_book : MethodName := ⟨RX6, "book", "(II)I"⟩
abbrev cX6_link : ByteArray := prog_1_method_11_code
def yX6_link : MethodName := ⟨RX6, "link", "(II)I"⟩
abbrev cX6_count : ByteArray := prog_1_method_12_code
def yX6_count : MethodName := ⟨RX6, "count", "(I)I"⟩
abbrev cX6_pass : ByteArray := prog_1_method_17_code
def yX6_pass : MethodName := ⟨RX6, "pass", "(I)I"⟩
abbrev cX6_minutesToSuspect : ByteArray := prog_1_method_18_code
def yX6_minutesToSuspect : MethodName := ⟨RX6, "minutesToSuspect", "(I)I"⟩
abbrev cX6_heatIn : ByteArray := prog_1_method_19_code
def yX6_heatIn : MethodName := ⟨RX6, "heatIn", "(I)I"⟩
abbrev cX6_undo : ByteArray := prog_1_method_22_code
def yX6_undo : MethodName := ⟨RX6, "undo", "()I"⟩
abbrev cX6_isNumberInRange : ByteArray := prog_1_method_25_code
def yX6_isNumberInRange : MethodName := ⟨RX6, "isNumberInRange", "(II)Z"⟩
abbrev cX6_within : ByteArray := prog_1_method_26_code
def yX6_within : MethodName := ⟨RX6, "within", "(III)Z"⟩
def RX7 : String := "ThermostatColonyModel"
def TX7 : u_T := fun k => match k with
  | _ => ("", "", "", false)
def tyX7 : Nat → FieldType := fun k => match k with
  | _ => .int
abbrev wsX70 : List Cond := u_ws RX7 TX7 0
theorem nmX7 : ∀ a, a < 0 → ∀ b, b < 0 → a ≠ b → (TX7 a).2.1 ≠ (TX7 b).2.1 := by decide +kernel
theorem tyX7_ok : ∀ k, k < 0 → parseFieldDescriptor (TX7 k).2.2.1 = some (tyX7 k) := by decide +kernel
def RJ9 : String := "java/lang/Math"
def TJ9 : u_T := fun k => match k with
  | _ => ("", "", "", false)
def tyJ9 : Nat → FieldType := fun k => match k with
  | _ => .int
abbrev wsJ90 : List Cond := u_ws RJ9 TJ9 0
theorem nmJ9 : ∀ a, a < 0 → ∀ b, b < 0 → a ≠ b → (TJ9 a).2.1 ≠ (TJ9 b).2.1 := by decide +kernel
theorem tyJ9_ok : ∀ k, k < 0 → parseFieldDescriptor (TJ9 k).2.2.1 = some (tyJ9 k) := by decide +kernel
abbrev cJ9_floorDiv_7cf53 : ByteArray := prog_10_method_47_code
def yJ9_floorDiv_7cf53 : MethodName := ⟨RJ9, "floorDiv", "(II)I"⟩
abbrev cJ9_min_7cf53 : ByteArray := prog_10_method_69_code
def yJ9_min_7cf53 : MethodName := ⟨RJ9, "min", "(II)I"⟩
def RJ10 : String := "java/lang/System"
def TJ10 : u_T := fun k => match k with
  | _ => ("", "", "", false)
def tyJ10 : Nat → FieldType := fun k => match k with
  | _ => .int
abbrev wsJ100 : List Cond := u_ws RJ10 TJ10 0
theorem nmJ10 : ∀ a, a < 0 → ∀ b, b < 0 → a ≠ b → (TJ10 a).2.1 ≠ (TJ10 b).2.1 := by decide +kernel
theorem tyJ10_ok : ∀ k, k < 0 → parseFieldDescriptor (TJ10 k).2.2.1 = some (tyJ10 k) := by decide +kernel
def RL : String := "ThermostatColonyLaw"
abbrev cL_cell : ByteArray := method_2_code
def yL_cell : MethodName := ⟨RL, "cell", "([II)I"⟩
abbrev cL_low : ByteArray := method_3_code
def yL_low : MethodName := ⟨RL, "low", "(II)I"⟩
abbrev cL_tale : ByteArray := method_4_code
def yL_tale : MethodName := ⟨RL, "tale", "(LThermostatColony;)J"⟩
abbrev cL_does : ByteArray := method_5_code
def yL_does : MethodName := ⟨RL, "does", "(LThermostatColony;I)I"⟩
abbrev cL_law : ByteArray := code
def yL_law : MethodName := ⟨RL, "law", "([I)Z"⟩
abbrev vwCl : List vw_C := [(RX0, TX0, 5), (RX1, TX1, 6), (RX2, TX2, 3), (RX3, TX3, 18), (RX4, TX4, 3), (RX5, TX5, 3), (RX6, TX6, 5)]
end
section
theorem dX0_init_0 : decode cX0_init 0 = .ok (.aload_n 0, 1) := by decide +kernel
theorem dX0_init_1 : decode cX0_init 1 = .ok (.invokespecial 3, 3) := by decide +kernel
theorem dX0_init_4 : decode cX0_init 4 = .ok (.return_, 1) := by decide +kernel
theorem dX0_begin_0 : decode cX0_begin 0 = .ok (.aload_n 0, 1) := by decide +kernel
theorem dX0_begin_1 : decode cX0_begin 1 = .ok (.iload_n 1, 1) := by decide +kernel
theorem dX0_begin_2 : decode cX0_begin 2 = .ok (.putfield 9, 3) := by decide +kernel
theorem dX0_begin_5 : decode cX0_begin 5 = .ok (.aload_n 0, 1) := by decide +kernel
theorem dX0_begin_6 : decode cX0_begin 6 = .ok (.iconst 0, 1) := by decide +kernel
theorem dX0_begin_7 : decode cX0_begin 7 = .ok (.putfield 15, 3) := by decide +kernel
theorem dX0_begin_10 : decode cX0_begin 10 = .ok (.aload_n 0, 1) := by decide +kernel
theorem dX0_begin_11 : decode cX0_begin 11 = .ok (.iconst 0, 1) := by decide +kernel
theorem dX0_begin_12 : decode cX0_begin 12 = .ok (.putfield 18, 3) := by decide +kernel
theorem dX0_begin_15 : decode cX0_begin 15 = .ok (.aload_n 0, 1) := by decide +kernel
theorem dX0_begin_16 : decode cX0_begin 16 = .ok (.iconst 0, 1) := by decide +kernel
theorem dX0_begin_17 : decode cX0_begin 17 = .ok (.putfield 21, 3) := by decide +kernel
theorem dX0_begin_20 : decode cX0_begin 20 = .ok (.aload_n 0, 1) := by decide +kernel
theorem dX0_begin_21 : decode cX0_begin 21 = .ok (.iconst 0, 1) := by decide +kernel
theorem dX0_begin_22 : decode cX0_begin 22 = .ok (.putfield 24, 3) := by decide +kernel
theorem dX0_begin_25 : decode cX0_begin 25 = .ok (.return_, 1) := by decide +kernel
theorem dX0_copyFrom_0 : decode cX0_copyFrom 0 = .ok (.aload_n 0, 1) := by decide +kernel
theorem dX0_copyFrom_1 : decode cX0_copyFrom 1 = .ok (.aload_n 1, 1) := by decide +kernel
theorem dX0_copyFrom_2 : decode cX0_copyFrom 2 = .ok (.getfield 9, 3) := by decide +kernel
theorem dX0_copyFrom_5 : decode cX0_copyFrom 5 = .ok (.putfield 9, 3) := by decide +kernel
theorem dX0_copyFrom_8 : decode cX0_copyFrom 8 = .ok (.aload_n 0, 1) := by decide +kernel
theorem dX0_copyFrom_9 : decode cX0_copyFrom 9 = .ok (.aload_n 1, 1) := by decide +kernel
theorem dX0_copyFrom_10 : decode cX0_copyFrom 10 = .ok (.getfield 15, 3) := by decide +kernel
theorem dX0_copyFrom_13 : decode cX0_copyFrom 13 = .ok (.putfield 15, 3) := by decide +kernel
theorem dX0_copyFrom_16 : decode cX0_copyFrom 16 = .ok (.aload_n 0, 1) := by decide +kernel
theorem dX0_copyFrom_17 : decode cX0_copyFrom 17 = .ok (.aload_n 1, 1) := by decide +kernel
theorem dX0_copyFrom_18 : decode cX0_copyFrom 18 = .ok (.getfield 18, 3) := by decide +kernel
theorem dX0_copyFrom_21 : decode cX0_copyFrom 21 = .ok (.putfield 18, 3) := by decide +kernel
theorem dX0_copyFrom_24 : decode cX0_copyFrom 24 = .ok (.aload_n 0, 1) := by decide +kernel
theorem dX0_copyFrom_25 : decode cX0_copyFrom 25 = .ok (.aload_n 1, 1) := by decide +kernel
theorem dX0_copyFrom_26 : decode cX0_copyFrom 26 = .ok (.getfield 21, 3) := by decide +kernel
theorem dX0_copyFrom_29 : decode cX0_copyFrom 29 = .ok (.putfield 21, 3) := by decide +kernel
theorem dX0_copyFrom_32 : decode cX0_copyFrom 32 = .ok (.aload_n 0, 1) := by decide +kernel
theorem dX0_copyFrom_33 : decode cX0_copyFrom 33 = .ok (.aload_n 1, 1) := by decide +kernel
theorem dX0_copyFrom_34 : decode cX0_copyFrom 34 = .ok (.getfield 24, 3) := by decide +kernel
theorem dX0_copyFrom_37 : decode cX0_copyFrom 37 = .ok (.putfield 24, 3) := by decide +kernel
theorem dX0_copyFrom_40 : decode cX0_copyFrom 40 = .ok (.return_, 1) := by decide +kernel
theorem dX0_sum_0 : decode cX0_sum 0 = .ok (.iload_n 1, 1) := by decide +kernel
theorem dX0_sum_1 : decode cX0_sum 1 = .ok (.tableswitch 60 0 4 #[35, 40, 45, 50, 55], 35) := by decide +kernel
theorem dX0_sum_36 : decode cX0_sum 36 = .ok (.aload_n 0, 1) := by decide +kernel
theorem dX0_sum_37 : decode cX0_sum 37 = .ok (.getfield 9, 3) := by decide +kernel
theorem dX0_sum_40 : decode cX0_sum 40 = .ok (.ireturn, 1) := by decide +kernel
theorem dX0_sum_41 : decode cX0_sum 41 = .ok (.aload_n 0, 1) := by decide +kernel
theorem dX0_sum_42 : decode cX0_sum 42 = .ok (.getfield 15, 3) := by decide +kernel
theorem dX0_sum_45 : decode cX0_sum 45 = .ok (.ireturn, 1) := by decide +kernel
theorem dX0_sum_46 : decode cX0_sum 46 = .ok (.aload_n 0, 1) := by decide +kernel
theorem dX0_sum_47 : decode cX0_sum 47 = .ok (.getfield 18, 3) := by decide +kernel
theorem dX0_sum_50 : decode cX0_sum 50 = .ok (.ireturn, 1) := by decide +kernel
theorem dX0_sum_51 : decode cX0_sum 51 = .ok (.aload_n 0, 1) := by decide +kernel
theorem dX0_sum_52 : decode cX0_sum 52 = .ok (.getfield 21, 3) := by decide +kernel
theorem dX0_sum_55 : decode cX0_sum 55 = .ok (.ireturn, 1) := by decide +kernel
theorem dX0_sum_56 : decode cX0_sum 56 = .ok (.aload_n 0, 1) := by decide +kernel
theorem dX0_sum_57 : decode cX0_sum 57 = .ok (.getfield 24, 3) := by decide +kernel
theorem dX0_sum_60 : decode cX0_sum 60 = .ok (.ireturn, 1) := by decide +kernel
theorem dX0_sum_61 : decode cX0_sum 61 = .ok (.ldc 27, 2) := by decide +kernel
theorem dX0_sum_63 : decode cX0_sum 63 = .ok (.ireturn, 1) := by decide +kernel
theorem dX1_init_0 : decode cX1_init 0 = .ok (.aload_n 0, 1) := by decide +kernel
theorem dX1_init_1 : decode cX1_init 1 = .ok (.invokespecial 3, 3) := by decide +kernel
theorem dX1_init_4 : decode cX1_init 4 = .ok (.aload_n 0, 1) := by decide +kernel
theorem dX1_init_5 : decode cX1_init 5 = .ok (.bipush 7, 2) := by decide +kernel
theorem dX1_init_7 : decode cX1_init 7 = .ok (.newarray .int, 2) := by decide +kernel
theorem dX1_init_9 : decode cX1_init 9 = .ok (.putfield 9, 3) := by decide +kernel
theorem dX1_init_12 : decode cX1_init 12 = .ok (.aload_n 0, 1) := by decide +kernel
theorem dX1_init_13 : decode cX1_init 13 = .ok (.bipush 6, 2) := by decide +kernel
theorem dX1_init_15 : decode cX1_init 15 = .ok (.anewarray 15, 3) := by decide +kernel
theorem dX1_init_18 : decode cX1_init 18 = .ok (.putfield 17, 3) := by decide +kernel
theorem dX1_init_21 : decode cX1_init 21 = .ok (.aload_n 0, 1) := by decide +kernel
theorem dX1_init_22 : decode cX1_init 22 = .ok (.bipush 36, 2) := by decide +kernel
theorem dX1_init_24 : decode cX1_init 24 = .ok (.newarray .int, 2) := by decide +kernel
theorem dX1_init_26 : decode cX1_init 26 = .ok (.putfield 21, 3) := by decide +kernel
theorem dX1_init_29 : decode cX1_init 29 = .ok (.aload_n 0, 1) := by decide +kernel
theorem dX1_init_30 : decode cX1_init 30 = .ok (.new 24, 3) := by decide +kernel
theorem dX1_init_33 : decode cX1_init 33 = .ok (.dup, 1) := by decide +kernel
theorem dX1_init_34 : decode cX1_init 34 = .ok (.invokespecial 26, 3) := by decide +kernel
theorem dX1_init_37 : decode cX1_init 37 = .ok (.putfield 27, 3) := by decide +kernel
theorem dX1_init_40 : decode cX1_init 40 = .ok (.iconst 0, 1) := by decide +kernel
theorem dX1_init_41 : decode cX1_init 41 = .ok (.istore_n 1, 1) := by decide +kernel
theorem dX1_init_42 : decode cX1_init 42 = .ok (.iload_n 1, 1) := by decide +kernel
theorem dX1_init_43 : decode cX1_init 43 = .ok (.aload_n 0, 1) := by decide +kernel
theorem dX1_init_44 : decode cX1_init 44 = .ok (.getfield 9, 3) := by decide +kernel
theorem dX1_init_47 : decode cX1_init 47 = .ok (.arraylength, 1) := by decide +kernel
theorem dX1_init_48 : decode cX1_init 48 = .ok (.if_icmp .ge 28, 3) := by decide +kernel
theorem dX1_init_51 : decode cX1_init 51 = .ok (.iload_n 1, 1) := by decide +kernel
theorem dX1_init_52 : decode cX1_init 52 = .ok (.getstatic 31, 3) := by decide +kernel
theorem dX1_init_55 : decode cX1_init 55 = .ok (.arraylength, 1) := by decide +kernel
theorem dX1_init_56 : decode cX1_init 56 = .ok (.if_icmp .ge 20, 3) := by decide +kernel
theorem dX1_init_59 : decode cX1_init 59 = .ok (.aload_n 0, 1) := by decide +kernel
theorem dX1_init_60 : decode cX1_init 60 = .ok (.getfield 9, 3) := by decide +kernel
theorem dX1_init_63 : decode cX1_init 63 = .ok (.iload_n 1, 1) := by decide +kernel
theorem dX1_init_64 : decode cX1_init 64 = .ok (.getstatic 31, 3) := by decide +kernel
theorem dX1_init_67 : decode cX1_init 67 = .ok (.iload_n 1, 1) := by decide +kernel
theorem dX1_init_68 : decode cX1_init 68 = .ok (.iaload, 1) := by decide +kernel
theorem dX1_init_69 : decode cX1_init 69 = .ok (.iastore, 1) := by decide +kernel
theorem dX1_init_70 : decode cX1_init 70 = .ok (.iinc 1 1, 3) := by decide +kernel
theorem dX1_init_73 : decode cX1_init 73 = .ok (.goto (-31), 3) := by decide +kernel
theorem dX1_init_76 : decode cX1_init 76 = .ok (.iconst 0, 1) := by decide +kernel
theorem dX1_init_77 : decode cX1_init 77 = .ok (.istore_n 1, 1) := by decide +kernel
theorem dX1_init_78 : decode cX1_init 78 = .ok (.iload_n 1, 1) := by decide +kernel
theorem dX1_init_79 : decode cX1_init 79 = .ok (.aload_n 0, 1) := by decide +kernel
theorem dX1_init_80 : decode cX1_init 80 = .ok (.getfield 17, 3) := by decide +kernel
theorem dX1_init_83 : decode cX1_init 83 = .ok (.arraylength, 1) := by decide +kernel
theorem dX1_init_84 : decode cX1_init 84 = .ok (.if_icmp .ge 22, 3) := by decide +kernel
theorem dX1_init_87 : decode cX1_init 87 = .ok (.aload_n 0, 1) := by decide +kernel
theorem dX1_init_88 : decode cX1_init 88 = .ok (.getfield 17, 3) := by decide +kernel
theorem dX1_init_91 : decode cX1_init 91 = .ok (.iload_n 1, 1) := by decide +kernel
theorem dX1_init_92 : decode cX1_init 92 = .ok (.new 15, 3) := by decide +kernel
theorem dX1_init_95 : decode cX1_init 95 = .ok (.dup, 1) := by decide +kernel
theorem dX1_init_96 : decode cX1_init 96 = .ok (.invokespecial 34, 3) := by decide +kernel
theorem dX1_init_99 : decode cX1_init 99 = .ok (.aastore, 1) := by decide +kernel
theorem dX1_init_100 : decode cX1_init 100 = .ok (.iinc 1 1, 3) := by decide +kernel
theorem dX1_init_103 : decode cX1_init 103 = .ok (.goto (-25), 3) := by decide +kernel
theorem dX1_init_106 : decode cX1_init 106 = .ok (.return_, 1) := by decide +kernel
theorem dX1_copyFrom_0 : decode cX1_copyFrom 0 = .ok (.aload_n 1, 1) := by decide +kernel
theorem dX1_copyFrom_1 : decode cX1_copyFrom 1 = .ok (.getfield 9, 3) := by decide +kernel
theorem dX1_copyFrom_4 : decode cX1_copyFrom 4 = .ok (.iconst 0, 1) := by decide +kernel
theorem dX1_copyFrom_5 : decode cX1_copyFrom 5 = .ok (.aload_n 0, 1) := by decide +kernel
theorem dX1_copyFrom_6 : decode cX1_copyFrom 6 = .ok (.getfield 9, 3) := by decide +kernel
theorem dX1_copyFrom_9 : decode cX1_copyFrom 9 = .ok (.iconst 0, 1) := by decide +kernel
theorem dX1_copyFrom_10 : decode cX1_copyFrom 10 = .ok (.bipush 7, 2) := by decide +kernel
theorem dX1_copyFrom_12 : decode cX1_copyFrom 12 = .ok (.invokestatic 35, 3) := by decide +kernel
theorem dX1_copyFrom_15 : decode cX1_copyFrom 15 = .ok (.aload_n 1, 1) := by decide +kernel
theorem dX1_copyFrom_16 : decode cX1_copyFrom 16 = .ok (.getfield 21, 3) := by decide +kernel
theorem dX1_copyFrom_19 : decode cX1_copyFrom 19 = .ok (.iconst 0, 1) := by decide +kernel
theorem dX1_copyFrom_20 : decode cX1_copyFrom 20 = .ok (.aload_n 0, 1) := by decide +kernel
theorem dX1_copyFrom_21 : decode cX1_copyFrom 21 = .ok (.getfield 21, 3) := by decide +kernel
theorem dX1_copyFrom_24 : decode cX1_copyFrom 24 = .ok (.iconst 0, 1) := by decide +kernel
theorem dX1_copyFrom_25 : decode cX1_copyFrom 25 = .ok (.bipush 36, 2) := by decide +kernel
theorem dX1_copyFrom_27 : decode cX1_copyFrom 27 = .ok (.invokestatic 35, 3) := by decide +kernel
theorem dX1_copyFrom_30 : decode cX1_copyFrom 30 = .ok (.aload_n 0, 1) := by decide +kernel
theorem dX1_copyFrom_31 : decode cX1_copyFrom 31 = .ok (.getfield 27, 3) := by decide +kernel
theorem dX1_copyFrom_34 : decode cX1_copyFrom 34 = .ok (.aload_n 1, 1) := by decide +kernel
theorem dX1_copyFrom_35 : decode cX1_copyFrom 35 = .ok (.getfield 27, 3) := by decide +kernel
theorem dX1_copyFrom_38 : decode cX1_copyFrom 38 = .ok (.invokevirtual 41, 3) := by decide +kernel
theorem dX1_copyFrom_41 : decode cX1_copyFrom 41 = .ok (.aload_n 0, 1) := by decide +kernel
theorem dX1_copyFrom_42 : decode cX1_copyFrom 42 = .ok (.aload_n 1, 1) := by decide +kernel
theorem dX1_copyFrom_43 : decode cX1_copyFrom 43 = .ok (.getfield 45, 3) := by decide +kernel
theorem dX1_copyFrom_46 : decode cX1_copyFrom 46 = .ok (.putfield 45, 3) := by decide +kernel
theorem dX1_copyFrom_49 : decode cX1_copyFrom 49 = .ok (.aload_n 0, 1) := by decide +kernel
theorem dX1_copyFrom_50 : decode cX1_copyFrom 50 = .ok (.aload_n 1, 1) := by decide +kernel
theorem dX1_copyFrom_51 : decode cX1_copyFrom 51 = .ok (.getfield 49, 3) := by decide +kernel
theorem dX1_copyFrom_54 : decode cX1_copyFrom 54 = .ok (.putfield 49, 3) := by decide +kernel
theorem dX1_copyFrom_57 : decode cX1_copyFrom 57 = .ok (.iconst 0, 1) := by decide +kernel
theorem dX1_copyFrom_58 : decode cX1_copyFrom 58 = .ok (.istore_n 2, 1) := by decide +kernel
theorem dX1_copyFrom_59 : decode cX1_copyFrom 59 = .ok (.iload_n 2, 1) := by decide +kernel
theorem dX1_copyFrom_60 : decode cX1_copyFrom 60 = .ok (.aload_n 0, 1) := by decide +kernel
theorem dX1_copyFrom_61 : decode cX1_copyFrom 61 = .ok (.getfield 45, 3) := by decide +kernel
theorem dX1_copyFrom_64 : decode cX1_copyFrom 64 = .ok (.if_icmp .ge 37, 3) := by decide +kernel
theorem dX1_copyFrom_67 : decode cX1_copyFrom 67 = .ok (.aload_n 0, 1) := by decide +kernel
theorem dX1_copyFrom_68 : decode cX1_copyFrom 68 = .ok (.iload_n 2, 1) := by decide +kernel
theorem dX1_copyFrom_69 : decode cX1_copyFrom 69 = .ok (.invokevirtual 52, 3) := by decide +kernel
theorem dX1_copyFrom_72 : decode cX1_copyFrom 72 = .ok (.astore_n 3, 1) := by decide +kernel
theorem dX1_copyFrom_73 : decode cX1_copyFrom 73 = .ok (.aload_n 1, 1) := by decide +kernel
theorem dX1_copyFrom_74 : decode cX1_copyFrom 74 = .ok (.iload_n 2, 1) := by decide +kernel
theorem dX1_copyFrom_75 : decode cX1_copyFrom 75 = .ok (.invokevirtual 52, 3) := by decide +kernel
theorem dX1_copyFrom_78 : decode cX1_copyFrom 78 = .ok (.astore 4, 2) := by decide +kernel
theorem dX1_copyFrom_80 : decode cX1_copyFrom 80 = .ok (.aload_n 3, 1) := by decide +kernel
theorem dX1_copyFrom_81 : decode cX1_copyFrom 81 = .ok (.ifnull 14, 3) := by decide +kernel
theorem dX1_copyFrom_84 : decode cX1_copyFrom 84 = .ok (.aload 4, 2) := by decide +kernel
theorem dX1_copyFrom_86 : decode cX1_copyFrom 86 = .ok (.ifnull 9, 3) := by decide +kernel
theorem dX1_copyFrom_89 : decode cX1_copyFrom 89 = .ok (.aload_n 3, 1) := by decide +kernel
theorem dX1_copyFrom_90 : decode cX1_copyFrom 90 = .ok (.aload 4, 2) := by decide +kernel
theorem dX1_copyFrom_92 : decode cX1_copyFrom 92 = .ok (.invokevirtual 56, 3) := by decide +kernel
theorem dX1_copyFrom_95 : decode cX1_copyFrom 95 = .ok (.iinc 2 1, 3) := by decide +kernel
theorem dX1_copyFrom_98 : decode cX1_copyFrom 98 = .ok (.goto (-39), 3) := by decide +kernel
theorem dX1_copyFrom_101 : decode cX1_copyFrom 101 = .ok (.return_, 1) := by decide +kernel
theorem dX1_number_0 : decode cX1_number 0 = .ok (.iload_n 1, 1) := by decide +kernel
theorem dX1_number_1 : decode cX1_number 1 = .ok (.ifCond .lt 21, 3) := by decide +kernel
theorem dX1_number_4 : decode cX1_number 4 = .ok (.iload_n 1, 1) := by decide +kernel
theorem dX1_number_5 : decode cX1_number 5 = .ok (.aload_n 0, 1) := by decide +kernel
theorem dX1_number_6 : decode cX1_number 6 = .ok (.getfield 9, 3) := by decide +kernel
theorem dX1_number_9 : decode cX1_number 9 = .ok (.arraylength, 1) := by decide +kernel
theorem dX1_number_10 : decode cX1_number 10 = .ok (.if_icmp .ge 12, 3) := by decide +kernel
theorem dX1_number_13 : decode cX1_number 13 = .ok (.aload_n 0, 1) := by decide +kernel
theorem dX1_number_14 : decode cX1_number 14 = .ok (.getfield 9, 3) := by decide +kernel
theorem dX1_number_17 : decode cX1_number 17 = .ok (.iload_n 1, 1) := by decide +kernel
theorem dX1_number_18 : decode cX1_number 18 = .ok (.iaload, 1) := by decide +kernel
theorem dX1_number_19 : decode cX1_number 19 = .ok (.goto 4, 3) := by decide +kernel
theorem dX1_number_22 : decode cX1_number 22 = .ok (.iconst 0, 1) := by decide +kernel
theorem dX1_number_23 : decode cX1_number 23 = .ok (.ireturn, 1) := by decide +kernel
theorem dX1_putNumber_0 : decode cX1_putNumber 0 = .ok (.iload_n 1, 1) := by decide +kernel
theorem dX1_putNumber_1 : decode cX1_putNumber 1 = .ok (.ifCond .lt 19, 3) := by decide +kernel
theorem dX1_putNumber_4 : decode cX1_putNumber 4 = .ok (.iload_n 1, 1) := by decide +kernel
theorem dX1_putNumber_5 : decode cX1_putNumber 5 = .ok (.aload_n 0, 1) := by decide +kernel
theorem dX1_putNumber_6 : decode cX1_putNumber 6 = .ok (.getfield 9, 3) := by decide +kernel
theorem dX1_putNumber_9 : decode cX1_putNumber 9 = .ok (.arraylength, 1) := by decide +kernel
theorem dX1_putNumber_10 : decode cX1_putNumber 10 = .ok (.if_icmp .ge 10, 3) := by decide +kernel
theorem dX1_putNumber_13 : decode cX1_putNumber 13 = .ok (.aload_n 0, 1) := by decide +kernel
theorem dX1_putNumber_14 : decode cX1_putNumber 14 = .ok (.getfield 9, 3) := by decide +kernel
theorem dX1_putNumber_17 : decode cX1_putNumber 17 = .ok (.iload_n 1, 1) := by decide +kernel
theorem dX1_putNumber_18 : decode cX1_putNumber 18 = .ok (.iload_n 2, 1) := by decide +kernel
theorem dX1_putNumber_19 : decode cX1_putNumber 19 = .ok (.iastore, 1) := by decide +kernel
theorem dX1_putNumber_20 : decode cX1_putNumber 20 = .ok (.return_, 1) := by decide +kernel
theorem dX1_roomAt_0 : decode cX1_roomAt 0 = .ok (.iload_n 1, 1) := by decide +kernel
theorem dX1_roomAt_1 : decode cX1_roomAt 1 = .ok (.ifCond .lt 29, 3) := by decide +kernel
theorem dX1_roomAt_4 : decode cX1_roomAt 4 = .ok (.iload_n 1, 1) := by decide +kernel
theorem dX1_roomAt_5 : decode cX1_roomAt 5 = .ok (.aload_n 0, 1) := by decide +kernel
theorem dX1_roomAt_6 : decode cX1_roomAt 6 = .ok (.getfield 45, 3) := by decide +kernel
theorem dX1_roomAt_9 : decode cX1_roomAt 9 = .ok (.if_icmp .ge 21, 3) := by decide +kernel
theorem dX1_roomAt_12 : decode cX1_roomAt 12 = .ok (.iload_n 1, 1) := by decide +kernel
theorem dX1_roomAt_13 : decode cX1_roomAt 13 = .ok (.aload_n 0, 1) := by decide +kernel
theorem dX1_roomAt_14 : decode cX1_roomAt 14 = .ok (.getfield 17, 3) := by decide +kernel
theorem dX1_roomAt_17 : decode cX1_roomAt 17 = .ok (.arraylength, 1) := by decide +kernel
theorem dX1_roomAt_18 : decode cX1_roomAt 18 = .ok (.if_icmp .ge 12, 3) := by decide +kernel
theorem dX1_roomAt_21 : decode cX1_roomAt 21 = .ok (.aload_n 0, 1) := by decide +kernel
theorem dX1_roomAt_22 : decode cX1_roomAt 22 = .ok (.getfield 17, 3) := by decide +kernel
theorem dX1_roomAt_25 : decode cX1_roomAt 25 = .ok (.iload_n 1, 1) := by decide +kernel
theorem dX1_roomAt_26 : decode cX1_roomAt 26 = .ok (.aaload, 1) := by decide +kernel
theorem dX1_roomAt_27 : decode cX1_roomAt 27 = .ok (.goto 4, 3) := by decide +kernel
theorem dX1_roomAt_30 : decode cX1_roomAt 30 = .ok (.aconst_null, 1) := by decide +kernel
theorem dX1_roomAt_31 : decode cX1_roomAt 31 = .ok (.areturn, 1) := by decide +kernel
theorem dX1_beginRoom_0 : decode cX1_beginRoom 0 = .ok (.aload_n 0, 1) := by decide +kernel
theorem dX1_beginRoom_1 : decode cX1_beginRoom 1 = .ok (.getfield 45, 3) := by decide +kernel
theorem dX1_beginRoom_4 : decode cX1_beginRoom 4 = .ok (.istore 5, 2) := by decide +kernel
theorem dX1_beginRoom_6 : decode cX1_beginRoom 6 = .ok (.aload_n 0, 1) := by decide +kernel
theorem dX1_beginRoom_7 : decode cX1_beginRoom 7 = .ok (.dup, 1) := by decide +kernel
theorem dX1_beginRoom_8 : decode cX1_beginRoom 8 = .ok (.getfield 45, 3) := by decide +kernel
theorem dX1_beginRoom_11 : decode cX1_beginRoom 11 = .ok (.iconst 1, 1) := by decide +kernel
theorem dX1_beginRoom_12 : decode cX1_beginRoom 12 = .ok (.iadd, 1) := by decide +kernel
theorem dX1_beginRoom_13 : decode cX1_beginRoom 13 = .ok (.putfield 45, 3) := by decide +kernel
theorem dX1_beginRoom_16 : decode cX1_beginRoom 16 = .ok (.aload_n 0, 1) := by decide +kernel
theorem dX1_beginRoom_17 : decode cX1_beginRoom 17 = .ok (.iload 5, 2) := by decide +kernel
theorem dX1_beginRoom_19 : decode cX1_beginRoom 19 = .ok (.invokevirtual 52, 3) := by decide +kernel
theorem dX1_beginRoom_22 : decode cX1_beginRoom 22 = .ok (.astore 6, 2) := by decide +kernel
theorem dX1_beginRoom_24 : decode cX1_beginRoom 24 = .ok (.aload 6, 2) := by decide +kernel
theorem dX1_beginRoom_26 : decode cX1_beginRoom 26 = .ok (.ifnull 13, 3) := by decide +kernel
theorem dX1_beginRoom_29 : decode cX1_beginRoom 29 = .ok (.aload 6, 2) := by decide +kernel
theorem dX1_beginRoom_31 : decode cX1_beginRoom 31 = .ok (.iload_n 1, 1) := by decide +kernel
theorem dX1_beginRoom_32 : decode cX1_beginRoom 32 = .ok (.iload_n 2, 1) := by decide +kernel
theorem dX1_beginRoom_33 : decode cX1_beginRoom 33 = .ok (.iload_n 3, 1) := by decide +kernel
theorem dX1_beginRoom_34 : decode cX1_beginRoom 34 = .ok (.iload 4, 2) := by decide +kernel
theorem dX1_beginRoom_36 : decode cX1_beginRoom 36 = .ok (.invokevirtual 59, 3) := by decide +kernel
theorem dX1_beginRoom_39 : decode cX1_beginRoom 39 = .ok (.iload 5, 2) := by decide +kernel
theorem dX1_beginRoom_41 : decode cX1_beginRoom 41 = .ok (.ireturn, 1) := by decide +kernel
theorem dX1_hasPair_0 : decode cX1_hasPair 0 = .ok (.iload_n 1, 1) := by decide +kernel
theorem dX1_hasPair_1 : decode cX1_hasPair 1 = .ok (.iload_n 2, 1) := by decide +kernel
theorem dX1_hasPair_2 : decode cX1_hasPair 2 = .ok (.if_icmp .eq 23, 3) := by decide +kernel
theorem dX1_hasPair_5 : decode cX1_hasPair 5 = .ok (.aload_n 0, 1) := by decide +kernel
theorem dX1_hasPair_6 : decode cX1_hasPair 6 = .ok (.iload_n 1, 1) := by decide +kernel
theorem dX1_hasPair_7 : decode cX1_hasPair 7 = .ok (.invokevirtual 52, 3) := by decide +kernel
theorem dX1_hasPair_10 : decode cX1_hasPair 10 = .ok (.ifnull 15, 3) := by decide +kernel
theorem dX1_hasPair_13 : decode cX1_hasPair 13 = .ok (.aload_n 0, 1) := by decide +kernel
theorem dX1_hasPair_14 : decode cX1_hasPair 14 = .ok (.iload_n 2, 1) := by decide +kernel
theorem dX1_hasPair_15 : decode cX1_hasPair 15 = .ok (.invokevirtual 52, 3) := by decide +kernel
theorem dX1_hasPair_18 : decode cX1_hasPair 18 = .ok (.ifnull 7, 3) := by decide +kernel
theorem dX1_hasPair_21 : decode cX1_hasPair 21 = .ok (.iconst 1, 1) := by decide +kernel
theorem dX1_hasPair_22 : decode cX1_hasPair 22 = .ok (.goto 4, 3) := by decide +kernel
theorem dX1_hasPair_25 : decode cX1_hasPair 25 = .ok (.iconst 0, 1) := by decide +kernel
theorem dX1_hasPair_26 : decode cX1_hasPair 26 = .ok (.ireturn, 1) := by decide +kernel
theorem dX1_linkOf_0 : decode cX1_linkOf 0 = .ok (.iload_n 1, 1) := by decide +kernel
theorem dX1_linkOf_1 : decode cX1_linkOf 1 = .ok (.iload_n 2, 1) := by decide +kernel
theorem dX1_linkOf_2 : decode cX1_linkOf 2 = .ok (.invokestatic 63, 3) := by decide +kernel
theorem dX1_linkOf_5 : decode cX1_linkOf 5 = .ok (.istore_n 3, 1) := by decide +kernel
theorem dX1_linkOf_6 : decode cX1_linkOf 6 = .ok (.iload_n 3, 1) := by decide +kernel
theorem dX1_linkOf_7 : decode cX1_linkOf 7 = .ok (.ifCond .lt 21, 3) := by decide +kernel
theorem dX1_linkOf_10 : decode cX1_linkOf 10 = .ok (.iload_n 3, 1) := by decide +kernel
theorem dX1_linkOf_11 : decode cX1_linkOf 11 = .ok (.aload_n 0, 1) := by decide +kernel
theorem dX1_linkOf_12 : decode cX1_linkOf 12 = .ok (.getfield 21, 3) := by decide +kernel
theorem dX1_linkOf_15 : decode cX1_linkOf 15 = .ok (.arraylength, 1) := by decide +kernel
theorem dX1_linkOf_16 : decode cX1_linkOf 16 = .ok (.if_icmp .ge 12, 3) := by decide +kernel
theorem dX1_linkOf_19 : decode cX1_linkOf 19 = .ok (.aload_n 0, 1) := by decide +kernel
theorem dX1_linkOf_20 : decode cX1_linkOf 20 = .ok (.getfield 21, 3) := by decide +kernel
theorem dX1_linkOf_23 : decode cX1_linkOf 23 = .ok (.iload_n 3, 1) := by decide +kernel
theorem dX1_linkOf_24 : decode cX1_linkOf 24 = .ok (.iaload, 1) := by decide +kernel
theorem dX1_linkOf_25 : decode cX1_linkOf 25 = .ok (.goto 4, 3) := by decide +kernel
theorem dX1_linkOf_28 : decode cX1_linkOf 28 = .ok (.iconst 0, 1) := by decide +kernel
theorem dX1_linkOf_29 : decode cX1_linkOf 29 = .ok (.ireturn, 1) := by decide +kernel
theorem dX1_putLink_0 : decode cX1_putLink 0 = .ok (.aload_n 0, 1) := by decide +kernel
theorem dX1_putLink_1 : decode cX1_putLink 1 = .ok (.iload_n 1, 1) := by decide +kernel
theorem dX1_putLink_2 : decode cX1_putLink 2 = .ok (.iload_n 2, 1) := by decide +kernel
theorem dX1_putLink_3 : decode cX1_putLink 3 = .ok (.invokestatic 63, 3) := by decide +kernel
theorem dX1_putLink_6 : decode cX1_putLink 6 = .ok (.iload_n 3, 1) := by decide +kernel
theorem dX1_putLink_7 : decode cX1_putLink 7 = .ok (.invokevirtual 67, 3) := by decide +kernel
theorem dX1_putLink_10 : decode cX1_putLink 10 = .ok (.aload_n 0, 1) := by decide +kernel
theorem dX1_putLink_11 : decode cX1_putLink 11 = .ok (.iload_n 2, 1) := by decide +kernel
theorem dX1_putLink_12 : decode cX1_putLink 12 = .ok (.iload_n 1, 1) := by decide +kernel
theorem dX1_putLink_13 : decode cX1_putLink 13 = .ok (.invokestatic 63, 3) := by decide +kernel
theorem dX1_putLink_16 : decode cX1_putLink 16 = .ok (.iload_n 3, 1) := by decide +kernel
theorem dX1_putLink_17 : decode cX1_putLink 17 = .ok (.invokevirtual 67, 3) := by decide +kernel
theorem dX1_putLink_20 : decode cX1_putLink 20 = .ok (.return_, 1) := by decide +kernel
theorem dX1_putLinkAt_0 : decode cX1_putLinkAt 0 = .ok (.iload_n 1, 1) := by decide +kernel
theorem dX1_putLinkAt_1 : decode cX1_putLinkAt 1 = .ok (.ifCond .lt 19, 3) := by decide +kernel
theorem dX1_putLinkAt_4 : decode cX1_putLinkAt 4 = .ok (.iload_n 1, 1) := by decide +kernel
theorem dX1_putLinkAt_5 : decode cX1_putLinkAt 5 = .ok (.aload_n 0, 1) := by decide +kernel
theorem dX1_putLinkAt_6 : decode cX1_putLinkAt 6 = .ok (.getfield 21, 3) := by decide +kernel
theorem dX1_putLinkAt_9 : decode cX1_putLinkAt 9 = .ok (.arraylength, 1) := by decide +kernel
theorem dX1_putLinkAt_10 : decode cX1_putLinkAt 10 = .ok (.if_icmp .ge 10, 3) := by decide +kernel
theorem dX1_putLinkAt_13 : decode cX1_putLinkAt 13 = .ok (.aload_n 0, 1) := by decide +kernel
theorem dX1_putLinkAt_14 : decode cX1_putLinkAt 14 = .ok (.getfield 21, 3) := by decide +kernel
theorem dX1_putLinkAt_17 : decode cX1_putLinkAt 17 = .ok (.iload_n 1, 1) := by decide +kernel
theorem dX1_putLinkAt_18 : decode cX1_putLinkAt 18 = .ok (.iload_n 2, 1) := by decide +kernel
theorem dX1_putLinkAt_19 : decode cX1_putLinkAt 19 = .ok (.iastore, 1) := by decide +kernel
theorem dX1_putLinkAt_20 : decode cX1_putLinkAt 20 = .ok (.return_, 1) := by decide +kernel
theorem dX1_linkPlace_0 : decode cX1_linkPlace 0 = .ok (.iload_n 0, 1) := by decide +kernel
theorem dX1_linkPlace_1 : decode cX1_linkPlace 1 = .ok (.bipush 6, 2) := by decide +kernel
theorem dX1_linkPlace_3 : decode cX1_linkPlace 3 = .ok (.imul, 1) := by decide +kernel
theorem dX1_linkPlace_4 : decode cX1_linkPlace 4 = .ok (.iload_n 1, 1) := by decide +kernel
theorem dX1_linkPlace_5 : decode cX1_linkPlace 5 = .ok (.iadd, 1) := by decide +kernel
theorem dX1_linkPlace_6 : decode cX1_linkPlace 6 = .ok (.ireturn, 1) := by decide +kernel
theorem dX1_canCarry_0 : decode cX1_canCarry 0 = .ok (.aload_n 0, 1) := by decide +kernel
theorem dX1_canCarry_1 : decode cX1_canCarry 1 = .ok (.iload_n 1, 1) := by decide +kernel
theorem dX1_canCarry_2 : decode cX1_canCarry 2 = .ok (.invokevirtual 52, 3) := by decide +kernel
theorem dX1_canCarry_5 : decode cX1_canCarry 5 = .ok (.astore_n 3, 1) := by decide +kernel
theorem dX1_canCarry_6 : decode cX1_canCarry 6 = .ok (.aload_n 3, 1) := by decide +kernel
theorem dX1_canCarry_7 : decode cX1_canCarry 7 = .ok (.ifnonnull 5, 3) := by decide +kernel
theorem dX1_canCarry_10 : decode cX1_canCarry 10 = .ok (.iconst 0, 1) := by decide +kernel
theorem dX1_canCarry_11 : decode cX1_canCarry 11 = .ok (.ireturn, 1) := by decide +kernel
theorem dX1_canCarry_12 : decode cX1_canCarry 12 = .ok (.aload_n 3, 1) := by decide +kernel
theorem dX1_canCarry_13 : decode cX1_canCarry 13 = .ok (.getfield 71, 3) := by decide +kernel
theorem dX1_canCarry_16 : decode cX1_canCarry 16 = .ok (.iload_n 2, 1) := by decide +kernel
theorem dX1_canCarry_17 : decode cX1_canCarry 17 = .ok (.iadd, 1) := by decide +kernel
theorem dX1_canCarry_18 : decode cX1_canCarry 18 = .ok (.istore 4, 2) := by decide +kernel
theorem dX1_canCarry_20 : decode cX1_canCarry 20 = .ok (.iconst 0, 1) := by decide +kernel
theorem dX1_canCarry_21 : decode cX1_canCarry 21 = .ok (.istore 5, 2) := by decide +kernel
theorem dX1_canCarry_23 : decode cX1_canCarry 23 = .ok (.iload 5, 2) := by decide +kernel
theorem dX1_canCarry_25 : decode cX1_canCarry 25 = .ok (.aload_n 0, 1) := by decide +kernel
theorem dX1_canCarry_26 : decode cX1_canCarry 26 = .ok (.getfield 45, 3) := by decide +kernel
theorem dX1_canCarry_29 : decode cX1_canCarry 29 = .ok (.if_icmp .ge 21, 3) := by decide +kernel
theorem dX1_canCarry_32 : decode cX1_canCarry 32 = .ok (.iload 4, 2) := by decide +kernel
theorem dX1_canCarry_34 : decode cX1_canCarry 34 = .ok (.aload_n 0, 1) := by decide +kernel
theorem dX1_canCarry_35 : decode cX1_canCarry 35 = .ok (.iload_n 1, 1) := by decide +kernel
theorem dX1_canCarry_36 : decode cX1_canCarry 36 = .ok (.iload 5, 2) := by decide +kernel
theorem dX1_canCarry_38 : decode cX1_canCarry 38 = .ok (.invokevirtual 74, 3) := by decide +kernel
theorem dX1_canCarry_41 : decode cX1_canCarry 41 = .ok (.iadd, 1) := by decide +kernel
theorem dX1_canCarry_42 : decode cX1_canCarry 42 = .ok (.istore 4, 2) := by decide +kernel
theorem dX1_canCarry_44 : decode cX1_canCarry 44 = .ok (.iinc 5 1, 3) := by decide +kernel
theorem dX1_canCarry_47 : decode cX1_canCarry 47 = .ok (.goto (-24), 3) := by decide +kernel
theorem dX1_canCarry_50 : decode cX1_canCarry 50 = .ok (.iload 4, 2) := by decide +kernel
theorem dX1_canCarry_52 : decode cX1_canCarry 52 = .ok (.aload_n 3, 1) := by decide +kernel
theorem dX1_canCarry_53 : decode cX1_canCarry 53 = .ok (.getfield 77, 3) := by decide +kernel
theorem dX1_canCarry_56 : decode cX1_canCarry 56 = .ok (.iconst 2, 1) := by decide +kernel
theorem dX1_canCarry_57 : decode cX1_canCarry 57 = .ok (.idiv, 1) := by decide +kernel
theorem dX1_canCarry_58 : decode cX1_canCarry 58 = .ok (.if_icmp .gt 7, 3) := by decide +kernel
theorem dX1_canCarry_61 : decode cX1_canCarry 61 = .ok (.iconst 1, 1) := by decide +kernel
theorem dX1_canCarry_62 : decode cX1_canCarry 62 = .ok (.goto 4, 3) := by decide +kernel
theorem dX1_canCarry_65 : decode cX1_canCarry 65 = .ok (.iconst 0, 1) := by decide +kernel
theorem dX1_canCarry_66 : decode cX1_canCarry 66 = .ok (.ireturn, 1) := by decide +kernel
theorem dX1_isSuspect_0 : decode cX1_isSuspect 0 = .ok (.aload_n 1, 1) := by decide +kernel
theorem dX1_isSuspect_1 : decode cX1_isSuspect 1 = .ok (.getfield 80, 3) := by decide +kernel
theorem dX1_isSuspect_4 : decode cX1_isSuspect 4 = .ok (.aload_n 0, 1) := by decide +kernel
theorem dX1_isSuspect_5 : decode cX1_isSuspect 5 = .ok (.bipush 6, 2) := by decide +kernel
theorem dX1_isSuspect_7 : decode cX1_isSuspect 7 = .ok (.invokevirtual 83, 3) := by decide +kernel
theorem dX1_isSuspect_10 : decode cX1_isSuspect 10 = .ok (.if_icmp .lt 7, 3) := by decide +kernel
theorem dX1_isSuspect_13 : decode cX1_isSuspect 13 = .ok (.iconst 1, 1) := by decide +kernel
theorem dX1_isSuspect_14 : decode cX1_isSuspect 14 = .ok (.goto 4, 3) := by decide +kernel
theorem dX1_isSuspect_17 : decode cX1_isSuspect 17 = .ok (.iconst 0, 1) := by decide +kernel
theorem dX1_isSuspect_18 : decode cX1_isSuspect 18 = .ok (.ireturn, 1) := by decide +kernel
theorem dX1_suspectRooms_0 : decode cX1_suspectRooms 0 = .ok (.iconst 0, 1) := by decide +kernel
theorem dX1_suspectRooms_1 : decode cX1_suspectRooms 1 = .ok (.istore_n 1, 1) := by decide +kernel
theorem dX1_suspectRooms_2 : decode cX1_suspectRooms 2 = .ok (.iconst 0, 1) := by decide +kernel
theorem dX1_suspectRooms_3 : decode cX1_suspectRooms 3 = .ok (.istore_n 2, 1) := by decide +kernel
theorem dX1_suspectRooms_4 : decode cX1_suspectRooms 4 = .ok (.iload_n 2, 1) := by decide +kernel
theorem dX1_suspectRooms_5 : decode cX1_suspectRooms 5 = .ok (.aload_n 0, 1) := by decide +kernel
theorem dX1_suspectRooms_6 : decode cX1_suspectRooms 6 = .ok (.getfield 45, 3) := by decide +kernel
theorem dX1_suspectRooms_9 : decode cX1_suspectRooms 9 = .ok (.if_icmp .ge 35, 3) := by decide +kernel
theorem dX1_suspectRooms_12 : decode cX1_suspectRooms 12 = .ok (.aload_n 0, 1) := by decide +kernel
theorem dX1_suspectRooms_13 : decode cX1_suspectRooms 13 = .ok (.iload_n 2, 1) := by decide +kernel
theorem dX1_suspectRooms_14 : decode cX1_suspectRooms 14 = .ok (.invokevirtual 52, 3) := by decide +kernel
theorem dX1_suspectRooms_17 : decode cX1_suspectRooms 17 = .ok (.astore_n 3, 1) := by decide +kernel
theorem dX1_suspectRooms_18 : decode cX1_suspectRooms 18 = .ok (.iload_n 1, 1) := by decide +kernel
theorem dX1_suspectRooms_19 : decode cX1_suspectRooms 19 = .ok (.aload_n 3, 1) := by decide +kernel
theorem dX1_suspectRooms_20 : decode cX1_suspectRooms 20 = .ok (.ifnull 15, 3) := by decide +kernel
theorem dX1_suspectRooms_23 : decode cX1_suspectRooms 23 = .ok (.aload_n 0, 1) := by decide +kernel
theorem dX1_suspectRooms_24 : decode cX1_suspectRooms 24 = .ok (.aload_n 3, 1) := by decide +kernel
theorem dX1_suspectRooms_25 : decode cX1_suspectRooms 25 = .ok (.invokevirtual 87, 3) := by decide +kernel
theorem dX1_suspectRooms_28 : decode cX1_suspectRooms 28 = .ok (.ifCond .eq 7, 3) := by decide +kernel
theorem dX1_suspectRooms_31 : decode cX1_suspectRooms 31 = .ok (.iconst 1, 1) := by decide +kernel
theorem dX1_suspectRooms_32 : decode cX1_suspectRooms 32 = .ok (.goto 4, 3) := by decide +kernel
theorem dX1_suspectRooms_35 : decode cX1_suspectRooms 35 = .ok (.iconst 0, 1) := by decide +kernel
theorem dX1_suspectRooms_36 : decode cX1_suspectRooms 36 = .ok (.iadd, 1) := by decide +kernel
theorem dX1_suspectRooms_37 : decode cX1_suspectRooms 37 = .ok (.istore_n 1, 1) := by decide +kernel
theorem dX1_suspectRooms_38 : decode cX1_suspectRooms 38 = .ok (.iinc 2 1, 3) := by decide +kernel
theorem dX1_suspectRooms_41 : decode cX1_suspectRooms 41 = .ok (.goto (-37), 3) := by decide +kernel
theorem dX1_suspectRooms_44 : decode cX1_suspectRooms 44 = .ok (.iload_n 1, 1) := by decide +kernel
theorem dX1_suspectRooms_45 : decode cX1_suspectRooms 45 = .ok (.ireturn, 1) := by decide +kernel
theorem dX1_allFines_0 : decode cX1_allFines 0 = .ok (.iconst 0, 1) := by decide +kernel
theorem dX1_allFines_1 : decode cX1_allFines 1 = .ok (.istore_n 1, 1) := by decide +kernel
theorem dX1_allFines_2 : decode cX1_allFines 2 = .ok (.iconst 0, 1) := by decide +kernel
theorem dX1_allFines_3 : decode cX1_allFines 3 = .ok (.istore_n 2, 1) := by decide +kernel
theorem dX1_allFines_4 : decode cX1_allFines 4 = .ok (.iload_n 2, 1) := by decide +kernel
theorem dX1_allFines_5 : decode cX1_allFines 5 = .ok (.aload_n 0, 1) := by decide +kernel
theorem dX1_allFines_6 : decode cX1_allFines 6 = .ok (.getfield 45, 3) := by decide +kernel
theorem dX1_allFines_9 : decode cX1_allFines 9 = .ok (.if_icmp .ge 30, 3) := by decide +kernel
theorem dX1_allFines_12 : decode cX1_allFines 12 = .ok (.aload_n 0, 1) := by decide +kernel
theorem dX1_allFines_13 : decode cX1_allFines 13 = .ok (.iload_n 2, 1) := by decide +kernel
theorem dX1_allFines_14 : decode cX1_allFines 14 = .ok (.invokevirtual 52, 3) := by decide +kernel
theorem dX1_allFines_17 : decode cX1_allFines 17 = .ok (.astore_n 3, 1) := by decide +kernel
theorem dX1_allFines_18 : decode cX1_allFines 18 = .ok (.iload_n 1, 1) := by decide +kernel
theorem dX1_allFines_19 : decode cX1_allFines 19 = .ok (.aload_n 3, 1) := by decide +kernel
theorem dX1_allFines_20 : decode cX1_allFines 20 = .ok (.ifnull 10, 3) := by decide +kernel
theorem dX1_allFines_23 : decode cX1_allFines 23 = .ok (.aload_n 3, 1) := by decide +kernel
theorem dX1_allFines_24 : decode cX1_allFines 24 = .ok (.getfield 91, 3) := by decide +kernel
theorem dX1_allFines_27 : decode cX1_allFines 27 = .ok (.goto 4, 3) := by decide +kernel
theorem dX1_allFines_30 : decode cX1_allFines 30 = .ok (.iconst 0, 1) := by decide +kernel
theorem dX1_allFines_31 : decode cX1_allFines 31 = .ok (.iadd, 1) := by decide +kernel
theorem dX1_allFines_32 : decode cX1_allFines 32 = .ok (.istore_n 1, 1) := by decide +kernel
theorem dX1_allFines_33 : decode cX1_allFines 33 = .ok (.iinc 2 1, 3) := by decide +kernel
theorem dX1_allFines_36 : decode cX1_allFines 36 = .ok (.goto (-32), 3) := by decide +kernel
theorem dX1_allFines_39 : decode cX1_allFines 39 = .ok (.iload_n 1, 1) := by decide +kernel
theorem dX1_allFines_40 : decode cX1_allFines 40 = .ok (.ireturn, 1) := by decide +kernel
theorem dX1_heatFromHeaters_0 : decode cX1_heatFromHeaters 0 = .ok (.iconst 0, 1) := by decide +kernel
theorem dX1_heatFromHeaters_1 : decode cX1_heatFromHeaters 1 = .ok (.istore_n 1, 1) := by decide +kernel
theorem dX1_heatFromHeaters_2 : decode cX1_heatFromHeaters 2 = .ok (.iconst 0, 1) := by decide +kernel
theorem dX1_heatFromHeaters_3 : decode cX1_heatFromHeaters 3 = .ok (.istore_n 2, 1) := by decide +kernel
theorem dX1_heatFromHeaters_4 : decode cX1_heatFromHeaters 4 = .ok (.iload_n 2, 1) := by decide +kernel
theorem dX1_heatFromHeaters_5 : decode cX1_heatFromHeaters 5 = .ok (.aload_n 0, 1) := by decide +kernel
theorem dX1_heatFromHeaters_6 : decode cX1_heatFromHeaters 6 = .ok (.getfield 45, 3) := by decide +kernel
theorem dX1_heatFromHeaters_9 : decode cX1_heatFromHeaters 9 = .ok (.if_icmp .ge 33, 3) := by decide +kernel
theorem dX1_heatFromHeaters_12 : decode cX1_heatFromHeaters 12 = .ok (.aload_n 0, 1) := by decide +kernel
theorem dX1_heatFromHeaters_13 : decode cX1_heatFromHeaters 13 = .ok (.iload_n 2, 1) := by decide +kernel
theorem dX1_heatFromHeaters_14 : decode cX1_heatFromHeaters 14 = .ok (.invokevirtual 52, 3) := by decide +kernel
theorem dX1_heatFromHeaters_17 : decode cX1_heatFromHeaters 17 = .ok (.astore_n 3, 1) := by decide +kernel
theorem dX1_heatFromHeaters_18 : decode cX1_heatFromHeaters 18 = .ok (.iload_n 1, 1) := by decide +kernel
theorem dX1_heatFromHeaters_19 : decode cX1_heatFromHeaters 19 = .ok (.aload_n 3, 1) := by decide +kernel
theorem dX1_heatFromHeaters_20 : decode cX1_heatFromHeaters 20 = .ok (.ifnull 13, 3) := by decide +kernel
theorem dX1_heatFromHeaters_23 : decode cX1_heatFromHeaters 23 = .ok (.aload_n 3, 1) := by decide +kernel
theorem dX1_heatFromHeaters_24 : decode cX1_heatFromHeaters 24 = .ok (.getfield 94, 3) := by decide +kernel
theorem dX1_heatFromHeaters_27 : decode cX1_heatFromHeaters 27 = .ok (.getfield 98, 3) := by decide +kernel
theorem dX1_heatFromHeaters_30 : decode cX1_heatFromHeaters 30 = .ok (.goto 4, 3) := by decide +kernel
theorem dX1_heatFromHeaters_33 : decode cX1_heatFromHeaters 33 = .ok (.iconst 0, 1) := by decide +kernel
theorem dX1_heatFromHeaters_34 : decode cX1_heatFromHeaters 34 = .ok (.iadd, 1) := by decide +kernel
theorem dX1_heatFromHeaters_35 : decode cX1_heatFromHeaters 35 = .ok (.istore_n 1, 1) := by decide +kernel
theorem dX1_heatFromHeaters_36 : decode cX1_heatFromHeaters 36 = .ok (.iinc 2 1, 3) := by decide +kernel
theorem dX1_heatFromHeaters_39 : decode cX1_heatFromHeaters 39 = .ok (.goto (-35), 3) := by decide +kernel
theorem dX1_heatFromHeaters_42 : decode cX1_heatFromHeaters 42 = .ok (.iload_n 1, 1) := by decide +kernel
theorem dX1_heatFromHeaters_43 : decode cX1_heatFromHeaters 43 = .ok (.ireturn, 1) := by decide +kernel
theorem dX1_passMinutes_0 : decode cX1_passMinutes 0 = .ok (.iconst 0, 1) := by decide +kernel
theorem dX1_passMinutes_1 : decode cX1_passMinutes 1 = .ok (.istore_n 2, 1) := by decide +kernel
theorem dX1_passMinutes_2 : decode cX1_passMinutes 2 = .ok (.iconst 0, 1) := by decide +kernel
theorem dX1_passMinutes_3 : decode cX1_passMinutes 3 = .ok (.istore_n 3, 1) := by decide +kernel
theorem dX1_passMinutes_4 : decode cX1_passMinutes 4 = .ok (.iload_n 3, 1) := by decide +kernel
theorem dX1_passMinutes_5 : decode cX1_passMinutes 5 = .ok (.iload_n 1, 1) := by decide +kernel
theorem dX1_passMinutes_6 : decode cX1_passMinutes 6 = .ok (.if_icmp .ge 16, 3) := by decide +kernel
theorem dX1_passMinutes_9 : decode cX1_passMinutes 9 = .ok (.iload_n 2, 1) := by decide +kernel
theorem dX1_passMinutes_10 : decode cX1_passMinutes 10 = .ok (.aload_n 0, 1) := by decide +kernel
theorem dX1_passMinutes_11 : decode cX1_passMinutes 11 = .ok (.invokevirtual 103, 3) := by decide +kernel
theorem dX1_passMinutes_14 : decode cX1_passMinutes 14 = .ok (.iadd, 1) := by decide +kernel
theorem dX1_passMinutes_15 : decode cX1_passMinutes 15 = .ok (.istore_n 2, 1) := by decide +kernel
theorem dX1_passMinutes_16 : decode cX1_passMinutes 16 = .ok (.iinc 3 1, 3) := by decide +kernel
theorem dX1_passMinutes_19 : decode cX1_passMinutes 19 = .ok (.goto (-15), 3) := by decide +kernel
theorem dX1_passMinutes_22 : decode cX1_passMinutes 22 = .ok (.iload_n 2, 1) := by decide +kernel
theorem dX1_passMinutes_23 : decode cX1_passMinutes 23 = .ok (.ireturn, 1) := by decide +kernel
theorem dX1_passMinute_0 : decode cX1_passMinute 0 = .ok (.aload_n 0, 1) := by decide +kernel
theorem dX1_passMinute_1 : decode cX1_passMinute 1 = .ok (.invokevirtual 107, 3) := by decide +kernel
theorem dX1_passMinute_4 : decode cX1_passMinute 4 = .ok (.aload_n 0, 1) := by decide +kernel
theorem dX1_passMinute_5 : decode cX1_passMinute 5 = .ok (.invokevirtual 110, 3) := by decide +kernel
theorem dX1_passMinute_8 : decode cX1_passMinute 8 = .ok (.iconst 0, 1) := by decide +kernel
theorem dX1_passMinute_9 : decode cX1_passMinute 9 = .ok (.istore_n 1, 1) := by decide +kernel
theorem dX1_passMinute_10 : decode cX1_passMinute 10 = .ok (.iconst 0, 1) := by decide +kernel
theorem dX1_passMinute_11 : decode cX1_passMinute 11 = .ok (.istore_n 2, 1) := by decide +kernel
theorem dX1_passMinute_12 : decode cX1_passMinute 12 = .ok (.iload_n 2, 1) := by decide +kernel
theorem dX1_passMinute_13 : decode cX1_passMinute 13 = .ok (.aload_n 0, 1) := by decide +kernel
theorem dX1_passMinute_14 : decode cX1_passMinute 14 = .ok (.getfield 45, 3) := by decide +kernel
theorem dX1_passMinute_17 : decode cX1_passMinute 17 = .ok (.if_icmp .ge 30, 3) := by decide +kernel
theorem dX1_passMinute_20 : decode cX1_passMinute 20 = .ok (.aload_n 0, 1) := by decide +kernel
theorem dX1_passMinute_21 : decode cX1_passMinute 21 = .ok (.iload_n 2, 1) := by decide +kernel
theorem dX1_passMinute_22 : decode cX1_passMinute 22 = .ok (.invokevirtual 52, 3) := by decide +kernel
theorem dX1_passMinute_25 : decode cX1_passMinute 25 = .ok (.astore_n 3, 1) := by decide +kernel
theorem dX1_passMinute_26 : decode cX1_passMinute 26 = .ok (.aload_n 3, 1) := by decide +kernel
theorem dX1_passMinute_27 : decode cX1_passMinute 27 = .ok (.ifnull 14, 3) := by decide +kernel
theorem dX1_passMinute_30 : decode cX1_passMinute 30 = .ok (.aload_n 0, 1) := by decide +kernel
theorem dX1_passMinute_31 : decode cX1_passMinute 31 = .ok (.aload_n 3, 1) := by decide +kernel
theorem dX1_passMinute_32 : decode cX1_passMinute 32 = .ok (.invokevirtual 113, 3) := by decide +kernel
theorem dX1_passMinute_35 : decode cX1_passMinute 35 = .ok (.ifCond .eq 6, 3) := by decide +kernel
theorem dX1_passMinute_38 : decode cX1_passMinute 38 = .ok (.iinc 1 1, 3) := by decide +kernel
theorem dX1_passMinute_41 : decode cX1_passMinute 41 = .ok (.iinc 2 1, 3) := by decide +kernel
theorem dX1_passMinute_44 : decode cX1_passMinute 44 = .ok (.goto (-32), 3) := by decide +kernel
theorem dX1_passMinute_47 : decode cX1_passMinute 47 = .ok (.aload_n 0, 1) := by decide +kernel
theorem dX1_passMinute_48 : decode cX1_passMinute 48 = .ok (.dup, 1) := by decide +kernel
theorem dX1_passMinute_49 : decode cX1_passMinute 49 = .ok (.getfield 49, 3) := by decide +kernel
theorem dX1_passMinute_52 : decode cX1_passMinute 52 = .ok (.iconst 1, 1) := by decide +kernel
theorem dX1_passMinute_53 : decode cX1_passMinute 53 = .ok (.iadd, 1) := by decide +kernel
theorem dX1_passMinute_54 : decode cX1_passMinute 54 = .ok (.putfield 49, 3) := by decide +kernel
theorem dX1_passMinute_57 : decode cX1_passMinute 57 = .ok (.iload_n 1, 1) := by decide +kernel
theorem dX1_passMinute_58 : decode cX1_passMinute 58 = .ok (.ireturn, 1) := by decide +kernel
theorem dX1_heatRooms_0 : decode cX1_heatRooms 0 = .ok (.aload_n 0, 1) := by decide +kernel
theorem dX1_heatRooms_1 : decode cX1_heatRooms 1 = .ok (.getfield 27, 3) := by decide +kernel
theorem dX1_heatRooms_4 : decode cX1_heatRooms 4 = .ok (.aload_n 0, 1) := by decide +kernel
theorem dX1_heatRooms_5 : decode cX1_heatRooms 5 = .ok (.getfield 49, 3) := by decide +kernel
theorem dX1_heatRooms_8 : decode cX1_heatRooms 8 = .ok (.invokevirtual 116, 3) := by decide +kernel
theorem dX1_heatRooms_11 : decode cX1_heatRooms 11 = .ok (.istore_n 1, 1) := by decide +kernel
theorem dX1_heatRooms_12 : decode cX1_heatRooms 12 = .ok (.iconst 0, 1) := by decide +kernel
theorem dX1_heatRooms_13 : decode cX1_heatRooms 13 = .ok (.istore_n 2, 1) := by decide +kernel
theorem dX1_heatRooms_14 : decode cX1_heatRooms 14 = .ok (.iload_n 2, 1) := by decide +kernel
theorem dX1_heatRooms_15 : decode cX1_heatRooms 15 = .ok (.aload_n 0, 1) := by decide +kernel
theorem dX1_heatRooms_16 : decode cX1_heatRooms 16 = .ok (.getfield 45, 3) := by decide +kernel
theorem dX1_heatRooms_19 : decode cX1_heatRooms 19 = .ok (.if_icmp .ge 24, 3) := by decide +kernel
theorem dX1_heatRooms_22 : decode cX1_heatRooms 22 = .ok (.aload_n 0, 1) := by decide +kernel
theorem dX1_heatRooms_23 : decode cX1_heatRooms 23 = .ok (.iload_n 2, 1) := by decide +kernel
theorem dX1_heatRooms_24 : decode cX1_heatRooms 24 = .ok (.invokevirtual 52, 3) := by decide +kernel
theorem dX1_heatRooms_27 : decode cX1_heatRooms 27 = .ok (.astore_n 3, 1) := by decide +kernel
theorem dX1_heatRooms_28 : decode cX1_heatRooms 28 = .ok (.aload_n 3, 1) := by decide +kernel
theorem dX1_heatRooms_29 : decode cX1_heatRooms 29 = .ok (.ifnull 8, 3) := by decide +kernel
theorem dX1_heatRooms_32 : decode cX1_heatRooms 32 = .ok (.aload_n 3, 1) := by decide +kernel
theorem dX1_heatRooms_33 : decode cX1_heatRooms 33 = .ok (.iload_n 1, 1) := by decide +kernel
theorem dX1_heatRooms_34 : decode cX1_heatRooms 34 = .ok (.invokevirtual 119, 3) := by decide +kernel
theorem dX1_heatRooms_37 : decode cX1_heatRooms 37 = .ok (.iinc 2 1, 3) := by decide +kernel
theorem dX1_heatRooms_40 : decode cX1_heatRooms 40 = .ok (.goto (-26), 3) := by decide +kernel
theorem dX1_heatRooms_43 : decode cX1_heatRooms 43 = .ok (.return_, 1) := by decide +kernel
theorem dX1_exchangeHeat_0 : decode cX1_exchangeHeat 0 = .ok (.iconst 0, 1) := by decide +kernel
theorem dX1_exchangeHeat_1 : decode cX1_exchangeHeat 1 = .ok (.istore_n 1, 1) := by decide +kernel
theorem dX1_exchangeHeat_2 : decode cX1_exchangeHeat 2 = .ok (.iload_n 1, 1) := by decide +kernel
theorem dX1_exchangeHeat_3 : decode cX1_exchangeHeat 3 = .ok (.aload_n 0, 1) := by decide +kernel
theorem dX1_exchangeHeat_4 : decode cX1_exchangeHeat 4 = .ok (.getfield 45, 3) := by decide +kernel
theorem dX1_exchangeHeat_7 : decode cX1_exchangeHeat 7 = .ok (.if_icmp .ge 90, 3) := by decide +kernel
theorem dX1_exchangeHeat_10 : decode cX1_exchangeHeat 10 = .ok (.iload_n 1, 1) := by decide +kernel
theorem dX1_exchangeHeat_11 : decode cX1_exchangeHeat 11 = .ok (.iconst 1, 1) := by decide +kernel
theorem dX1_exchangeHeat_12 : decode cX1_exchangeHeat 12 = .ok (.iadd, 1) := by decide +kernel
theorem dX1_exchangeHeat_13 : decode cX1_exchangeHeat 13 = .ok (.istore_n 2, 1) := by decide +kernel
theorem dX1_exchangeHeat_14 : decode cX1_exchangeHeat 14 = .ok (.iload_n 2, 1) := by decide +kernel
theorem dX1_exchangeHeat_15 : decode cX1_exchangeHeat 15 = .ok (.aload_n 0, 1) := by decide +kernel
theorem dX1_exchangeHeat_16 : decode cX1_exchangeHeat 16 = .ok (.getfield 45, 3) := by decide +kernel
theorem dX1_exchangeHeat_19 : decode cX1_exchangeHeat 19 = .ok (.if_icmp .ge 72, 3) := by decide +kernel
theorem dX1_exchangeHeat_22 : decode cX1_exchangeHeat 22 = .ok (.aload_n 0, 1) := by decide +kernel
theorem dX1_exchangeHeat_23 : decode cX1_exchangeHeat 23 = .ok (.iload_n 1, 1) := by decide +kernel
theorem dX1_exchangeHeat_24 : decode cX1_exchangeHeat 24 = .ok (.invokevirtual 52, 3) := by decide +kernel
theorem dX1_exchangeHeat_27 : decode cX1_exchangeHeat 27 = .ok (.astore_n 3, 1) := by decide +kernel
theorem dX1_exchangeHeat_28 : decode cX1_exchangeHeat 28 = .ok (.aload_n 0, 1) := by decide +kernel
theorem dX1_exchangeHeat_29 : decode cX1_exchangeHeat 29 = .ok (.iload_n 2, 1) := by decide +kernel
theorem dX1_exchangeHeat_30 : decode cX1_exchangeHeat 30 = .ok (.invokevirtual 52, 3) := by decide +kernel
theorem dX1_exchangeHeat_33 : decode cX1_exchangeHeat 33 = .ok (.astore 4, 2) := by decide +kernel
theorem dX1_exchangeHeat_35 : decode cX1_exchangeHeat 35 = .ok (.aload_n 3, 1) := by decide +kernel
theorem dX1_exchangeHeat_36 : decode cX1_exchangeHeat 36 = .ok (.ifnull 49, 3) := by decide +kernel
theorem dX1_exchangeHeat_39 : decode cX1_exchangeHeat 39 = .ok (.aload 4, 2) := by decide +kernel
theorem dX1_exchangeHeat_41 : decode cX1_exchangeHeat 41 = .ok (.ifnull 44, 3) := by decide +kernel
theorem dX1_exchangeHeat_44 : decode cX1_exchangeHeat 44 = .ok (.aload_n 3, 1) := by decide +kernel
theorem dX1_exchangeHeat_45 : decode cX1_exchangeHeat 45 = .ok (.getfield 123, 3) := by decide +kernel
theorem dX1_exchangeHeat_48 : decode cX1_exchangeHeat 48 = .ok (.aload 4, 2) := by decide +kernel
theorem dX1_exchangeHeat_50 : decode cX1_exchangeHeat 50 = .ok (.getfield 123, 3) := by decide +kernel
theorem dX1_exchangeHeat_53 : decode cX1_exchangeHeat 53 = .ok (.isub, 1) := by decide +kernel
theorem dX1_exchangeHeat_54 : decode cX1_exchangeHeat 54 = .ok (.istore 5, 2) := by decide +kernel
theorem dX1_exchangeHeat_56 : decode cX1_exchangeHeat 56 = .ok (.aload_n 0, 1) := by decide +kernel
theorem dX1_exchangeHeat_57 : decode cX1_exchangeHeat 57 = .ok (.iload_n 1, 1) := by decide +kernel
theorem dX1_exchangeHeat_58 : decode cX1_exchangeHeat 58 = .ok (.iload_n 2, 1) := by decide +kernel
theorem dX1_exchangeHeat_59 : decode cX1_exchangeHeat 59 = .ok (.invokevirtual 74, 3) := by decide +kernel
theorem dX1_exchangeHeat_62 : decode cX1_exchangeHeat 62 = .ok (.iload 5, 2) := by decide +kernel
theorem dX1_exchangeHeat_64 : decode cX1_exchangeHeat 64 = .ok (.imul, 1) := by decide +kernel
theorem dX1_exchangeHeat_65 : decode cX1_exchangeHeat 65 = .ok (.sipush 1000, 3) := by decide +kernel
theorem dX1_exchangeHeat_68 : decode cX1_exchangeHeat 68 = .ok (.idiv, 1) := by decide +kernel
theorem dX1_exchangeHeat_69 : decode cX1_exchangeHeat 69 = .ok (.istore 6, 2) := by decide +kernel
theorem dX1_exchangeHeat_71 : decode cX1_exchangeHeat 71 = .ok (.aload_n 3, 1) := by decide +kernel
theorem dX1_exchangeHeat_72 : decode cX1_exchangeHeat 72 = .ok (.iload 6, 2) := by decide +kernel
theorem dX1_exchangeHeat_74 : decode cX1_exchangeHeat 74 = .ok (.invokevirtual 126, 3) := by decide +kernel
theorem dX1_exchangeHeat_77 : decode cX1_exchangeHeat 77 = .ok (.aload 4, 2) := by decide +kernel
theorem dX1_exchangeHeat_79 : decode cX1_exchangeHeat 79 = .ok (.iload 6, 2) := by decide +kernel
theorem dX1_exchangeHeat_81 : decode cX1_exchangeHeat 81 = .ok (.ineg, 1) := by decide +kernel
theorem dX1_exchangeHeat_82 : decode cX1_exchangeHeat 82 = .ok (.invokevirtual 126, 3) := by decide +kernel
theorem dX1_exchangeHeat_85 : decode cX1_exchangeHeat 85 = .ok (.iinc 2 1, 3) := by decide +kernel
theorem dX1_exchangeHeat_88 : decode cX1_exchangeHeat 88 = .ok (.goto (-74), 3) := by decide +kernel
theorem dX1_exchangeHeat_91 : decode cX1_exchangeHeat 91 = .ok (.iinc 1 1, 3) := by decide +kernel
theorem dX1_exchangeHeat_94 : decode cX1_exchangeHeat 94 = .ok (.goto (-92), 3) := by decide +kernel
theorem dX1_exchangeHeat_97 : decode cX1_exchangeHeat 97 = .ok (.return_, 1) := by decide +kernel
theorem dX1_settle_0 : decode cX1_settle 0 = .ok (.aload_n 1, 1) := by decide +kernel
theorem dX1_settle_1 : decode cX1_settle 1 = .ok (.getfield 129, 3) := by decide +kernel
theorem dX1_settle_4 : decode cX1_settle 4 = .ok (.istore_n 2, 1) := by decide +kernel
theorem dX1_settle_5 : decode cX1_settle 5 = .ok (.aload_n 1, 1) := by decide +kernel
theorem dX1_settle_6 : decode cX1_settle 6 = .ok (.invokevirtual 133, 3) := by decide +kernel
theorem dX1_settle_9 : decode cX1_settle 9 = .ok (.istore_n 3, 1) := by decide +kernel
theorem dX1_settle_10 : decode cX1_settle 10 = .ok (.iload_n 3, 1) := by decide +kernel
theorem dX1_settle_11 : decode cX1_settle 11 = .ok (.aload_n 0, 1) := by decide +kernel
theorem dX1_settle_12 : decode cX1_settle 12 = .ok (.iconst 5, 1) := by decide +kernel
theorem dX1_settle_13 : decode cX1_settle 13 = .ok (.invokevirtual 83, 3) := by decide +kernel
theorem dX1_settle_16 : decode cX1_settle 16 = .ok (.if_icmp .le 8, 3) := by decide +kernel
theorem dX1_settle_19 : decode cX1_settle 19 = .ok (.aload_n 1, 1) := by decide +kernel
theorem dX1_settle_20 : decode cX1_settle 20 = .ok (.iconst 1, 1) := by decide +kernel
theorem dX1_settle_21 : decode cX1_settle 21 = .ok (.putfield 136, 3) := by decide +kernel
theorem dX1_settle_24 : decode cX1_settle 24 = .ok (.aload_n 1, 1) := by decide +kernel
theorem dX1_settle_25 : decode cX1_settle 25 = .ok (.dup, 1) := by decide +kernel
theorem dX1_settle_26 : decode cX1_settle 26 = .ok (.getfield 139, 3) := by decide +kernel
theorem dX1_settle_29 : decode cX1_settle 29 = .ok (.iload_n 3, 1) := by decide +kernel
theorem dX1_settle_30 : decode cX1_settle 30 = .ok (.aload_n 1, 1) := by decide +kernel
theorem dX1_settle_31 : decode cX1_settle 31 = .ok (.getfield 139, 3) := by decide +kernel
theorem dX1_settle_34 : decode cX1_settle 34 = .ok (.isub, 1) := by decide +kernel
theorem dX1_settle_35 : decode cX1_settle 35 = .ok (.aload_n 0, 1) := by decide +kernel
theorem dX1_settle_36 : decode cX1_settle 36 = .ok (.iconst 0, 1) := by decide +kernel
theorem dX1_settle_37 : decode cX1_settle 37 = .ok (.invokevirtual 83, 3) := by decide +kernel
theorem dX1_settle_40 : decode cX1_settle 40 = .ok (.imul, 1) := by decide +kernel
theorem dX1_settle_41 : decode cX1_settle 41 = .ok (.bipush 100, 2) := by decide +kernel
theorem dX1_settle_43 : decode cX1_settle 43 = .ok (.idiv, 1) := by decide +kernel
theorem dX1_settle_44 : decode cX1_settle 44 = .ok (.iadd, 1) := by decide +kernel
theorem dX1_settle_45 : decode cX1_settle 45 = .ok (.putfield 139, 3) := by decide +kernel
theorem dX1_settle_48 : decode cX1_settle 48 = .ok (.aload_n 1, 1) := by decide +kernel
theorem dX1_settle_49 : decode cX1_settle 49 = .ok (.getfield 129, 3) := by decide +kernel
theorem dX1_settle_52 : decode cX1_settle 52 = .ok (.ifCond .ne 18, 3) := by decide +kernel
theorem dX1_settle_55 : decode cX1_settle 55 = .ok (.aload_n 1, 1) := by decide +kernel
theorem dX1_settle_56 : decode cX1_settle 56 = .ok (.invokevirtual 142, 3) := by decide +kernel
theorem dX1_settle_59 : decode cX1_settle 59 = .ok (.ifCond .eq 11, 3) := by decide +kernel
theorem dX1_settle_62 : decode cX1_settle 62 = .ok (.aload_n 0, 1) := by decide +kernel
theorem dX1_settle_63 : decode cX1_settle 63 = .ok (.aload_n 1, 1) := by decide +kernel
theorem dX1_settle_64 : decode cX1_settle 64 = .ok (.invokevirtual 146, 3) := by decide +kernel
theorem dX1_settle_67 : decode cX1_settle 67 = .ok (.goto 26, 3) := by decide +kernel
theorem dX1_settle_70 : decode cX1_settle 70 = .ok (.aload_n 1, 1) := by decide +kernel
theorem dX1_settle_71 : decode cX1_settle 71 = .ok (.getfield 129, 3) := by decide +kernel
theorem dX1_settle_74 : decode cX1_settle 74 = .ok (.ifCond .eq 19, 3) := by decide +kernel
theorem dX1_settle_77 : decode cX1_settle 77 = .ok (.aload_n 1, 1) := by decide +kernel
theorem dX1_settle_78 : decode cX1_settle 78 = .ok (.invokevirtual 149, 3) := by decide +kernel
theorem dX1_settle_81 : decode cX1_settle 81 = .ok (.ifCond .eq 12, 3) := by decide +kernel
theorem dX1_settle_84 : decode cX1_settle 84 = .ok (.aload_n 1, 1) := by decide +kernel
theorem dX1_settle_85 : decode cX1_settle 85 = .ok (.aload_n 0, 1) := by decide +kernel
theorem dX1_settle_86 : decode cX1_settle 86 = .ok (.iconst 2, 1) := by decide +kernel
theorem dX1_settle_87 : decode cX1_settle 87 = .ok (.invokevirtual 83, 3) := by decide +kernel
theorem dX1_settle_90 : decode cX1_settle 90 = .ok (.invokevirtual 152, 3) := by decide +kernel
theorem dX1_settle_93 : decode cX1_settle 93 = .ok (.aload_n 1, 1) := by decide +kernel
theorem dX1_settle_94 : decode cX1_settle 94 = .ok (.aload_n 1, 1) := by decide +kernel
theorem dX1_settle_95 : decode cX1_settle 95 = .ok (.getfield 129, 3) := by decide +kernel
theorem dX1_settle_98 : decode cX1_settle 98 = .ok (.ifCond .eq 19, 3) := by decide +kernel
theorem dX1_settle_101 : decode cX1_settle 101 = .ok (.aload_n 1, 1) := by decide +kernel
theorem dX1_settle_102 : decode cX1_settle 102 = .ok (.invokevirtual 149, 3) := by decide +kernel
theorem dX1_settle_105 : decode cX1_settle 105 = .ok (.ifCond .eq 12, 3) := by decide +kernel
theorem dX1_settle_108 : decode cX1_settle 108 = .ok (.aload_n 1, 1) := by decide +kernel
theorem dX1_settle_109 : decode cX1_settle 109 = .ok (.getfield 80, 3) := by decide +kernel
theorem dX1_settle_112 : decode cX1_settle 112 = .ok (.iconst 1, 1) := by decide +kernel
theorem dX1_settle_113 : decode cX1_settle 113 = .ok (.iadd, 1) := by decide +kernel
theorem dX1_settle_114 : decode cX1_settle 114 = .ok (.goto 4, 3) := by decide +kernel
theorem dX1_settle_117 : decode cX1_settle 117 = .ok (.iconst 0, 1) := by decide +kernel
theorem dX1_settle_118 : decode cX1_settle 118 = .ok (.putfield 80, 3) := by decide +kernel
theorem dX1_settle_121 : decode cX1_settle 121 = .ok (.aload_n 1, 1) := by decide +kernel
theorem dX1_settle_122 : decode cX1_settle 122 = .ok (.getfield 129, 3) := by decide +kernel
theorem dX1_settle_125 : decode cX1_settle 125 = .ok (.iload_n 2, 1) := by decide +kernel
theorem dX1_settle_126 : decode cX1_settle 126 = .ok (.if_icmp .eq 7, 3) := by decide +kernel
theorem dX1_settle_129 : decode cX1_settle 129 = .ok (.iconst 1, 1) := by decide +kernel
theorem dX1_settle_130 : decode cX1_settle 130 = .ok (.goto 4, 3) := by decide +kernel
theorem dX1_settle_133 : decode cX1_settle 133 = .ok (.iconst 0, 1) := by decide +kernel
theorem dX1_settle_134 : decode cX1_settle 134 = .ok (.ireturn, 1) := by decide +kernel
theorem dX1_close_0 : decode cX1_close 0 = .ok (.aload_n 1, 1) := by decide +kernel
theorem dX1_close_1 : decode cX1_close 1 = .ok (.getfield 155, 3) := by decide +kernel
theorem dX1_close_4 : decode cX1_close 4 = .ok (.ifCond .le 34, 3) := by decide +kernel
theorem dX1_close_7 : decode cX1_close 7 = .ok (.aload_n 0, 1) := by decide +kernel
theorem dX1_close_8 : decode cX1_close 8 = .ok (.getfield 49, 3) := by decide +kernel
theorem dX1_close_11 : decode cX1_close 11 = .ok (.aload_n 1, 1) := by decide +kernel
theorem dX1_close_12 : decode cX1_close 12 = .ok (.getfield 158, 3) := by decide +kernel
theorem dX1_close_15 : decode cX1_close 15 = .ok (.isub, 1) := by decide +kernel
theorem dX1_close_16 : decode cX1_close 16 = .ok (.aload_n 0, 1) := by decide +kernel
theorem dX1_close_17 : decode cX1_close 17 = .ok (.iconst 3, 1) := by decide +kernel
theorem dX1_close_18 : decode cX1_close 18 = .ok (.invokevirtual 83, 3) := by decide +kernel
theorem dX1_close_21 : decode cX1_close 21 = .ok (.if_icmp .ge 17, 3) := by decide +kernel
theorem dX1_close_24 : decode cX1_close 24 = .ok (.aload_n 1, 1) := by decide +kernel
theorem dX1_close_25 : decode cX1_close 25 = .ok (.dup, 1) := by decide +kernel
theorem dX1_close_26 : decode cX1_close 26 = .ok (.getfield 91, 3) := by decide +kernel
theorem dX1_close_29 : decode cX1_close 29 = .ok (.aload_n 0, 1) := by decide +kernel
theorem dX1_close_30 : decode cX1_close 30 = .ok (.iconst 4, 1) := by decide +kernel
theorem dX1_close_31 : decode cX1_close 31 = .ok (.invokevirtual 83, 3) := by decide +kernel
theorem dX1_close_34 : decode cX1_close 34 = .ok (.iadd, 1) := by decide +kernel
theorem dX1_close_35 : decode cX1_close 35 = .ok (.putfield 91, 3) := by decide +kernel
theorem dX1_close_38 : decode cX1_close 38 = .ok (.aload_n 1, 1) := by decide +kernel
theorem dX1_close_39 : decode cX1_close 39 = .ok (.iconst 1, 1) := by decide +kernel
theorem dX1_close_40 : decode cX1_close 40 = .ok (.putfield 129, 3) := by decide +kernel
theorem dX1_close_43 : decode cX1_close 43 = .ok (.aload_n 1, 1) := by decide +kernel
theorem dX1_close_44 : decode cX1_close 44 = .ok (.dup, 1) := by decide +kernel
theorem dX1_close_45 : decode cX1_close 45 = .ok (.getfield 155, 3) := by decide +kernel
theorem dX1_close_48 : decode cX1_close 48 = .ok (.iconst 1, 1) := by decide +kernel
theorem dX1_close_49 : decode cX1_close 49 = .ok (.iadd, 1) := by decide +kernel
theorem dX1_close_50 : decode cX1_close 50 = .ok (.putfield 155, 3) := by decide +kernel
theorem dX1_close_53 : decode cX1_close 53 = .ok (.aload_n 1, 1) := by decide +kernel
theorem dX1_close_54 : decode cX1_close 54 = .ok (.aload_n 0, 1) := by decide +kernel
theorem dX1_close_55 : decode cX1_close 55 = .ok (.getfield 49, 3) := by decide +kernel
theorem dX1_close_58 : decode cX1_close 58 = .ok (.putfield 158, 3) := by decide +kernel
theorem dX1_close_61 : decode cX1_close 61 = .ok (.aload_n 1, 1) := by decide +kernel
theorem dX1_close_62 : decode cX1_close 62 = .ok (.dup, 1) := by decide +kernel
theorem dX1_close_63 : decode cX1_close 63 = .ok (.getfield 161, 3) := by decide +kernel
theorem dX1_close_66 : decode cX1_close 66 = .ok (.aload_n 1, 1) := by decide +kernel
theorem dX1_close_67 : decode cX1_close 67 = .ok (.getfield 164, 3) := by decide +kernel
theorem dX1_close_70 : decode cX1_close 70 = .ok (.iadd, 1) := by decide +kernel
theorem dX1_close_71 : decode cX1_close 71 = .ok (.putfield 161, 3) := by decide +kernel
theorem dX1_close_74 : decode cX1_close 74 = .ok (.aload_n 1, 1) := by decide +kernel
theorem dX1_close_75 : decode cX1_close 75 = .ok (.getfield 161, 3) := by decide +kernel
theorem dX1_close_78 : decode cX1_close 78 = .ok (.aload_n 0, 1) := by decide +kernel
theorem dX1_close_79 : decode cX1_close 79 = .ok (.iconst 1, 1) := by decide +kernel
theorem dX1_close_80 : decode cX1_close 80 = .ok (.invokevirtual 83, 3) := by decide +kernel
theorem dX1_close_83 : decode cX1_close 83 = .ok (.if_icmp .lt 8, 3) := by decide +kernel
theorem dX1_close_86 : decode cX1_close 86 = .ok (.aload_n 1, 1) := by decide +kernel
theorem dX1_close_87 : decode cX1_close 87 = .ok (.iconst 1, 1) := by decide +kernel
theorem dX1_close_88 : decode cX1_close 88 = .ok (.putfield 167, 3) := by decide +kernel
theorem dX1_close_91 : decode cX1_close 91 = .ok (.return_, 1) := by decide +kernel
theorem dX2_init_0 : decode cX2_init 0 = .ok (.aload_n 0, 1) := by decide +kernel
theorem dX2_init_1 : decode cX2_init 1 = .ok (.invokespecial 3, 3) := by decide +kernel
theorem dX2_init_4 : decode cX2_init 4 = .ok (.aload_n 0, 1) := by decide +kernel
theorem dX2_init_5 : decode cX2_init 5 = .ok (.bipush 6, 2) := by decide +kernel
theorem dX2_init_7 : decode cX2_init 7 = .ok (.anewarray 9, 3) := by decide +kernel
theorem dX2_init_10 : decode cX2_init 10 = .ok (.putfield 11, 3) := by decide +kernel
theorem dX2_init_13 : decode cX2_init 13 = .ok (.iconst 0, 1) := by decide +kernel
theorem dX2_init_14 : decode cX2_init 14 = .ok (.istore_n 1, 1) := by decide +kernel
theorem dX2_init_15 : decode cX2_init 15 = .ok (.iload_n 1, 1) := by decide +kernel
theorem dX2_init_16 : decode cX2_init 16 = .ok (.aload_n 0, 1) := by decide +kernel
theorem dX2_init_17 : decode cX2_init 17 = .ok (.getfield 11, 3) := by decide +kernel
theorem dX2_init_20 : decode cX2_init 20 = .ok (.arraylength, 1) := by decide +kernel
theorem dX2_init_21 : decode cX2_init 21 = .ok (.if_icmp .ge 22, 3) := by decide +kernel
theorem dX2_init_24 : decode cX2_init 24 = .ok (.aload_n 0, 1) := by decide +kernel
theorem dX2_init_25 : decode cX2_init 25 = .ok (.getfield 11, 3) := by decide +kernel
theorem dX2_init_28 : decode cX2_init 28 = .ok (.iload_n 1, 1) := by decide +kernel
theorem dX2_init_29 : decode cX2_init 29 = .ok (.new 9, 3) := by decide +kernel
theorem dX2_init_32 : decode cX2_init 32 = .ok (.dup, 1) := by decide +kernel
theorem dX2_init_33 : decode cX2_init 33 = .ok (.invokespecial 17, 3) := by decide +kernel
theorem dX2_init_36 : decode cX2_init 36 = .ok (.aastore, 1) := by decide +kernel
theorem dX2_init_37 : decode cX2_init 37 = .ok (.iinc 1 1, 3) := by decide +kernel
theorem dX2_init_40 : decode cX2_init 40 = .ok (.goto (-25), 3) := by decide +kernel
theorem dX2_init_43 : decode cX2_init 43 = .ok (.return_, 1) := by decide +kernel
theorem dX2_save_0 : decode cX2_save 0 = .ok (.aload_n 0, 1) := by decide +kernel
theorem dX2_save_1 : decode cX2_save 1 = .ok (.aload_n 0, 1) := by decide +kernel
theorem dX2_save_2 : decode cX2_save 2 = .ok (.getfield 18, 3) := by decide +kernel
theorem dX2_save_5 : decode cX2_save 5 = .ok (.invokevirtual 22, 3) := by decide +kernel
theorem dX2_save_8 : decode cX2_save 8 = .ok (.astore_n 2, 1) := by decide +kernel
theorem dX2_save_9 : decode cX2_save 9 = .ok (.aload_n 2, 1) := by decide +kernel
theorem dX2_save_10 : decode cX2_save 10 = .ok (.ifnull 36, 3) := by decide +kernel
theorem dX2_save_13 : decode cX2_save 13 = .ok (.aload_n 2, 1) := by decide +kernel
theorem dX2_save_14 : decode cX2_save 14 = .ok (.aload_n 1, 1) := by decide +kernel
theorem dX2_save_15 : decode cX2_save 15 = .ok (.invokevirtual 26, 3) := by decide +kernel
theorem dX2_save_18 : decode cX2_save 18 = .ok (.aload_n 0, 1) := by decide +kernel
theorem dX2_save_19 : decode cX2_save 19 = .ok (.aload_n 0, 1) := by decide +kernel
theorem dX2_save_20 : decode cX2_save 20 = .ok (.getfield 18, 3) := by decide +kernel
theorem dX2_save_23 : decode cX2_save 23 = .ok (.iconst 1, 1) := by decide +kernel
theorem dX2_save_24 : decode cX2_save 24 = .ok (.iadd, 1) := by decide +kernel
theorem dX2_save_25 : decode cX2_save 25 = .ok (.bipush 6, 2) := by decide +kernel
theorem dX2_save_27 : decode cX2_save 27 = .ok (.irem, 1) := by decide +kernel
theorem dX2_save_28 : decode cX2_save 28 = .ok (.putfield 18, 3) := by decide +kernel
theorem dX2_save_31 : decode cX2_save 31 = .ok (.aload_n 0, 1) := by decide +kernel
theorem dX2_save_32 : decode cX2_save 32 = .ok (.aload_n 0, 1) := by decide +kernel
theorem dX2_save_33 : decode cX2_save 33 = .ok (.getfield 30, 3) := by decide +kernel
theorem dX2_save_36 : decode cX2_save 36 = .ok (.iconst 1, 1) := by decide +kernel
theorem dX2_save_37 : decode cX2_save 37 = .ok (.iadd, 1) := by decide +kernel
theorem dX2_save_38 : decode cX2_save 38 = .ok (.bipush 6, 2) := by decide +kernel
theorem dX2_save_40 : decode cX2_save 40 = .ok (.invokestatic 33, 3) := by decide +kernel
theorem dX2_save_43 : decode cX2_save 43 = .ok (.putfield 30, 3) := by decide +kernel
theorem dX2_save_46 : decode cX2_save 46 = .ok (.return_, 1) := by decide +kernel
theorem dX2_restore_0 : decode cX2_restore 0 = .ok (.aload_n 0, 1) := by decide +kernel
theorem dX2_restore_1 : decode cX2_restore 1 = .ok (.getfield 18, 3) := by decide +kernel
theorem dX2_restore_4 : decode cX2_restore 4 = .ok (.bipush 6, 2) := by decide +kernel
theorem dX2_restore_6 : decode cX2_restore 6 = .ok (.iadd, 1) := by decide +kernel
theorem dX2_restore_7 : decode cX2_restore 7 = .ok (.iconst 1, 1) := by decide +kernel
theorem dX2_restore_8 : decode cX2_restore 8 = .ok (.isub, 1) := by decide +kernel
theorem dX2_restore_9 : decode cX2_restore 9 = .ok (.bipush 6, 2) := by decide +kernel
theorem dX2_restore_11 : decode cX2_restore 11 = .ok (.irem, 1) := by decide +kernel
theorem dX2_restore_12 : decode cX2_restore 12 = .ok (.istore_n 2, 1) := by decide +kernel
theorem dX2_restore_13 : decode cX2_restore 13 = .ok (.aload_n 0, 1) := by decide +kernel
theorem dX2_restore_14 : decode cX2_restore 14 = .ok (.iload_n 2, 1) := by decide +kernel
theorem dX2_restore_15 : decode cX2_restore 15 = .ok (.invokevirtual 22, 3) := by decide +kernel
theorem dX2_restore_18 : decode cX2_restore 18 = .ok (.astore_n 3, 1) := by decide +kernel
theorem dX2_restore_19 : decode cX2_restore 19 = .ok (.aload_n 3, 1) := by decide +kernel
theorem dX2_restore_20 : decode cX2_restore 20 = .ok (.ifnull 30, 3) := by decide +kernel
theorem dX2_restore_23 : decode cX2_restore 23 = .ok (.aload_n 0, 1) := by decide +kernel
theorem dX2_restore_24 : decode cX2_restore 24 = .ok (.getfield 30, 3) := by decide +kernel
theorem dX2_restore_27 : decode cX2_restore 27 = .ok (.ifCond .le 23, 3) := by decide +kernel
theorem dX2_restore_30 : decode cX2_restore 30 = .ok (.aload_n 1, 1) := by decide +kernel
theorem dX2_restore_31 : decode cX2_restore 31 = .ok (.aload_n 3, 1) := by decide +kernel
theorem dX2_restore_32 : decode cX2_restore 32 = .ok (.invokevirtual 26, 3) := by decide +kernel
theorem dX2_restore_35 : decode cX2_restore 35 = .ok (.aload_n 0, 1) := by decide +kernel
theorem dX2_restore_36 : decode cX2_restore 36 = .ok (.iload_n 2, 1) := by decide +kernel
theorem dX2_restore_37 : decode cX2_restore 37 = .ok (.putfield 18, 3) := by decide +kernel
theorem dX2_restore_40 : decode cX2_restore 40 = .ok (.aload_n 0, 1) := by decide +kernel
theorem dX2_restore_41 : decode cX2_restore 41 = .ok (.dup, 1) := by decide +kernel
theorem dX2_restore_42 : decode cX2_restore 42 = .ok (.getfield 30, 3) := by decide +kernel
theorem dX2_restore_45 : decode cX2_restore 45 = .ok (.iconst 1, 1) := by decide +kernel
theorem dX2_restore_46 : decode cX2_restore 46 = .ok (.isub, 1) := by decide +kernel
theorem dX2_restore_47 : decode cX2_restore 47 = .ok (.putfield 30, 3) := by decide +kernel
theorem dX2_restore_50 : decode cX2_restore 50 = .ok (.return_, 1) := by decide +kernel
theorem dX2_stateAt_0 : decode cX2_stateAt 0 = .ok (.iload_n 1, 1) := by decide +kernel
theorem dX2_stateAt_1 : decode cX2_stateAt 1 = .ok (.ifCond .lt 21, 3) := by decide +kernel
theorem dX2_stateAt_4 : decode cX2_stateAt 4 = .ok (.iload_n 1, 1) := by decide +kernel
theorem dX2_stateAt_5 : decode cX2_stateAt 5 = .ok (.aload_n 0, 1) := by decide +kernel
theorem dX2_stateAt_6 : decode cX2_stateAt 6 = .ok (.getfield 11, 3) := by decide +kernel
theorem dX2_stateAt_9 : decode cX2_stateAt 9 = .ok (.arraylength, 1) := by decide +kernel
theorem dX2_stateAt_10 : decode cX2_stateAt 10 = .ok (.if_icmp .ge 12, 3) := by decide +kernel
theorem dX2_stateAt_13 : decode cX2_stateAt 13 = .ok (.aload_n 0, 1) := by decide +kernel
theorem dX2_stateAt_14 : decode cX2_stateAt 14 = .ok (.getfield 11, 3) := by decide +kernel
theorem dX2_stateAt_17 : decode cX2_stateAt 17 = .ok (.iload_n 1, 1) := by decide +kernel
theorem dX2_stateAt_18 : decode cX2_stateAt 18 = .ok (.aaload, 1) := by decide +kernel
theorem dX2_stateAt_19 : decode cX2_stateAt 19 = .ok (.goto 4, 3) := by decide +kernel
theorem dX2_stateAt_22 : decode cX2_stateAt 22 = .ok (.aconst_null, 1) := by decide +kernel
theorem dX2_stateAt_23 : decode cX2_stateAt 23 = .ok (.areturn, 1) := by decide +kernel
theorem dX3_init_0 : decode cX3_init 0 = .ok (.aload_n 0, 1) := by decide +kernel
theorem dX3_init_1 : decode cX3_init 1 = .ok (.invokespecial 3, 3) := by decide +kernel
theorem dX3_init_4 : decode cX3_init 4 = .ok (.aload_n 0, 1) := by decide +kernel
theorem dX3_init_5 : decode cX3_init 5 = .ok (.new 9, 3) := by decide +kernel
theorem dX3_init_8 : decode cX3_init 8 = .ok (.dup, 1) := by decide +kernel
theorem dX3_init_9 : decode cX3_init 9 = .ok (.invokespecial 11, 3) := by decide +kernel
theorem dX3_init_12 : decode cX3_init 12 = .ok (.putfield 12, 3) := by decide +kernel
theorem dX3_init_15 : decode cX3_init 15 = .ok (.return_, 1) := by decide +kernel
theorem dX3_begin_0 : decode cX3_begin 0 = .ok (.aload_n 0, 1) := by decide +kernel
theorem dX3_begin_1 : decode cX3_begin 1 = .ok (.iload_n 1, 1) := by decide +kernel
theorem dX3_begin_2 : decode cX3_begin 2 = .ok (.putfield 18, 3) := by decide +kernel
theorem dX3_begin_5 : decode cX3_begin 5 = .ok (.aload_n 0, 1) := by decide +kernel
theorem dX3_begin_6 : decode cX3_begin 6 = .ok (.iload_n 2, 1) := by decide +kernel
theorem dX3_begin_7 : decode cX3_begin 7 = .ok (.putfield 22, 3) := by decide +kernel
theorem dX3_begin_10 : decode cX3_begin 10 = .ok (.aload_n 0, 1) := by decide +kernel
theorem dX3_begin_11 : decode cX3_begin 11 = .ok (.iload_n 3, 1) := by decide +kernel
theorem dX3_begin_12 : decode cX3_begin 12 = .ok (.putfield 25, 3) := by decide +kernel
theorem dX3_begin_15 : decode cX3_begin 15 = .ok (.aload_n 0, 1) := by decide +kernel
theorem dX3_begin_16 : decode cX3_begin 16 = .ok (.iload_n 1, 1) := by decide +kernel
theorem dX3_begin_17 : decode cX3_begin 17 = .ok (.iload 4, 2) := by decide +kernel
theorem dX3_begin_19 : decode cX3_begin 19 = .ok (.imul, 1) := by decide +kernel
theorem dX3_begin_20 : decode cX3_begin 20 = .ok (.putfield 28, 3) := by decide +kernel
theorem dX3_begin_23 : decode cX3_begin 23 = .ok (.aload_n 0, 1) := by decide +kernel
theorem dX3_begin_24 : decode cX3_begin 24 = .ok (.sipush 20000, 3) := by decide +kernel
theorem dX3_begin_27 : decode cX3_begin 27 = .ok (.putfield 31, 3) := by decide +kernel
theorem dX3_begin_30 : decode cX3_begin 30 = .ok (.aload_n 0, 1) := by decide +kernel
theorem dX3_begin_31 : decode cX3_begin 31 = .ok (.sipush 1000, 3) := by decide +kernel
theorem dX3_begin_34 : decode cX3_begin 34 = .ok (.putfield 34, 3) := by decide +kernel
theorem dX3_begin_37 : decode cX3_begin 37 = .ok (.aload_n 0, 1) := by decide +kernel
theorem dX3_begin_38 : decode cX3_begin 38 = .ok (.aload_n 0, 1) := by decide +kernel
theorem dX3_begin_39 : decode cX3_begin 39 = .ok (.invokevirtual 37, 3) := by decide +kernel
theorem dX3_begin_42 : decode cX3_begin 42 = .ok (.putfield 41, 3) := by decide +kernel
theorem dX3_begin_45 : decode cX3_begin 45 = .ok (.aload_n 0, 1) := by decide +kernel
theorem dX3_begin_46 : decode cX3_begin 46 = .ok (.iconst 0, 1) := by decide +kernel
theorem dX3_begin_47 : decode cX3_begin 47 = .ok (.putfield 44, 3) := by decide +kernel
theorem dX3_begin_50 : decode cX3_begin 50 = .ok (.aload_n 0, 1) := by decide +kernel
theorem dX3_begin_51 : decode cX3_begin 51 = .ok (.iconst 0, 1) := by decide +kernel
theorem dX3_begin_52 : decode cX3_begin 52 = .ok (.putfield 48, 3) := by decide +kernel
theorem dX3_begin_55 : decode cX3_begin 55 = .ok (.aload_n 0, 1) := by decide +kernel
theorem dX3_begin_56 : decode cX3_begin 56 = .ok (.iconst 0, 1) := by decide +kernel
theorem dX3_begin_57 : decode cX3_begin 57 = .ok (.putfield 51, 3) := by decide +kernel
theorem dX3_begin_60 : decode cX3_begin 60 = .ok (.aload_n 0, 1) := by decide +kernel
theorem dX3_begin_61 : decode cX3_begin 61 = .ok (.iconst 0, 1) := by decide +kernel
theorem dX3_begin_62 : decode cX3_begin 62 = .ok (.putfield 54, 3) := by decide +kernel
theorem dX3_begin_65 : decode cX3_begin 65 = .ok (.aload_n 0, 1) := by decide +kernel
theorem dX3_begin_66 : decode cX3_begin 66 = .ok (.iconst 0, 1) := by decide +kernel
theorem dX3_begin_67 : decode cX3_begin 67 = .ok (.putfield 57, 3) := by decide +kernel
theorem dX3_begin_70 : decode cX3_begin 70 = .ok (.aload_n 0, 1) := by decide +kernel
theorem dX3_begin_71 : decode cX3_begin 71 = .ok (.iconst 0, 1) := by decide +kernel
theorem dX3_begin_72 : decode cX3_begin 72 = .ok (.putfield 60, 3) := by decide +kernel
theorem dX3_begin_75 : decode cX3_begin 75 = .ok (.aload_n 0, 1) := by decide +kernel
theorem dX3_begin_76 : decode cX3_begin 76 = .ok (.ldc 63, 2) := by decide +kernel
theorem dX3_begin_78 : decode cX3_begin 78 = .ok (.putfield 64, 3) := by decide +kernel
theorem dX3_begin_81 : decode cX3_begin 81 = .ok (.aload_n 0, 1) := by decide +kernel
theorem dX3_begin_82 : decode cX3_begin 82 = .ok (.iconst 0, 1) := by decide +kernel
theorem dX3_begin_83 : decode cX3_begin 83 = .ok (.putfield 67, 3) := by decide +kernel
theorem dX3_begin_86 : decode cX3_begin 86 = .ok (.aload_n 0, 1) := by decide +kernel
theorem dX3_begin_87 : decode cX3_begin 87 = .ok (.iconst 0, 1) := by decide +kernel
theorem dX3_begin_88 : decode cX3_begin 88 = .ok (.putfield 70, 3) := by decide +kernel
theorem dX3_begin_91 : decode cX3_begin 91 = .ok (.aload_n 0, 1) := by decide +kernel
theorem dX3_begin_92 : decode cX3_begin 92 = .ok (.iconst 0, 1) := by decide +kernel
theorem dX3_begin_93 : decode cX3_begin 93 = .ok (.putfield 73, 3) := by decide +kernel
theorem dX3_begin_96 : decode cX3_begin 96 = .ok (.aload_n 0, 1) := by decide +kernel
theorem dX3_begin_97 : decode cX3_begin 97 = .ok (.getfield 12, 3) := by decide +kernel
theorem dX3_begin_100 : decode cX3_begin 100 = .ok (.aload_n 0, 1) := by decide +kernel
theorem dX3_begin_101 : decode cX3_begin 101 = .ok (.getfield 28, 3) := by decide +kernel
theorem dX3_begin_104 : decode cX3_begin 104 = .ok (.invokevirtual 76, 3) := by decide +kernel
theorem dX3_begin_107 : decode cX3_begin 107 = .ok (.return_, 1) := by decide +kernel
theorem dX3_copyFrom_0 : decode cX3_copyFrom 0 = .ok (.aload_n 0, 1) := by decide +kernel
theorem dX3_copyFrom_1 : decode cX3_copyFrom 1 = .ok (.getfield 12, 3) := by decide +kernel
theorem dX3_copyFrom_4 : decode cX3_copyFrom 4 = .ok (.aload_n 1, 1) := by decide +kernel
theorem dX3_copyFrom_5 : decode cX3_copyFrom 5 = .ok (.getfield 12, 3) := by decide +kernel
theorem dX3_copyFrom_8 : decode cX3_copyFrom 8 = .ok (.invokevirtual 80, 3) := by decide +kernel
theorem dX3_copyFrom_11 : decode cX3_copyFrom 11 = .ok (.aload_n 0, 1) := by decide +kernel
theorem dX3_copyFrom_12 : decode cX3_copyFrom 12 = .ok (.aload_n 1, 1) := by decide +kernel
theorem dX3_copyFrom_13 : decode cX3_copyFrom 13 = .ok (.getfield 18, 3) := by decide +kernel
theorem dX3_copyFrom_16 : decode cX3_copyFrom 16 = .ok (.putfield 18, 3) := by decide +kernel
theorem dX3_copyFrom_19 : decode cX3_copyFrom 19 = .ok (.aload_n 0, 1) := by decide +kernel
theorem dX3_copyFrom_20 : decode cX3_copyFrom 20 = .ok (.aload_n 1, 1) := by decide +kernel
theorem dX3_copyFrom_21 : decode cX3_copyFrom 21 = .ok (.getfield 22, 3) := by decide +kernel
theorem dX3_copyFrom_24 : decode cX3_copyFrom 24 = .ok (.putfield 22, 3) := by decide +kernel
theorem dX3_copyFrom_27 : decode cX3_copyFrom 27 = .ok (.aload_n 0, 1) := by decide +kernel
theorem dX3_copyFrom_28 : decode cX3_copyFrom 28 = .ok (.aload_n 1, 1) := by decide +kernel
theorem dX3_copyFrom_29 : decode cX3_copyFrom 29 = .ok (.getfield 25, 3) := by decide +kernel
theorem dX3_copyFrom_32 : decode cX3_copyFrom 32 = .ok (.putfield 25, 3) := by decide +kernel
theorem dX3_copyFrom_35 : decode cX3_copyFrom 35 = .ok (.aload_n 0, 1) := by decide +kernel
theorem dX3_copyFrom_36 : decode cX3_copyFrom 36 = .ok (.aload_n 1, 1) := by decide +kernel
theorem dX3_copyFrom_37 : decode cX3_copyFrom 37 = .ok (.getfield 28, 3) := by decide +kernel
theorem dX3_copyFrom_40 : decode cX3_copyFrom 40 = .ok (.putfield 28, 3) := by decide +kernel
theorem dX3_copyFrom_43 : decode cX3_copyFrom 43 = .ok (.aload_n 0, 1) := by decide +kernel
theorem dX3_copyFrom_44 : decode cX3_copyFrom 44 = .ok (.aload_n 1, 1) := by decide +kernel
theorem dX3_copyFrom_45 : decode cX3_copyFrom 45 = .ok (.getfield 31, 3) := by decide +kernel
theorem dX3_copyFrom_48 : decode cX3_copyFrom 48 = .ok (.putfield 31, 3) := by decide +kernel
theorem dX3_copyFrom_51 : decode cX3_copyFrom 51 = .ok (.aload_n 0, 1) := by decide +kernel
theorem dX3_copyFrom_52 : decode cX3_copyFrom 52 = .ok (.aload_n 1, 1) := by decide +kernel
theorem dX3_copyFrom_53 : decode cX3_copyFrom 53 = .ok (.getfield 34, 3) := by decide +kernel
theorem dX3_copyFrom_56 : decode cX3_copyFrom 56 = .ok (.putfield 34, 3) := by decide +kernel
theorem dX3_copyFrom_59 : decode cX3_copyFrom 59 = .ok (.aload_n 0, 1) := by decide +kernel
theorem dX3_copyFrom_60 : decode cX3_copyFrom 60 = .ok (.aload_n 1, 1) := by decide +kernel
theorem dX3_copyFrom_61 : decode cX3_copyFrom 61 = .ok (.getfield 41, 3) := by decide +kernel
theorem dX3_copyFrom_64 : decode cX3_copyFrom 64 = .ok (.putfield 41, 3) := by decide +kernel
theorem dX3_copyFrom_67 : decode cX3_copyFrom 67 = .ok (.aload_n 0, 1) := by decide +kernel
theorem dX3_copyFrom_68 : decode cX3_copyFrom 68 = .ok (.aload_n 1, 1) := by decide +kernel
theorem dX3_copyFrom_69 : decode cX3_copyFrom 69 = .ok (.getfield 44, 3) := by decide +kernel
theorem dX3_copyFrom_72 : decode cX3_copyFrom 72 = .ok (.putfield 44, 3) := by decide +kernel
theorem dX3_copyFrom_75 : decode cX3_copyFrom 75 = .ok (.aload_n 0, 1) := by decide +kernel
theorem dX3_copyFrom_76 : decode cX3_copyFrom 76 = .ok (.aload_n 1, 1) := by decide +kernel
theorem dX3_copyFrom_77 : decode cX3_copyFrom 77 = .ok (.getfield 48, 3) := by decide +kernel
theorem dX3_copyFrom_80 : decode cX3_copyFrom 80 = .ok (.putfield 48, 3) := by decide +kernel
theorem dX3_copyFrom_83 : decode cX3_copyFrom 83 = .ok (.aload_n 0, 1) := by decide +kernel
theorem dX3_copyFrom_84 : decode cX3_copyFrom 84 = .ok (.aload_n 1, 1) := by decide +kernel
theorem dX3_copyFrom_85 : decode cX3_copyFrom 85 = .ok (.getfield 51, 3) := by decide +kernel
theorem dX3_copyFrom_88 : decode cX3_copyFrom 88 = .ok (.putfield 51, 3) := by decide +kernel
theorem dX3_copyFrom_91 : decode cX3_copyFrom 91 = .ok (.aload_n 0, 1) := by decide +kernel
theorem dX3_copyFrom_92 : decode cX3_copyFrom 92 = .ok (.aload_n 1, 1) := by decide +kernel
theorem dX3_copyFrom_93 : decode cX3_copyFrom 93 = .ok (.getfield 54, 3) := by decide +kernel
theorem dX3_copyFrom_96 : decode cX3_copyFrom 96 = .ok (.putfield 54, 3) := by decide +kernel
theorem dX3_copyFrom_99 : decode cX3_copyFrom 99 = .ok (.aload_n 0, 1) := by decide +kernel
theorem dX3_copyFrom_100 : decode cX3_copyFrom 100 = .ok (.aload_n 1, 1) := by decide +kernel
theorem dX3_copyFrom_101 : decode cX3_copyFrom 101 = .ok (.getfield 57, 3) := by decide +kernel
theorem dX3_copyFrom_104 : decode cX3_copyFrom 104 = .ok (.putfield 57, 3) := by decide +kernel
theorem dX3_copyFrom_107 : decode cX3_copyFrom 107 = .ok (.aload_n 0, 1) := by decide +kernel
theorem dX3_copyFrom_108 : decode cX3_copyFrom 108 = .ok (.aload_n 1, 1) := by decide +kernel
theorem dX3_copyFrom_109 : decode cX3_copyFrom 109 = .ok (.getfield 60, 3) := by decide +kernel
theorem dX3_copyFrom_112 : decode cX3_copyFrom 112 = .ok (.putfield 60, 3) := by decide +kernel
theorem dX3_copyFrom_115 : decode cX3_copyFrom 115 = .ok (.aload_n 0, 1) := by decide +kernel
theorem dX3_copyFrom_116 : decode cX3_copyFrom 116 = .ok (.aload_n 1, 1) := by decide +kernel
theorem dX3_copyFrom_117 : decode cX3_copyFrom 117 = .ok (.getfield 64, 3) := by decide +kernel
theorem dX3_copyFrom_120 : decode cX3_copyFrom 120 = .ok (.putfield 64, 3) := by decide +kernel
theorem dX3_copyFrom_123 : decode cX3_copyFrom 123 = .ok (.aload_n 0, 1) := by decide +kernel
theorem dX3_copyFrom_124 : decode cX3_copyFrom 124 = .ok (.aload_n 1, 1) := by decide +kernel
theorem dX3_copyFrom_125 : decode cX3_copyFrom 125 = .ok (.getfield 67, 3) := by decide +kernel
theorem dX3_copyFrom_128 : decode cX3_copyFrom 128 = .ok (.putfield 67, 3) := by decide +kernel
theorem dX3_copyFrom_131 : decode cX3_copyFrom 131 = .ok (.aload_n 0, 1) := by decide +kernel
theorem dX3_copyFrom_132 : decode cX3_copyFrom 132 = .ok (.aload_n 1, 1) := by decide +kernel
theorem dX3_copyFrom_133 : decode cX3_copyFrom 133 = .ok (.getfield 70, 3) := by decide +kernel
theorem dX3_copyFrom_136 : decode cX3_copyFrom 136 = .ok (.putfield 70, 3) := by decide +kernel
theorem dX3_copyFrom_139 : decode cX3_copyFrom 139 = .ok (.aload_n 0, 1) := by decide +kernel
theorem dX3_copyFrom_140 : decode cX3_copyFrom 140 = .ok (.aload_n 1, 1) := by decide +kernel
theorem dX3_copyFrom_141 : decode cX3_copyFrom 141 = .ok (.getfield 73, 3) := by decide +kernel
theorem dX3_copyFrom_144 : decode cX3_copyFrom 144 = .ok (.putfield 73, 3) := by decide +kernel
theorem dX3_copyFrom_147 : decode cX3_copyFrom 147 = .ok (.return_, 1) := by decide +kernel
theorem dX3_temperature_0 : decode cX3_temperature 0 = .ok (.aload_n 0, 1) := by decide +kernel
theorem dX3_temperature_1 : decode cX3_temperature 1 = .ok (.aload_n 0, 1) := by decide +kernel
theorem dX3_temperature_2 : decode cX3_temperature 2 = .ok (.getfield 28, 3) := by decide +kernel
theorem dX3_temperature_5 : decode cX3_temperature 5 = .ok (.invokevirtual 84, 3) := by decide +kernel
theorem dX3_temperature_8 : decode cX3_temperature 8 = .ok (.ireturn, 1) := by decide +kernel
theorem dX3_temperatureWith_0 : decode cX3_temperatureWith 0 = .ok (.aload_n 0, 1) := by decide +kernel
theorem dX3_temperatureWith_1 : decode cX3_temperatureWith 1 = .ok (.getfield 18, 3) := by decide +kernel
theorem dX3_temperatureWith_4 : decode cX3_temperatureWith 4 = .ok (.ifCond .le 18, 3) := by decide +kernel
theorem dX3_temperatureWith_7 : decode cX3_temperatureWith 7 = .ok (.sipush 1000, 3) := by decide +kernel
theorem dX3_temperatureWith_10 : decode cX3_temperatureWith 10 = .ok (.iload_n 1, 1) := by decide +kernel
theorem dX3_temperatureWith_11 : decode cX3_temperatureWith 11 = .ok (.imul, 1) := by decide +kernel
theorem dX3_temperatureWith_12 : decode cX3_temperatureWith 12 = .ok (.aload_n 0, 1) := by decide +kernel
theorem dX3_temperatureWith_13 : decode cX3_temperatureWith 13 = .ok (.getfield 18, 3) := by decide +kernel
theorem dX3_temperatureWith_16 : decode cX3_temperatureWith 16 = .ok (.invokestatic 88, 3) := by decide +kernel
theorem dX3_temperatureWith_19 : decode cX3_temperatureWith 19 = .ok (.goto 4, 3) := by decide +kernel
theorem dX3_temperatureWith_22 : decode cX3_temperatureWith 22 = .ok (.iconst 0, 1) := by decide +kernel
theorem dX3_temperatureWith_23 : decode cX3_temperatureWith 23 = .ok (.ireturn, 1) := by decide +kernel
theorem dX3_isBladeCold_0 : decode cX3_isBladeCold 0 = .ok (.aload_n 0, 1) := by decide +kernel
theorem dX3_isBladeCold_1 : decode cX3_isBladeCold 1 = .ok (.getfield 41, 3) := by decide +kernel
theorem dX3_isBladeCold_4 : decode cX3_isBladeCold 4 = .ok (.aload_n 0, 1) := by decide +kernel
theorem dX3_isBladeCold_5 : decode cX3_isBladeCold 5 = .ok (.getfield 31, 3) := by decide +kernel
theorem dX3_isBladeCold_8 : decode cX3_isBladeCold 8 = .ok (.aload_n 0, 1) := by decide +kernel
theorem dX3_isBladeCold_9 : decode cX3_isBladeCold 9 = .ok (.getfield 34, 3) := by decide +kernel
theorem dX3_isBladeCold_12 : decode cX3_isBladeCold 12 = .ok (.isub, 1) := by decide +kernel
theorem dX3_isBladeCold_13 : decode cX3_isBladeCold 13 = .ok (.if_icmp .gt 7, 3) := by decide +kernel
theorem dX3_isBladeCold_16 : decode cX3_isBladeCold 16 = .ok (.iconst 1, 1) := by decide +kernel
theorem dX3_isBladeCold_17 : decode cX3_isBladeCold 17 = .ok (.goto 4, 3) := by decide +kernel
theorem dX3_isBladeCold_20 : decode cX3_isBladeCold 20 = .ok (.iconst 0, 1) := by decide +kernel
theorem dX3_isBladeCold_21 : decode cX3_isBladeCold 21 = .ok (.ireturn, 1) := by decide +kernel
theorem dX3_isBladeHot_0 : decode cX3_isBladeHot 0 = .ok (.aload_n 0, 1) := by decide +kernel
theorem dX3_isBladeHot_1 : decode cX3_isBladeHot 1 = .ok (.getfield 41, 3) := by decide +kernel
theorem dX3_isBladeHot_4 : decode cX3_isBladeHot 4 = .ok (.aload_n 0, 1) := by decide +kernel
theorem dX3_isBladeHot_5 : decode cX3_isBladeHot 5 = .ok (.getfield 31, 3) := by decide +kernel
theorem dX3_isBladeHot_8 : decode cX3_isBladeHot 8 = .ok (.aload_n 0, 1) := by decide +kernel
theorem dX3_isBladeHot_9 : decode cX3_isBladeHot 9 = .ok (.getfield 34, 3) := by decide +kernel
theorem dX3_isBladeHot_12 : decode cX3_isBladeHot 12 = .ok (.iadd, 1) := by decide +kernel
theorem dX3_isBladeHot_13 : decode cX3_isBladeHot 13 = .ok (.if_icmp .lt 7, 3) := by decide +kernel
theorem dX3_isBladeHot_16 : decode cX3_isBladeHot 16 = .ok (.iconst 1, 1) := by decide +kernel
theorem dX3_isBladeHot_17 : decode cX3_isBladeHot 17 = .ok (.goto 4, 3) := by decide +kernel
theorem dX3_isBladeHot_20 : decode cX3_isBladeHot 20 = .ok (.iconst 0, 1) := by decide +kernel
theorem dX3_isBladeHot_21 : decode cX3_isBladeHot 21 = .ok (.ireturn, 1) := by decide +kernel
theorem dX3_bringIn_0 : decode cX3_bringIn 0 = .ok (.aload_n 0, 1) := by decide +kernel
theorem dX3_bringIn_1 : decode cX3_bringIn 1 = .ok (.dup, 1) := by decide +kernel
theorem dX3_bringIn_2 : decode cX3_bringIn 2 = .ok (.getfield 28, 3) := by decide +kernel
theorem dX3_bringIn_5 : decode cX3_bringIn 5 = .ok (.iload_n 1, 1) := by decide +kernel
theorem dX3_bringIn_6 : decode cX3_bringIn 6 = .ok (.iadd, 1) := by decide +kernel
theorem dX3_bringIn_7 : decode cX3_bringIn 7 = .ok (.putfield 28, 3) := by decide +kernel
theorem dX3_bringIn_10 : decode cX3_bringIn 10 = .ok (.aload_n 0, 1) := by decide +kernel
theorem dX3_bringIn_11 : decode cX3_bringIn 11 = .ok (.getfield 12, 3) := by decide +kernel
theorem dX3_bringIn_14 : decode cX3_bringIn 14 = .ok (.dup, 1) := by decide +kernel
theorem dX3_bringIn_15 : decode cX3_bringIn 15 = .ok (.getfield 94, 3) := by decide +kernel
theorem dX3_bringIn_18 : decode cX3_bringIn 18 = .ok (.iload_n 1, 1) := by decide +kernel
theorem dX3_bringIn_19 : decode cX3_bringIn 19 = .ok (.iadd, 1) := by decide +kernel
theorem dX3_bringIn_20 : decode cX3_bringIn 20 = .ok (.putfield 94, 3) := by decide +kernel
theorem dX3_bringIn_23 : decode cX3_bringIn 23 = .ok (.return_, 1) := by decide +kernel
theorem dX3_beginMinute_0 : decode cX3_beginMinute 0 = .ok (.aload_n 0, 1) := by decide +kernel
theorem dX3_beginMinute_1 : decode cX3_beginMinute 1 = .ok (.aload_n 0, 1) := by decide +kernel
theorem dX3_beginMinute_2 : decode cX3_beginMinute 2 = .ok (.invokevirtual 37, 3) := by decide +kernel
theorem dX3_beginMinute_5 : decode cX3_beginMinute 5 = .ok (.putfield 73, 3) := by decide +kernel
theorem dX3_beginMinute_8 : decode cX3_beginMinute 8 = .ok (.aload_n 0, 1) := by decide +kernel
theorem dX3_beginMinute_9 : decode cX3_beginMinute 9 = .ok (.getfield 44, 3) := by decide +kernel
theorem dX3_beginMinute_12 : decode cX3_beginMinute 12 = .ok (.ifCond .eq 39, 3) := by decide +kernel
theorem dX3_beginMinute_15 : decode cX3_beginMinute 15 = .ok (.aload_n 0, 1) := by decide +kernel
theorem dX3_beginMinute_16 : decode cX3_beginMinute 16 = .ok (.getfield 51, 3) := by decide +kernel
theorem dX3_beginMinute_19 : decode cX3_beginMinute 19 = .ok (.ifCond .ne 32, 3) := by decide +kernel
theorem dX3_beginMinute_22 : decode cX3_beginMinute 22 = .ok (.aload_n 0, 1) := by decide +kernel
theorem dX3_beginMinute_23 : decode cX3_beginMinute 23 = .ok (.dup, 1) := by decide +kernel
theorem dX3_beginMinute_24 : decode cX3_beginMinute 24 = .ok (.getfield 28, 3) := by decide +kernel
theorem dX3_beginMinute_27 : decode cX3_beginMinute 27 = .ok (.aload_n 0, 1) := by decide +kernel
theorem dX3_beginMinute_28 : decode cX3_beginMinute 28 = .ok (.getfield 22, 3) := by decide +kernel
theorem dX3_beginMinute_31 : decode cX3_beginMinute 31 = .ok (.iadd, 1) := by decide +kernel
theorem dX3_beginMinute_32 : decode cX3_beginMinute 32 = .ok (.putfield 28, 3) := by decide +kernel
theorem dX3_beginMinute_35 : decode cX3_beginMinute 35 = .ok (.aload_n 0, 1) := by decide +kernel
theorem dX3_beginMinute_36 : decode cX3_beginMinute 36 = .ok (.getfield 12, 3) := by decide +kernel
theorem dX3_beginMinute_39 : decode cX3_beginMinute 39 = .ok (.dup, 1) := by decide +kernel
theorem dX3_beginMinute_40 : decode cX3_beginMinute 40 = .ok (.getfield 97, 3) := by decide +kernel
theorem dX3_beginMinute_43 : decode cX3_beginMinute 43 = .ok (.aload_n 0, 1) := by decide +kernel
theorem dX3_beginMinute_44 : decode cX3_beginMinute 44 = .ok (.getfield 22, 3) := by decide +kernel
theorem dX3_beginMinute_47 : decode cX3_beginMinute 47 = .ok (.iadd, 1) := by decide +kernel
theorem dX3_beginMinute_48 : decode cX3_beginMinute 48 = .ok (.putfield 97, 3) := by decide +kernel
theorem dX3_beginMinute_51 : decode cX3_beginMinute 51 = .ok (.aload_n 0, 1) := by decide +kernel
theorem dX3_beginMinute_52 : decode cX3_beginMinute 52 = .ok (.getfield 25, 3) := by decide +kernel
theorem dX3_beginMinute_55 : decode cX3_beginMinute 55 = .ok (.aload_n 0, 1) := by decide +kernel
theorem dX3_beginMinute_56 : decode cX3_beginMinute 56 = .ok (.getfield 73, 3) := by decide +kernel
theorem dX3_beginMinute_59 : decode cX3_beginMinute 59 = .ok (.iload_n 1, 1) := by decide +kernel
theorem dX3_beginMinute_60 : decode cX3_beginMinute 60 = .ok (.isub, 1) := by decide +kernel
theorem dX3_beginMinute_61 : decode cX3_beginMinute 61 = .ok (.imul, 1) := by decide +kernel
end
section
theorem dX3_beginMinute_62 : decode cX3_beginMinute 62 = .ok (.sipush 1000, 3) := by decide +kernel
theorem dX3_beginMinute_65 : decode cX3_beginMinute 65 = .ok (.idiv, 1) := by decide +kernel
theorem dX3_beginMinute_66 : decode cX3_beginMinute 66 = .ok (.istore_n 2, 1) := by decide +kernel
theorem dX3_beginMinute_67 : decode cX3_beginMinute 67 = .ok (.aload_n 0, 1) := by decide +kernel
theorem dX3_beginMinute_68 : decode cX3_beginMinute 68 = .ok (.dup, 1) := by decide +kernel
theorem dX3_beginMinute_69 : decode cX3_beginMinute 69 = .ok (.getfield 28, 3) := by decide +kernel
theorem dX3_beginMinute_72 : decode cX3_beginMinute 72 = .ok (.iload_n 2, 1) := by decide +kernel
theorem dX3_beginMinute_73 : decode cX3_beginMinute 73 = .ok (.isub, 1) := by decide +kernel
theorem dX3_beginMinute_74 : decode cX3_beginMinute 74 = .ok (.putfield 28, 3) := by decide +kernel
theorem dX3_beginMinute_77 : decode cX3_beginMinute 77 = .ok (.aload_n 0, 1) := by decide +kernel
theorem dX3_beginMinute_78 : decode cX3_beginMinute 78 = .ok (.getfield 12, 3) := by decide +kernel
theorem dX3_beginMinute_81 : decode cX3_beginMinute 81 = .ok (.dup, 1) := by decide +kernel
theorem dX3_beginMinute_82 : decode cX3_beginMinute 82 = .ok (.getfield 100, 3) := by decide +kernel
theorem dX3_beginMinute_85 : decode cX3_beginMinute 85 = .ok (.iload_n 2, 1) := by decide +kernel
theorem dX3_beginMinute_86 : decode cX3_beginMinute 86 = .ok (.iadd, 1) := by decide +kernel
theorem dX3_beginMinute_87 : decode cX3_beginMinute 87 = .ok (.putfield 100, 3) := by decide +kernel
theorem dX3_beginMinute_90 : decode cX3_beginMinute 90 = .ok (.return_, 1) := by decide +kernel
theorem dX3_giveToOthers_0 : decode cX3_giveToOthers 0 = .ok (.aload_n 0, 1) := by decide +kernel
theorem dX3_giveToOthers_1 : decode cX3_giveToOthers 1 = .ok (.dup, 1) := by decide +kernel
theorem dX3_giveToOthers_2 : decode cX3_giveToOthers 2 = .ok (.getfield 28, 3) := by decide +kernel
theorem dX3_giveToOthers_5 : decode cX3_giveToOthers 5 = .ok (.iload_n 1, 1) := by decide +kernel
theorem dX3_giveToOthers_6 : decode cX3_giveToOthers 6 = .ok (.isub, 1) := by decide +kernel
theorem dX3_giveToOthers_7 : decode cX3_giveToOthers 7 = .ok (.putfield 28, 3) := by decide +kernel
theorem dX3_giveToOthers_10 : decode cX3_giveToOthers 10 = .ok (.aload_n 0, 1) := by decide +kernel
theorem dX3_giveToOthers_11 : decode cX3_giveToOthers 11 = .ok (.getfield 12, 3) := by decide +kernel
theorem dX3_giveToOthers_14 : decode cX3_giveToOthers 14 = .ok (.dup, 1) := by decide +kernel
theorem dX3_giveToOthers_15 : decode cX3_giveToOthers 15 = .ok (.getfield 103, 3) := by decide +kernel
theorem dX3_giveToOthers_18 : decode cX3_giveToOthers 18 = .ok (.iload_n 1, 1) := by decide +kernel
theorem dX3_giveToOthers_19 : decode cX3_giveToOthers 19 = .ok (.iadd, 1) := by decide +kernel
theorem dX3_giveToOthers_20 : decode cX3_giveToOthers 20 = .ok (.putfield 103, 3) := by decide +kernel
theorem dX3_giveToOthers_23 : decode cX3_giveToOthers 23 = .ok (.return_, 1) := by decide +kernel
theorem dX3_tryToOpen_0 : decode cX3_tryToOpen 0 = .ok (.aload_n 0, 1) := by decide +kernel
theorem dX3_tryToOpen_1 : decode cX3_tryToOpen 1 = .ok (.getfield 48, 3) := by decide +kernel
theorem dX3_tryToOpen_4 : decode cX3_tryToOpen 4 = .ok (.ifCond .ne 9, 3) := by decide +kernel
theorem dX3_tryToOpen_7 : decode cX3_tryToOpen 7 = .ok (.aload_n 0, 1) := by decide +kernel
theorem dX3_tryToOpen_8 : decode cX3_tryToOpen 8 = .ok (.iconst 0, 1) := by decide +kernel
theorem dX3_tryToOpen_9 : decode cX3_tryToOpen 9 = .ok (.putfield 44, 3) := by decide +kernel
theorem dX3_tryToOpen_12 : decode cX3_tryToOpen 12 = .ok (.return_, 1) := by decide +kernel
theorem dX3_tryToOpen_13 : decode cX3_tryToOpen 13 = .ok (.aload_n 0, 1) := by decide +kernel
theorem dX3_tryToOpen_14 : decode cX3_tryToOpen 14 = .ok (.dup, 1) := by decide +kernel
theorem dX3_tryToOpen_15 : decode cX3_tryToOpen 15 = .ok (.getfield 57, 3) := by decide +kernel
theorem dX3_tryToOpen_18 : decode cX3_tryToOpen 18 = .ok (.iconst 1, 1) := by decide +kernel
theorem dX3_tryToOpen_19 : decode cX3_tryToOpen 19 = .ok (.iadd, 1) := by decide +kernel
theorem dX3_tryToOpen_20 : decode cX3_tryToOpen 20 = .ok (.putfield 57, 3) := by decide +kernel
theorem dX3_tryToOpen_23 : decode cX3_tryToOpen 23 = .ok (.aload_n 0, 1) := by decide +kernel
theorem dX3_tryToOpen_24 : decode cX3_tryToOpen 24 = .ok (.getfield 57, 3) := by decide +kernel
theorem dX3_tryToOpen_27 : decode cX3_tryToOpen 27 = .ok (.iload_n 1, 1) := by decide +kernel
theorem dX3_tryToOpen_28 : decode cX3_tryToOpen 28 = .ok (.if_icmp .lt 28, 3) := by decide +kernel
theorem dX3_tryToOpen_31 : decode cX3_tryToOpen 31 = .ok (.aload_n 0, 1) := by decide +kernel
theorem dX3_tryToOpen_32 : decode cX3_tryToOpen 32 = .ok (.iconst 0, 1) := by decide +kernel
theorem dX3_tryToOpen_33 : decode cX3_tryToOpen 33 = .ok (.putfield 44, 3) := by decide +kernel
theorem dX3_tryToOpen_36 : decode cX3_tryToOpen 36 = .ok (.aload_n 0, 1) := by decide +kernel
theorem dX3_tryToOpen_37 : decode cX3_tryToOpen 37 = .ok (.iconst 0, 1) := by decide +kernel
theorem dX3_tryToOpen_38 : decode cX3_tryToOpen 38 = .ok (.putfield 48, 3) := by decide +kernel
theorem dX3_tryToOpen_41 : decode cX3_tryToOpen 41 = .ok (.aload_n 0, 1) := by decide +kernel
theorem dX3_tryToOpen_42 : decode cX3_tryToOpen 42 = .ok (.iconst 0, 1) := by decide +kernel
theorem dX3_tryToOpen_43 : decode cX3_tryToOpen 43 = .ok (.putfield 57, 3) := by decide +kernel
theorem dX3_tryToOpen_46 : decode cX3_tryToOpen 46 = .ok (.aload_n 0, 1) := by decide +kernel
theorem dX3_tryToOpen_47 : decode cX3_tryToOpen 47 = .ok (.dup, 1) := by decide +kernel
theorem dX3_tryToOpen_48 : decode cX3_tryToOpen 48 = .ok (.getfield 54, 3) := by decide +kernel
theorem dX3_tryToOpen_51 : decode cX3_tryToOpen 51 = .ok (.iconst 2, 1) := by decide +kernel
theorem dX3_tryToOpen_52 : decode cX3_tryToOpen 52 = .ok (.idiv, 1) := by decide +kernel
theorem dX3_tryToOpen_53 : decode cX3_tryToOpen 53 = .ok (.putfield 54, 3) := by decide +kernel
theorem dX3_tryToOpen_56 : decode cX3_tryToOpen 56 = .ok (.return_, 1) := by decide +kernel
theorem dX3_renewContact_0 : decode cX3_renewContact 0 = .ok (.aload_n 0, 1) := by decide +kernel
theorem dX3_renewContact_1 : decode cX3_renewContact 1 = .ok (.iconst 0, 1) := by decide +kernel
theorem dX3_renewContact_2 : decode cX3_renewContact 2 = .ok (.putfield 54, 3) := by decide +kernel
theorem dX3_renewContact_5 : decode cX3_renewContact 5 = .ok (.aload_n 0, 1) := by decide +kernel
theorem dX3_renewContact_6 : decode cX3_renewContact 6 = .ok (.iconst 0, 1) := by decide +kernel
theorem dX3_renewContact_7 : decode cX3_renewContact 7 = .ok (.putfield 57, 3) := by decide +kernel
theorem dX3_renewContact_10 : decode cX3_renewContact 10 = .ok (.aload_n 0, 1) := by decide +kernel
theorem dX3_renewContact_11 : decode cX3_renewContact 11 = .ok (.iconst 0, 1) := by decide +kernel
theorem dX3_renewContact_12 : decode cX3_renewContact 12 = .ok (.putfield 48, 3) := by decide +kernel
theorem dX3_renewContact_15 : decode cX3_renewContact 15 = .ok (.aload_n 0, 1) := by decide +kernel
theorem dX3_renewContact_16 : decode cX3_renewContact 16 = .ok (.iconst 0, 1) := by decide +kernel
theorem dX3_renewContact_17 : decode cX3_renewContact 17 = .ok (.putfield 44, 3) := by decide +kernel
theorem dX3_renewContact_20 : decode cX3_renewContact 20 = .ok (.return_, 1) := by decide +kernel
theorem dX3_property_0 : decode cX3_property 0 = .ok (.iload_n 1, 1) := by decide +kernel
theorem dX3_property_1 : decode cX3_property 1 = .ok (.tableswitch 165 0 13 #[71, 76, 81, 86, 99, 112, 117, 122, 127, 132, 137, 150, 155, 160], 71) := by decide +kernel
theorem dX3_property_72 : decode cX3_property 72 = .ok (.aload_n 0, 1) := by decide +kernel
theorem dX3_property_73 : decode cX3_property 73 = .ok (.invokevirtual 37, 3) := by decide +kernel
theorem dX3_property_76 : decode cX3_property 76 = .ok (.ireturn, 1) := by decide +kernel
theorem dX3_property_77 : decode cX3_property 77 = .ok (.aload_n 0, 1) := by decide +kernel
theorem dX3_property_78 : decode cX3_property 78 = .ok (.getfield 28, 3) := by decide +kernel
theorem dX3_property_81 : decode cX3_property 81 = .ok (.ireturn, 1) := by decide +kernel
theorem dX3_property_82 : decode cX3_property 82 = .ok (.aload_n 0, 1) := by decide +kernel
theorem dX3_property_83 : decode cX3_property 83 = .ok (.getfield 41, 3) := by decide +kernel
theorem dX3_property_86 : decode cX3_property 86 = .ok (.ireturn, 1) := by decide +kernel
theorem dX3_property_87 : decode cX3_property 87 = .ok (.aload_n 0, 1) := by decide +kernel
theorem dX3_property_88 : decode cX3_property 88 = .ok (.getfield 44, 3) := by decide +kernel
theorem dX3_property_91 : decode cX3_property 91 = .ok (.ifCond .eq 7, 3) := by decide +kernel
theorem dX3_property_94 : decode cX3_property 94 = .ok (.iconst 1, 1) := by decide +kernel
theorem dX3_property_95 : decode cX3_property 95 = .ok (.goto 4, 3) := by decide +kernel
theorem dX3_property_98 : decode cX3_property 98 = .ok (.iconst 0, 1) := by decide +kernel
theorem dX3_property_99 : decode cX3_property 99 = .ok (.ireturn, 1) := by decide +kernel
theorem dX3_property_100 : decode cX3_property 100 = .ok (.aload_n 0, 1) := by decide +kernel
theorem dX3_property_101 : decode cX3_property 101 = .ok (.getfield 48, 3) := by decide +kernel
theorem dX3_property_104 : decode cX3_property 104 = .ok (.ifCond .eq 7, 3) := by decide +kernel
theorem dX3_property_107 : decode cX3_property 107 = .ok (.iconst 1, 1) := by decide +kernel
theorem dX3_property_108 : decode cX3_property 108 = .ok (.goto 4, 3) := by decide +kernel
theorem dX3_property_111 : decode cX3_property 111 = .ok (.iconst 0, 1) := by decide +kernel
theorem dX3_property_112 : decode cX3_property 112 = .ok (.ireturn, 1) := by decide +kernel
theorem dX3_property_113 : decode cX3_property 113 = .ok (.aload_n 0, 1) := by decide +kernel
theorem dX3_property_114 : decode cX3_property 114 = .ok (.getfield 54, 3) := by decide +kernel
theorem dX3_property_117 : decode cX3_property 117 = .ok (.ireturn, 1) := by decide +kernel
theorem dX3_property_118 : decode cX3_property 118 = .ok (.aload_n 0, 1) := by decide +kernel
theorem dX3_property_119 : decode cX3_property 119 = .ok (.getfield 57, 3) := by decide +kernel
theorem dX3_property_122 : decode cX3_property 122 = .ok (.ireturn, 1) := by decide +kernel
theorem dX3_property_123 : decode cX3_property 123 = .ok (.aload_n 0, 1) := by decide +kernel
theorem dX3_property_124 : decode cX3_property 124 = .ok (.getfield 60, 3) := by decide +kernel
theorem dX3_property_127 : decode cX3_property 127 = .ok (.ireturn, 1) := by decide +kernel
theorem dX3_property_128 : decode cX3_property 128 = .ok (.aload_n 0, 1) := by decide +kernel
theorem dX3_property_129 : decode cX3_property 129 = .ok (.getfield 67, 3) := by decide +kernel
theorem dX3_property_132 : decode cX3_property 132 = .ok (.ireturn, 1) := by decide +kernel
theorem dX3_property_133 : decode cX3_property 133 = .ok (.aload_n 0, 1) := by decide +kernel
theorem dX3_property_134 : decode cX3_property 134 = .ok (.getfield 70, 3) := by decide +kernel
theorem dX3_property_137 : decode cX3_property 137 = .ok (.ireturn, 1) := by decide +kernel
theorem dX3_property_138 : decode cX3_property 138 = .ok (.aload_n 0, 1) := by decide +kernel
theorem dX3_property_139 : decode cX3_property 139 = .ok (.getfield 51, 3) := by decide +kernel
theorem dX3_property_142 : decode cX3_property 142 = .ok (.ifCond .eq 7, 3) := by decide +kernel
theorem dX3_property_145 : decode cX3_property 145 = .ok (.iconst 1, 1) := by decide +kernel
theorem dX3_property_146 : decode cX3_property 146 = .ok (.goto 4, 3) := by decide +kernel
theorem dX3_property_149 : decode cX3_property 149 = .ok (.iconst 0, 1) := by decide +kernel
theorem dX3_property_150 : decode cX3_property 150 = .ok (.ireturn, 1) := by decide +kernel
theorem dX3_property_151 : decode cX3_property 151 = .ok (.aload_n 0, 1) := by decide +kernel
theorem dX3_property_152 : decode cX3_property 152 = .ok (.getfield 64, 3) := by decide +kernel
theorem dX3_property_155 : decode cX3_property 155 = .ok (.ireturn, 1) := by decide +kernel
theorem dX3_property_156 : decode cX3_property 156 = .ok (.aload_n 0, 1) := by decide +kernel
theorem dX3_property_157 : decode cX3_property 157 = .ok (.getfield 31, 3) := by decide +kernel
theorem dX3_property_160 : decode cX3_property 160 = .ok (.ireturn, 1) := by decide +kernel
theorem dX3_property_161 : decode cX3_property 161 = .ok (.aload_n 0, 1) := by decide +kernel
theorem dX3_property_162 : decode cX3_property 162 = .ok (.getfield 34, 3) := by decide +kernel
theorem dX3_property_165 : decode cX3_property 165 = .ok (.ireturn, 1) := by decide +kernel
theorem dX3_property_166 : decode cX3_property 166 = .ok (.ldc 106, 2) := by decide +kernel
theorem dX3_property_168 : decode cX3_property 168 = .ok (.ireturn, 1) := by decide +kernel
theorem dX4_init_0 : decode cX4_init 0 = .ok (.aload_n 0, 1) := by decide +kernel
theorem dX4_init_1 : decode cX4_init 1 = .ok (.invokespecial 3, 3) := by decide +kernel
theorem dX4_init_4 : decode cX4_init 4 = .ok (.aload_n 0, 1) := by decide +kernel
theorem dX4_init_5 : decode cX4_init 5 = .ok (.bipush 12, 2) := by decide +kernel
theorem dX4_init_7 : decode cX4_init 7 = .ok (.newarray .int, 2) := by decide +kernel
theorem dX4_init_9 : decode cX4_init 9 = .ok (.putfield 9, 3) := by decide +kernel
theorem dX4_init_12 : decode cX4_init 12 = .ok (.aload_n 0, 1) := by decide +kernel
theorem dX4_init_13 : decode cX4_init 13 = .ok (.bipush 12, 2) := by decide +kernel
theorem dX4_init_15 : decode cX4_init 15 = .ok (.newarray .int, 2) := by decide +kernel
theorem dX4_init_17 : decode cX4_init 17 = .ok (.putfield 15, 3) := by decide +kernel
theorem dX4_init_20 : decode cX4_init 20 = .ok (.return_, 1) := by decide +kernel
theorem dX4_copyFrom_0 : decode cX4_copyFrom 0 = .ok (.aload_n 1, 1) := by decide +kernel
theorem dX4_copyFrom_1 : decode cX4_copyFrom 1 = .ok (.getfield 9, 3) := by decide +kernel
theorem dX4_copyFrom_4 : decode cX4_copyFrom 4 = .ok (.iconst 0, 1) := by decide +kernel
theorem dX4_copyFrom_5 : decode cX4_copyFrom 5 = .ok (.aload_n 0, 1) := by decide +kernel
theorem dX4_copyFrom_6 : decode cX4_copyFrom 6 = .ok (.getfield 9, 3) := by decide +kernel
theorem dX4_copyFrom_9 : decode cX4_copyFrom 9 = .ok (.iconst 0, 1) := by decide +kernel
theorem dX4_copyFrom_10 : decode cX4_copyFrom 10 = .ok (.bipush 12, 2) := by decide +kernel
theorem dX4_copyFrom_12 : decode cX4_copyFrom 12 = .ok (.invokestatic 18, 3) := by decide +kernel
theorem dX4_copyFrom_15 : decode cX4_copyFrom 15 = .ok (.aload_n 1, 1) := by decide +kernel
theorem dX4_copyFrom_16 : decode cX4_copyFrom 16 = .ok (.getfield 15, 3) := by decide +kernel
theorem dX4_copyFrom_19 : decode cX4_copyFrom 19 = .ok (.iconst 0, 1) := by decide +kernel
theorem dX4_copyFrom_20 : decode cX4_copyFrom 20 = .ok (.aload_n 0, 1) := by decide +kernel
theorem dX4_copyFrom_21 : decode cX4_copyFrom 21 = .ok (.getfield 15, 3) := by decide +kernel
theorem dX4_copyFrom_24 : decode cX4_copyFrom 24 = .ok (.iconst 0, 1) := by decide +kernel
theorem dX4_copyFrom_25 : decode cX4_copyFrom 25 = .ok (.bipush 12, 2) := by decide +kernel
theorem dX4_copyFrom_27 : decode cX4_copyFrom 27 = .ok (.invokestatic 18, 3) := by decide +kernel
theorem dX4_copyFrom_30 : decode cX4_copyFrom 30 = .ok (.aload_n 0, 1) := by decide +kernel
theorem dX4_copyFrom_31 : decode cX4_copyFrom 31 = .ok (.aload_n 1, 1) := by decide +kernel
theorem dX4_copyFrom_32 : decode cX4_copyFrom 32 = .ok (.getfield 24, 3) := by decide +kernel
theorem dX4_copyFrom_35 : decode cX4_copyFrom 35 = .ok (.putfield 24, 3) := by decide +kernel
theorem dX4_copyFrom_38 : decode cX4_copyFrom 38 = .ok (.return_, 1) := by decide +kernel
theorem dX4_temperatureAt_0 : decode cX4_temperatureAt 0 = .ok (.iconst 0, 1) := by decide +kernel
theorem dX4_temperatureAt_1 : decode cX4_temperatureAt 1 = .ok (.istore_n 2, 1) := by decide +kernel
theorem dX4_temperatureAt_2 : decode cX4_temperatureAt 2 = .ok (.iconst 0, 1) := by decide +kernel
theorem dX4_temperatureAt_3 : decode cX4_temperatureAt 3 = .ok (.istore_n 3, 1) := by decide +kernel
theorem dX4_temperatureAt_4 : decode cX4_temperatureAt 4 = .ok (.iload_n 3, 1) := by decide +kernel
theorem dX4_temperatureAt_5 : decode cX4_temperatureAt 5 = .ok (.aload_n 0, 1) := by decide +kernel
theorem dX4_temperatureAt_6 : decode cX4_temperatureAt 6 = .ok (.getfield 24, 3) := by decide +kernel
theorem dX4_temperatureAt_9 : decode cX4_temperatureAt 9 = .ok (.if_icmp .ge 60, 3) := by decide +kernel
theorem dX4_temperatureAt_12 : decode cX4_temperatureAt 12 = .ok (.iload_n 3, 1) := by decide +kernel
theorem dX4_temperatureAt_13 : decode cX4_temperatureAt 13 = .ok (.bipush 12, 2) := by decide +kernel
theorem dX4_temperatureAt_15 : decode cX4_temperatureAt 15 = .ok (.if_icmp .ge 54, 3) := by decide +kernel
theorem dX4_temperatureAt_18 : decode cX4_temperatureAt 18 = .ok (.iload_n 1, 1) := by decide +kernel
theorem dX4_temperatureAt_19 : decode cX4_temperatureAt 19 = .ok (.aload_n 0, 1) := by decide +kernel
theorem dX4_temperatureAt_20 : decode cX4_temperatureAt 20 = .ok (.getfield 9, 3) := by decide +kernel
theorem dX4_temperatureAt_23 : decode cX4_temperatureAt 23 = .ok (.iload_n 3, 1) := by decide +kernel
theorem dX4_temperatureAt_24 : decode cX4_temperatureAt 24 = .ok (.iaload, 1) := by decide +kernel
theorem dX4_temperatureAt_25 : decode cX4_temperatureAt 25 = .ok (.if_icmp .ge 27, 3) := by decide +kernel
theorem dX4_temperatureAt_28 : decode cX4_temperatureAt 28 = .ok (.iload_n 3, 1) := by decide +kernel
theorem dX4_temperatureAt_29 : decode cX4_temperatureAt 29 = .ok (.ifCond .ne 16, 3) := by decide +kernel
theorem dX4_temperatureAt_32 : decode cX4_temperatureAt 32 = .ok (.sipush 1000, 3) := by decide +kernel
theorem dX4_temperatureAt_35 : decode cX4_temperatureAt 35 = .ok (.aload_n 0, 1) := by decide +kernel
theorem dX4_temperatureAt_36 : decode cX4_temperatureAt 36 = .ok (.getfield 15, 3) := by decide +kernel
theorem dX4_temperatureAt_39 : decode cX4_temperatureAt 39 = .ok (.iconst 0, 1) := by decide +kernel
theorem dX4_temperatureAt_40 : decode cX4_temperatureAt 40 = .ok (.iaload, 1) := by decide +kernel
theorem dX4_temperatureAt_41 : decode cX4_temperatureAt 41 = .ok (.imul, 1) := by decide +kernel
theorem dX4_temperatureAt_42 : decode cX4_temperatureAt 42 = .ok (.goto 9, 3) := by decide +kernel
theorem dX4_temperatureAt_45 : decode cX4_temperatureAt 45 = .ok (.aload_n 0, 1) := by decide +kernel
theorem dX4_temperatureAt_46 : decode cX4_temperatureAt 46 = .ok (.iload_n 3, 1) := by decide +kernel
theorem dX4_temperatureAt_47 : decode cX4_temperatureAt 47 = .ok (.iload_n 1, 1) := by decide +kernel
theorem dX4_temperatureAt_48 : decode cX4_temperatureAt 48 = .ok (.invokevirtual 28, 3) := by decide +kernel
theorem dX4_temperatureAt_51 : decode cX4_temperatureAt 51 = .ok (.ireturn, 1) := by decide +kernel
theorem dX4_temperatureAt_52 : decode cX4_temperatureAt 52 = .ok (.sipush 1000, 3) := by decide +kernel
theorem dX4_temperatureAt_55 : decode cX4_temperatureAt 55 = .ok (.aload_n 0, 1) := by decide +kernel
theorem dX4_temperatureAt_56 : decode cX4_temperatureAt 56 = .ok (.getfield 15, 3) := by decide +kernel
theorem dX4_temperatureAt_59 : decode cX4_temperatureAt 59 = .ok (.iload_n 3, 1) := by decide +kernel
theorem dX4_temperatureAt_60 : decode cX4_temperatureAt 60 = .ok (.iaload, 1) := by decide +kernel
theorem dX4_temperatureAt_61 : decode cX4_temperatureAt 61 = .ok (.imul, 1) := by decide +kernel
theorem dX4_temperatureAt_62 : decode cX4_temperatureAt 62 = .ok (.istore_n 2, 1) := by decide +kernel
theorem dX4_temperatureAt_63 : decode cX4_temperatureAt 63 = .ok (.iinc 3 1, 3) := by decide +kernel
theorem dX4_temperatureAt_66 : decode cX4_temperatureAt 66 = .ok (.goto (-62), 3) := by decide +kernel
theorem dX4_temperatureAt_69 : decode cX4_temperatureAt 69 = .ok (.iload_n 2, 1) := by decide +kernel
theorem dX4_temperatureAt_70 : decode cX4_temperatureAt 70 = .ok (.ireturn, 1) := by decide +kernel
theorem dX4_temperatureBefore_0 : decode cX4_temperatureBefore 0 = .ok (.iload_n 1, 1) := by decide +kernel
theorem dX4_temperatureBefore_1 : decode cX4_temperatureBefore 1 = .ok (.iconst 1, 1) := by decide +kernel
theorem dX4_temperatureBefore_2 : decode cX4_temperatureBefore 2 = .ok (.if_icmp .lt 9, 3) := by decide +kernel
theorem dX4_temperatureBefore_5 : decode cX4_temperatureBefore 5 = .ok (.iload_n 1, 1) := by decide +kernel
theorem dX4_temperatureBefore_6 : decode cX4_temperatureBefore 6 = .ok (.bipush 12, 2) := by decide +kernel
theorem dX4_temperatureBefore_8 : decode cX4_temperatureBefore 8 = .ok (.if_icmp .lt 5, 3) := by decide +kernel
theorem dX4_temperatureBefore_11 : decode cX4_temperatureBefore 11 = .ok (.iconst 0, 1) := by decide +kernel
theorem dX4_temperatureBefore_12 : decode cX4_temperatureBefore 12 = .ok (.ireturn, 1) := by decide +kernel
theorem dX4_temperatureBefore_13 : decode cX4_temperatureBefore 13 = .ok (.aload_n 0, 1) := by decide +kernel
theorem dX4_temperatureBefore_14 : decode cX4_temperatureBefore 14 = .ok (.getfield 15, 3) := by decide +kernel
theorem dX4_temperatureBefore_17 : decode cX4_temperatureBefore 17 = .ok (.iload_n 1, 1) := by decide +kernel
theorem dX4_temperatureBefore_18 : decode cX4_temperatureBefore 18 = .ok (.iconst 1, 1) := by decide +kernel
theorem dX4_temperatureBefore_19 : decode cX4_temperatureBefore 19 = .ok (.isub, 1) := by decide +kernel
theorem dX4_temperatureBefore_20 : decode cX4_temperatureBefore 20 = .ok (.iaload, 1) := by decide +kernel
theorem dX4_temperatureBefore_21 : decode cX4_temperatureBefore 21 = .ok (.istore_n 3, 1) := by decide +kernel
theorem dX4_temperatureBefore_22 : decode cX4_temperatureBefore 22 = .ok (.aload_n 0, 1) := by decide +kernel
theorem dX4_temperatureBefore_23 : decode cX4_temperatureBefore 23 = .ok (.getfield 9, 3) := by decide +kernel
theorem dX4_temperatureBefore_26 : decode cX4_temperatureBefore 26 = .ok (.iload_n 1, 1) := by decide +kernel
theorem dX4_temperatureBefore_27 : decode cX4_temperatureBefore 27 = .ok (.iaload, 1) := by decide +kernel
theorem dX4_temperatureBefore_28 : decode cX4_temperatureBefore 28 = .ok (.aload_n 0, 1) := by decide +kernel
theorem dX4_temperatureBefore_29 : decode cX4_temperatureBefore 29 = .ok (.getfield 9, 3) := by decide +kernel
theorem dX4_temperatureBefore_32 : decode cX4_temperatureBefore 32 = .ok (.iload_n 1, 1) := by decide +kernel
theorem dX4_temperatureBefore_33 : decode cX4_temperatureBefore 33 = .ok (.iconst 1, 1) := by decide +kernel
theorem dX4_temperatureBefore_34 : decode cX4_temperatureBefore 34 = .ok (.isub, 1) := by decide +kernel
theorem dX4_temperatureBefore_35 : decode cX4_temperatureBefore 35 = .ok (.iaload, 1) := by decide +kernel
theorem dX4_temperatureBefore_36 : decode cX4_temperatureBefore 36 = .ok (.isub, 1) := by decide +kernel
theorem dX4_temperatureBefore_37 : decode cX4_temperatureBefore 37 = .ok (.istore 4, 2) := by decide +kernel
theorem dX4_temperatureBefore_39 : decode cX4_temperatureBefore 39 = .ok (.iload_n 2, 1) := by decide +kernel
theorem dX4_temperatureBefore_40 : decode cX4_temperatureBefore 40 = .ok (.aload_n 0, 1) := by decide +kernel
theorem dX4_temperatureBefore_41 : decode cX4_temperatureBefore 41 = .ok (.getfield 9, 3) := by decide +kernel
theorem dX4_temperatureBefore_44 : decode cX4_temperatureBefore 44 = .ok (.iload_n 1, 1) := by decide +kernel
theorem dX4_temperatureBefore_45 : decode cX4_temperatureBefore 45 = .ok (.iconst 1, 1) := by decide +kernel
theorem dX4_temperatureBefore_46 : decode cX4_temperatureBefore 46 = .ok (.isub, 1) := by decide +kernel
theorem dX4_temperatureBefore_47 : decode cX4_temperatureBefore 47 = .ok (.iaload, 1) := by decide +kernel
theorem dX4_temperatureBefore_48 : decode cX4_temperatureBefore 48 = .ok (.isub, 1) := by decide +kernel
theorem dX4_temperatureBefore_49 : decode cX4_temperatureBefore 49 = .ok (.istore 5, 2) := by decide +kernel
theorem dX4_temperatureBefore_51 : decode cX4_temperatureBefore 51 = .ok (.iload 4, 2) := by decide +kernel
theorem dX4_temperatureBefore_53 : decode cX4_temperatureBefore 53 = .ok (.ifCond .ne 11, 3) := by decide +kernel
theorem dX4_temperatureBefore_56 : decode cX4_temperatureBefore 56 = .ok (.sipush 1000, 3) := by decide +kernel
theorem dX4_temperatureBefore_59 : decode cX4_temperatureBefore 59 = .ok (.iload_n 3, 1) := by decide +kernel
theorem dX4_temperatureBefore_60 : decode cX4_temperatureBefore 60 = .ok (.imul, 1) := by decide +kernel
theorem dX4_temperatureBefore_61 : decode cX4_temperatureBefore 61 = .ok (.goto 27, 3) := by decide +kernel
theorem dX4_temperatureBefore_64 : decode cX4_temperatureBefore 64 = .ok (.sipush 1000, 3) := by decide +kernel
theorem dX4_temperatureBefore_67 : decode cX4_temperatureBefore 67 = .ok (.iload_n 3, 1) := by decide +kernel
theorem dX4_temperatureBefore_68 : decode cX4_temperatureBefore 68 = .ok (.imul, 1) := by decide +kernel
theorem dX4_temperatureBefore_69 : decode cX4_temperatureBefore 69 = .ok (.sipush 1000, 3) := by decide +kernel
theorem dX4_temperatureBefore_72 : decode cX4_temperatureBefore 72 = .ok (.aload_n 0, 1) := by decide +kernel
theorem dX4_temperatureBefore_73 : decode cX4_temperatureBefore 73 = .ok (.getfield 15, 3) := by decide +kernel
theorem dX4_temperatureBefore_76 : decode cX4_temperatureBefore 76 = .ok (.iload_n 1, 1) := by decide +kernel
theorem dX4_temperatureBefore_77 : decode cX4_temperatureBefore 77 = .ok (.iaload, 1) := by decide +kernel
theorem dX4_temperatureBefore_78 : decode cX4_temperatureBefore 78 = .ok (.iload_n 3, 1) := by decide +kernel
theorem dX4_temperatureBefore_79 : decode cX4_temperatureBefore 79 = .ok (.isub, 1) := by decide +kernel
theorem dX4_temperatureBefore_80 : decode cX4_temperatureBefore 80 = .ok (.imul, 1) := by decide +kernel
theorem dX4_temperatureBefore_81 : decode cX4_temperatureBefore 81 = .ok (.iload 5, 2) := by decide +kernel
theorem dX4_temperatureBefore_83 : decode cX4_temperatureBefore 83 = .ok (.imul, 1) := by decide +kernel
theorem dX4_temperatureBefore_84 : decode cX4_temperatureBefore 84 = .ok (.iload 4, 2) := by decide +kernel
theorem dX4_temperatureBefore_86 : decode cX4_temperatureBefore 86 = .ok (.idiv, 1) := by decide +kernel
theorem dX4_temperatureBefore_87 : decode cX4_temperatureBefore 87 = .ok (.iadd, 1) := by decide +kernel
theorem dX4_temperatureBefore_88 : decode cX4_temperatureBefore 88 = .ok (.ireturn, 1) := by decide +kernel
theorem dX5_init_0 : decode cX5_init 0 = .ok (.aload_n 0, 1) := by decide +kernel
theorem dX5_init_1 : decode cX5_init 1 = .ok (.invokespecial 3, 3) := by decide +kernel
theorem dX5_init_4 : decode cX5_init 4 = .ok (.aload_n 0, 1) := by decide +kernel
theorem dX5_init_5 : decode cX5_init 5 = .ok (.bipush 100, 2) := by decide +kernel
theorem dX5_init_7 : decode cX5_init 7 = .ok (.newarray .int, 2) := by decide +kernel
theorem dX5_init_9 : decode cX5_init 9 = .ok (.putfield 9, 3) := by decide +kernel
theorem dX5_init_12 : decode cX5_init 12 = .ok (.return_, 1) := by decide +kernel
theorem dX6_init_0 : decode cX6_init 0 = .ok (.aload_n 0, 1) := by decide +kernel
theorem dX6_init_1 : decode cX6_init 1 = .ok (.invokespecial 1, 3) := by decide +kernel
theorem dX6_init_4 : decode cX6_init 4 = .ok (.aload_n 0, 1) := by decide +kernel
theorem dX6_init_5 : decode cX6_init 5 = .ok (.new 7, 3) := by decide +kernel
theorem dX6_init_8 : decode cX6_init 8 = .ok (.dup, 1) := by decide +kernel
theorem dX6_init_9 : decode cX6_init 9 = .ok (.invokespecial 9, 3) := by decide +kernel
theorem dX6_init_12 : decode cX6_init 12 = .ok (.putfield 10, 3) := by decide +kernel
theorem dX6_init_15 : decode cX6_init 15 = .ok (.aload_n 0, 1) := by decide +kernel
theorem dX6_init_16 : decode cX6_init 16 = .ok (.new 7, 3) := by decide +kernel
theorem dX6_init_19 : decode cX6_init 19 = .ok (.dup, 1) := by decide +kernel
theorem dX6_init_20 : decode cX6_init 20 = .ok (.invokespecial 9, 3) := by decide +kernel
theorem dX6_init_23 : decode cX6_init 23 = .ok (.putfield 16, 3) := by decide +kernel
theorem dX6_init_26 : decode cX6_init 26 = .ok (.aload_n 0, 1) := by decide +kernel
theorem dX6_init_27 : decode cX6_init 27 = .ok (.new 19, 3) := by decide +kernel
theorem dX6_init_30 : decode cX6_init 30 = .ok (.dup, 1) := by decide +kernel
theorem dX6_init_31 : decode cX6_init 31 = .ok (.invokespecial 21, 3) := by decide +kernel
theorem dX6_init_34 : decode cX6_init 34 = .ok (.putfield 22, 3) := by decide +kernel
theorem dX6_init_37 : decode cX6_init 37 = .ok (.aload_n 0, 1) := by decide +kernel
theorem dX6_init_38 : decode cX6_init 38 = .ok (.new 26, 3) := by decide +kernel
theorem dX6_init_41 : decode cX6_init 41 = .ok (.dup, 1) := by decide +kernel
theorem dX6_init_42 : decode cX6_init 42 = .ok (.invokespecial 28, 3) := by decide +kernel
theorem dX6_init_45 : decode cX6_init 45 = .ok (.putfield 29, 3) := by decide +kernel
theorem dX6_init_48 : decode cX6_init 48 = .ok (.aload_n 0, 1) := by decide +kernel
theorem dX6_init_49 : decode cX6_init 49 = .ok (.new 33, 3) := by decide +kernel
theorem dX6_init_52 : decode cX6_init 52 = .ok (.dup, 1) := by decide +kernel
theorem dX6_init_53 : decode cX6_init 53 = .ok (.invokespecial 35, 3) := by decide +kernel
theorem dX6_init_56 : decode cX6_init 56 = .ok (.putfield 36, 3) := by decide +kernel
theorem dX6_init_59 : decode cX6_init 59 = .ok (.return_, 1) := by decide +kernel
theorem dX6_addRoom_0 : decode cX6_addRoom 0 = .ok (.iload_n 1, 1) := by decide +kernel
theorem dX6_addRoom_1 : decode cX6_addRoom 1 = .ok (.bipush 10, 2) := by decide +kernel
theorem dX6_addRoom_3 : decode cX6_addRoom 3 = .ok (.sipush 500, 3) := by decide +kernel
theorem dX6_addRoom_6 : decode cX6_addRoom 6 = .ok (.invokestatic 40, 3) := by decide +kernel
theorem dX6_addRoom_9 : decode cX6_addRoom 9 = .ok (.ifCond .eq 43, 3) := by decide +kernel
theorem dX6_addRoom_12 : decode cX6_addRoom 12 = .ok (.iload_n 2, 1) := by decide +kernel
theorem dX6_addRoom_13 : decode cX6_addRoom 13 = .ok (.iconst 1, 1) := by decide +kernel
theorem dX6_addRoom_14 : decode cX6_addRoom 14 = .ok (.sipush 200, 3) := by decide +kernel
theorem dX6_addRoom_17 : decode cX6_addRoom 17 = .ok (.invokestatic 40, 3) := by decide +kernel
theorem dX6_addRoom_20 : decode cX6_addRoom 20 = .ok (.ifCond .eq 32, 3) := by decide +kernel
theorem dX6_addRoom_23 : decode cX6_addRoom 23 = .ok (.iload_n 3, 1) := by decide +kernel
theorem dX6_addRoom_24 : decode cX6_addRoom 24 = .ok (.iconst 0, 1) := by decide +kernel
theorem dX6_addRoom_25 : decode cX6_addRoom 25 = .ok (.bipush 50, 2) := by decide +kernel
theorem dX6_addRoom_27 : decode cX6_addRoom 27 = .ok (.invokestatic 40, 3) := by decide +kernel
theorem dX6_addRoom_30 : decode cX6_addRoom 30 = .ok (.ifCond .eq 22, 3) := by decide +kernel
theorem dX6_addRoom_33 : decode cX6_addRoom 33 = .ok (.iload_n 3, 1) := by decide +kernel
theorem dX6_addRoom_34 : decode cX6_addRoom 34 = .ok (.iload_n 1, 1) := by decide +kernel
theorem dX6_addRoom_35 : decode cX6_addRoom 35 = .ok (.iconst 2, 1) := by decide +kernel
theorem dX6_addRoom_36 : decode cX6_addRoom 36 = .ok (.idiv, 1) := by decide +kernel
theorem dX6_addRoom_37 : decode cX6_addRoom 37 = .ok (.if_icmp .gt 15, 3) := by decide +kernel
theorem dX6_addRoom_40 : decode cX6_addRoom 40 = .ok (.iload 4, 2) := by decide +kernel
theorem dX6_addRoom_42 : decode cX6_addRoom 42 = .ok (.bipush (-40), 2) := by decide +kernel
theorem dX6_addRoom_44 : decode cX6_addRoom 44 = .ok (.bipush 40, 2) := by decide +kernel
theorem dX6_addRoom_46 : decode cX6_addRoom 46 = .ok (.invokestatic 40, 3) := by decide +kernel
theorem dX6_addRoom_49 : decode cX6_addRoom 49 = .ok (.ifCond .ne 6, 3) := by decide +kernel
theorem dX6_addRoom_52 : decode cX6_addRoom 52 = .ok (.ldc 44, 2) := by decide +kernel
theorem dX6_addRoom_54 : decode cX6_addRoom 54 = .ok (.ireturn, 1) := by decide +kernel
theorem dX6_addRoom_55 : decode cX6_addRoom 55 = .ok (.aload_n 0, 1) := by decide +kernel
theorem dX6_addRoom_56 : decode cX6_addRoom 56 = .ok (.getfield 10, 3) := by decide +kernel
theorem dX6_addRoom_59 : decode cX6_addRoom 59 = .ok (.getfield 45, 3) := by decide +kernel
theorem dX6_addRoom_62 : decode cX6_addRoom 62 = .ok (.bipush 6, 2) := by decide +kernel
theorem dX6_addRoom_64 : decode cX6_addRoom 64 = .ok (.if_icmp .lt 6, 3) := by decide +kernel
theorem dX6_addRoom_67 : decode cX6_addRoom 67 = .ok (.ldc 49, 2) := by decide +kernel
theorem dX6_addRoom_69 : decode cX6_addRoom 69 = .ok (.ireturn, 1) := by decide +kernel
theorem dX6_addRoom_70 : decode cX6_addRoom 70 = .ok (.aload_n 0, 1) := by decide +kernel
theorem dX6_addRoom_71 : decode cX6_addRoom 71 = .ok (.getfield 22, 3) := by decide +kernel
theorem dX6_addRoom_74 : decode cX6_addRoom 74 = .ok (.aload_n 0, 1) := by decide +kernel
theorem dX6_addRoom_75 : decode cX6_addRoom 75 = .ok (.getfield 10, 3) := by decide +kernel
theorem dX6_addRoom_78 : decode cX6_addRoom 78 = .ok (.invokevirtual 50, 3) := by decide +kernel
theorem dX6_addRoom_81 : decode cX6_addRoom 81 = .ok (.aload_n 0, 1) := by decide +kernel
theorem dX6_addRoom_82 : decode cX6_addRoom 82 = .ok (.getfield 10, 3) := by decide +kernel
theorem dX6_addRoom_85 : decode cX6_addRoom 85 = .ok (.iload_n 1, 1) := by decide +kernel
theorem dX6_addRoom_86 : decode cX6_addRoom 86 = .ok (.iload_n 2, 1) := by decide +kernel
theorem dX6_addRoom_87 : decode cX6_addRoom 87 = .ok (.iload_n 3, 1) := by decide +kernel
theorem dX6_addRoom_88 : decode cX6_addRoom 88 = .ok (.iload 4, 2) := by decide +kernel
theorem dX6_addRoom_90 : decode cX6_addRoom 90 = .ok (.invokevirtual 54, 3) := by decide +kernel
theorem dX6_addRoom_93 : decode cX6_addRoom 93 = .ok (.ireturn, 1) := by decide +kernel
theorem dX6_setLink_0 : decode cX6_setLink 0 = .ok (.aload_n 0, 1) := by decide +kernel
theorem dX6_setLink_1 : decode cX6_setLink 1 = .ok (.getfield 10, 3) := by decide +kernel
theorem dX6_setLink_4 : decode cX6_setLink 4 = .ok (.iload_n 1, 1) := by decide +kernel
theorem dX6_setLink_5 : decode cX6_setLink 5 = .ok (.iload_n 2, 1) := by decide +kernel
theorem dX6_setLink_6 : decode cX6_setLink 6 = .ok (.invokevirtual 58, 3) := by decide +kernel
theorem dX6_setLink_9 : decode cX6_setLink 9 = .ok (.ifCond .eq 13, 3) := by decide +kernel
theorem dX6_setLink_12 : decode cX6_setLink 12 = .ok (.iload_n 3, 1) := by decide +kernel
theorem dX6_setLink_13 : decode cX6_setLink 13 = .ok (.iconst 0, 1) := by decide +kernel
theorem dX6_setLink_14 : decode cX6_setLink 14 = .ok (.bipush 50, 2) := by decide +kernel
theorem dX6_setLink_16 : decode cX6_setLink 16 = .ok (.invokestatic 40, 3) := by decide +kernel
theorem dX6_setLink_19 : decode cX6_setLink 19 = .ok (.ifCond .ne 6, 3) := by decide +kernel
theorem dX6_setLink_22 : decode cX6_setLink 22 = .ok (.ldc 44, 2) := by decide +kernel
theorem dX6_setLink_24 : decode cX6_setLink 24 = .ok (.ireturn, 1) := by decide +kernel
theorem dX6_setLink_25 : decode cX6_setLink 25 = .ok (.aload_n 0, 1) := by decide +kernel
theorem dX6_setLink_26 : decode cX6_setLink 26 = .ok (.getfield 10, 3) := by decide +kernel
theorem dX6_setLink_29 : decode cX6_setLink 29 = .ok (.iload_n 1, 1) := by decide +kernel
theorem dX6_setLink_30 : decode cX6_setLink 30 = .ok (.iload_n 2, 1) := by decide +kernel
theorem dX6_setLink_31 : decode cX6_setLink 31 = .ok (.invokevirtual 62, 3) := by decide +kernel
theorem dX6_setLink_34 : decode cX6_setLink 34 = .ok (.istore 4, 2) := by decide +kernel
theorem dX6_setLink_36 : decode cX6_setLink 36 = .ok (.iload_n 3, 1) := by decide +kernel
theorem dX6_setLink_37 : decode cX6_setLink 37 = .ok (.iload 4, 2) := by decide +kernel
theorem dX6_setLink_39 : decode cX6_setLink 39 = .ok (.isub, 1) := by decide +kernel
theorem dX6_setLink_40 : decode cX6_setLink 40 = .ok (.istore 5, 2) := by decide +kernel
theorem dX6_setLink_42 : decode cX6_setLink 42 = .ok (.aload_n 0, 1) := by decide +kernel
theorem dX6_setLink_43 : decode cX6_setLink 43 = .ok (.getfield 10, 3) := by decide +kernel
theorem dX6_setLink_46 : decode cX6_setLink 46 = .ok (.iload_n 1, 1) := by decide +kernel
theorem dX6_setLink_47 : decode cX6_setLink 47 = .ok (.iload 5, 2) := by decide +kernel
theorem dX6_setLink_49 : decode cX6_setLink 49 = .ok (.invokevirtual 66, 3) := by decide +kernel
theorem dX6_setLink_52 : decode cX6_setLink 52 = .ok (.ifCond .eq 16, 3) := by decide +kernel
theorem dX6_setLink_55 : decode cX6_setLink 55 = .ok (.aload_n 0, 1) := by decide +kernel
theorem dX6_setLink_56 : decode cX6_setLink 56 = .ok (.getfield 10, 3) := by decide +kernel
theorem dX6_setLink_59 : decode cX6_setLink 59 = .ok (.iload_n 2, 1) := by decide +kernel
theorem dX6_setLink_60 : decode cX6_setLink 60 = .ok (.iload 5, 2) := by decide +kernel
theorem dX6_setLink_62 : decode cX6_setLink 62 = .ok (.invokevirtual 66, 3) := by decide +kernel
theorem dX6_setLink_65 : decode cX6_setLink 65 = .ok (.ifCond .ne 6, 3) := by decide +kernel
theorem dX6_setLink_68 : decode cX6_setLink 68 = .ok (.ldc 69, 2) := by decide +kernel
theorem dX6_setLink_70 : decode cX6_setLink 70 = .ok (.ireturn, 1) := by decide +kernel
theorem dX6_setLink_71 : decode cX6_setLink 71 = .ok (.aload_n 0, 1) := by decide +kernel
theorem dX6_setLink_72 : decode cX6_setLink 72 = .ok (.getfield 22, 3) := by decide +kernel
theorem dX6_setLink_75 : decode cX6_setLink 75 = .ok (.aload_n 0, 1) := by decide +kernel
theorem dX6_setLink_76 : decode cX6_setLink 76 = .ok (.getfield 10, 3) := by decide +kernel
theorem dX6_setLink_79 : decode cX6_setLink 79 = .ok (.invokevirtual 50, 3) := by decide +kernel
theorem dX6_setLink_82 : decode cX6_setLink 82 = .ok (.aload_n 0, 1) := by decide +kernel
theorem dX6_setLink_83 : decode cX6_setLink 83 = .ok (.getfield 10, 3) := by decide +kernel
theorem dX6_setLink_86 : decode cX6_setLink 86 = .ok (.iload_n 1, 1) := by decide +kernel
theorem dX6_setLink_87 : decode cX6_setLink 87 = .ok (.iload_n 2, 1) := by decide +kernel
theorem dX6_setLink_88 : decode cX6_setLink 88 = .ok (.iload_n 3, 1) := by decide +kernel
theorem dX6_setLink_89 : decode cX6_setLink 89 = .ok (.invokevirtual 70, 3) := by decide +kernel
theorem dX6_setLink_92 : decode cX6_setLink 92 = .ok (.iload 4, 2) := by decide +kernel
theorem dX6_setLink_94 : decode cX6_setLink 94 = .ok (.ireturn, 1) := by decide +kernel
theorem dX6_setThermostat_0 : decode cX6_setThermostat 0 = .ok (.aload_n 0, 1) := by decide +kernel
theorem dX6_setThermostat_1 : decode cX6_setThermostat 1 = .ok (.getfield 10, 3) := by decide +kernel
theorem dX6_setThermostat_4 : decode cX6_setThermostat 4 = .ok (.iload_n 1, 1) := by decide +kernel
theorem dX6_setThermostat_5 : decode cX6_setThermostat 5 = .ok (.invokevirtual 74, 3) := by decide +kernel
theorem dX6_setThermostat_8 : decode cX6_setThermostat 8 = .ok (.astore 4, 2) := by decide +kernel
theorem dX6_setThermostat_10 : decode cX6_setThermostat 10 = .ok (.aload 4, 2) := by decide +kernel
theorem dX6_setThermostat_12 : decode cX6_setThermostat 12 = .ok (.ifnull 27, 3) := by decide +kernel
theorem dX6_setThermostat_15 : decode cX6_setThermostat 15 = .ok (.iload_n 2, 1) := by decide +kernel
theorem dX6_setThermostat_16 : decode cX6_setThermostat 16 = .ok (.sipush 5000, 3) := by decide +kernel
theorem dX6_setThermostat_19 : decode cX6_setThermostat 19 = .ok (.ldc 78, 2) := by decide +kernel
theorem dX6_setThermostat_21 : decode cX6_setThermostat 21 = .ok (.invokestatic 40, 3) := by decide +kernel
theorem dX6_setThermostat_24 : decode cX6_setThermostat 24 = .ok (.ifCond .eq 15, 3) := by decide +kernel
theorem dX6_setThermostat_27 : decode cX6_setThermostat 27 = .ok (.iload_n 3, 1) := by decide +kernel
theorem dX6_setThermostat_28 : decode cX6_setThermostat 28 = .ok (.bipush 100, 2) := by decide +kernel
theorem dX6_setThermostat_30 : decode cX6_setThermostat 30 = .ok (.sipush 5000, 3) := by decide +kernel
theorem dX6_setThermostat_33 : decode cX6_setThermostat 33 = .ok (.invokestatic 40, 3) := by decide +kernel
theorem dX6_setThermostat_36 : decode cX6_setThermostat 36 = .ok (.ifCond .ne 6, 3) := by decide +kernel
theorem dX6_setThermostat_39 : decode cX6_setThermostat 39 = .ok (.ldc 44, 2) := by decide +kernel
theorem dX6_setThermostat_41 : decode cX6_setThermostat 41 = .ok (.ireturn, 1) := by decide +kernel
theorem dX6_setThermostat_42 : decode cX6_setThermostat 42 = .ok (.aload_n 0, 1) := by decide +kernel
theorem dX6_setThermostat_43 : decode cX6_setThermostat 43 = .ok (.getfield 22, 3) := by decide +kernel
theorem dX6_setThermostat_46 : decode cX6_setThermostat 46 = .ok (.aload_n 0, 1) := by decide +kernel
theorem dX6_setThermostat_47 : decode cX6_setThermostat 47 = .ok (.getfield 10, 3) := by decide +kernel
theorem dX6_setThermostat_50 : decode cX6_setThermostat 50 = .ok (.invokevirtual 50, 3) := by decide +kernel
theorem dX6_setThermostat_53 : decode cX6_setThermostat 53 = .ok (.aload 4, 2) := by decide +kernel
theorem dX6_setThermostat_55 : decode cX6_setThermostat 55 = .ok (.getfield 79, 3) := by decide +kernel
theorem dX6_setThermostat_58 : decode cX6_setThermostat 58 = .ok (.iload_n 2, 1) := by decide +kernel
theorem dX6_setThermostat_59 : decode cX6_setThermostat 59 = .ok (.if_icmp .ne 16, 3) := by decide +kernel
theorem dX6_setThermostat_62 : decode cX6_setThermostat 62 = .ok (.aload 4, 2) := by decide +kernel
theorem dX6_setThermostat_64 : decode cX6_setThermostat 64 = .ok (.getfield 84, 3) := by decide +kernel
theorem dX6_setThermostat_67 : decode cX6_setThermostat 67 = .ok (.iload_n 3, 1) := by decide +kernel
theorem dX6_setThermostat_68 : decode cX6_setThermostat 68 = .ok (.if_icmp .ne 7, 3) := by decide +kernel
theorem dX6_setThermostat_71 : decode cX6_setThermostat 71 = .ok (.iconst 1, 1) := by decide +kernel
theorem dX6_setThermostat_72 : decode cX6_setThermostat 72 = .ok (.goto 4, 3) := by decide +kernel
theorem dX6_setThermostat_75 : decode cX6_setThermostat 75 = .ok (.iconst 0, 1) := by decide +kernel
theorem dX6_setThermostat_76 : decode cX6_setThermostat 76 = .ok (.istore 5, 2) := by decide +kernel
theorem dX6_setThermostat_78 : decode cX6_setThermostat 78 = .ok (.aload 4, 2) := by decide +kernel
theorem dX6_setThermostat_80 : decode cX6_setThermostat 80 = .ok (.iload_n 2, 1) := by decide +kernel
theorem dX6_setThermostat_81 : decode cX6_setThermostat 81 = .ok (.putfield 79, 3) := by decide +kernel
theorem dX6_setThermostat_84 : decode cX6_setThermostat 84 = .ok (.aload 4, 2) := by decide +kernel
theorem dX6_setThermostat_86 : decode cX6_setThermostat 86 = .ok (.iload_n 3, 1) := by decide +kernel
theorem dX6_setThermostat_87 : decode cX6_setThermostat 87 = .ok (.putfield 84, 3) := by decide +kernel
theorem dX6_setThermostat_90 : decode cX6_setThermostat 90 = .ok (.iload 5, 2) := by decide +kernel
theorem dX6_setThermostat_92 : decode cX6_setThermostat 92 = .ok (.ifCond .eq 7, 3) := by decide +kernel
theorem dX6_setThermostat_95 : decode cX6_setThermostat 95 = .ok (.iconst 0, 1) := by decide +kernel
theorem dX6_setThermostat_96 : decode cX6_setThermostat 96 = .ok (.goto 4, 3) := by decide +kernel
theorem dX6_setThermostat_99 : decode cX6_setThermostat 99 = .ok (.iconst 1, 1) := by decide +kernel
theorem dX6_setThermostat_100 : decode cX6_setThermostat 100 = .ok (.ireturn, 1) := by decide +kernel
theorem dX6_setNumber_0 : decode cX6_setNumber 0 = .ok (.iload_n 1, 1) := by decide +kernel
theorem dX6_setNumber_1 : decode cX6_setNumber 1 = .ok (.iload_n 2, 1) := by decide +kernel
theorem dX6_setNumber_2 : decode cX6_setNumber 2 = .ok (.invokestatic 87, 3) := by decide +kernel
theorem dX6_setNumber_5 : decode cX6_setNumber 5 = .ok (.ifCond .ne 6, 3) := by decide +kernel
theorem dX6_setNumber_8 : decode cX6_setNumber 8 = .ok (.ldc 44, 2) := by decide +kernel
theorem dX6_setNumber_10 : decode cX6_setNumber 10 = .ok (.ireturn, 1) := by decide +kernel
theorem dX6_setNumber_11 : decode cX6_setNumber 11 = .ok (.aload_n 0, 1) := by decide +kernel
theorem dX6_setNumber_12 : decode cX6_setNumber 12 = .ok (.getfield 22, 3) := by decide +kernel
theorem dX6_setNumber_15 : decode cX6_setNumber 15 = .ok (.aload_n 0, 1) := by decide +kernel
theorem dX6_setNumber_16 : decode cX6_setNumber 16 = .ok (.getfield 10, 3) := by decide +kernel
theorem dX6_setNumber_19 : decode cX6_setNumber 19 = .ok (.invokevirtual 50, 3) := by decide +kernel
theorem dX6_setNumber_22 : decode cX6_setNumber 22 = .ok (.aload_n 0, 1) := by decide +kernel
theorem dX6_setNumber_23 : decode cX6_setNumber 23 = .ok (.getfield 10, 3) := by decide +kernel
theorem dX6_setNumber_26 : decode cX6_setNumber 26 = .ok (.iload_n 1, 1) := by decide +kernel
theorem dX6_setNumber_27 : decode cX6_setNumber 27 = .ok (.invokevirtual 90, 3) := by decide +kernel
theorem dX6_setNumber_30 : decode cX6_setNumber 30 = .ok (.istore_n 3, 1) := by decide +kernel
theorem dX6_setNumber_31 : decode cX6_setNumber 31 = .ok (.aload_n 0, 1) := by decide +kernel
theorem dX6_setNumber_32 : decode cX6_setNumber 32 = .ok (.getfield 10, 3) := by decide +kernel
theorem dX6_setNumber_35 : decode cX6_setNumber 35 = .ok (.iload_n 1, 1) := by decide +kernel
theorem dX6_setNumber_36 : decode cX6_setNumber 36 = .ok (.iload_n 2, 1) := by decide +kernel
theorem dX6_setNumber_37 : decode cX6_setNumber 37 = .ok (.invokevirtual 94, 3) := by decide +kernel
theorem dX6_setNumber_40 : decode cX6_setNumber 40 = .ok (.iload_n 3, 1) := by decide +kernel
theorem dX6_setNumber_41 : decode cX6_setNumber 41 = .ok (.ireturn, 1) := by decide +kernel
theorem dX6_warm_0 : decode cX6_warm 0 = .ok (.aload_n 0, 1) := by decide +kernel
theorem dX6_warm_1 : decode cX6_warm 1 = .ok (.getfield 10, 3) := by decide +kernel
theorem dX6_warm_4 : decode cX6_warm 4 = .ok (.iload_n 1, 1) := by decide +kernel
theorem dX6_warm_5 : decode cX6_warm 5 = .ok (.invokevirtual 74, 3) := by decide +kernel
theorem dX6_warm_8 : decode cX6_warm 8 = .ok (.astore_n 3, 1) := by decide +kernel
theorem dX6_warm_9 : decode cX6_warm 9 = .ok (.aload_n 3, 1) := by decide +kernel
theorem dX6_warm_10 : decode cX6_warm 10 = .ok (.ifnull 14, 3) := by decide +kernel
theorem dX6_warm_13 : decode cX6_warm 13 = .ok (.iload_n 2, 1) := by decide +kernel
theorem dX6_warm_14 : decode cX6_warm 14 = .ok (.ldc 98, 2) := by decide +kernel
theorem dX6_warm_16 : decode cX6_warm 16 = .ok (.ldc 99, 2) := by decide +kernel
theorem dX6_warm_18 : decode cX6_warm 18 = .ok (.invokestatic 40, 3) := by decide +kernel
theorem dX6_warm_21 : decode cX6_warm 21 = .ok (.ifCond .ne 6, 3) := by decide +kernel
theorem dX6_warm_24 : decode cX6_warm 24 = .ok (.ldc 44, 2) := by decide +kernel
theorem dX6_warm_26 : decode cX6_warm 26 = .ok (.ireturn, 1) := by decide +kernel
theorem dX6_warm_27 : decode cX6_warm 27 = .ok (.aload_n 3, 1) := by decide +kernel
theorem dX6_warm_28 : decode cX6_warm 28 = .ok (.aload_n 3, 1) := by decide +kernel
theorem dX6_warm_29 : decode cX6_warm 29 = .ok (.getfield 100, 3) := by decide +kernel
theorem dX6_warm_32 : decode cX6_warm 32 = .ok (.iload_n 2, 1) := by decide +kernel
theorem dX6_warm_33 : decode cX6_warm 33 = .ok (.iadd, 1) := by decide +kernel
theorem dX6_warm_34 : decode cX6_warm 34 = .ok (.invokevirtual 103, 3) := by decide +kernel
theorem dX6_warm_37 : decode cX6_warm 37 = .ok (.istore 4, 2) := by decide +kernel
theorem dX6_warm_39 : decode cX6_warm 39 = .ok (.iload 4, 2) := by decide +kernel
theorem dX6_warm_41 : decode cX6_warm 41 = .ok (.ldc 106, 2) := by decide +kernel
theorem dX6_warm_43 : decode cX6_warm 43 = .ok (.ldc 107, 2) := by decide +kernel
theorem dX6_warm_45 : decode cX6_warm 45 = .ok (.invokestatic 40, 3) := by decide +kernel
theorem dX6_warm_48 : decode cX6_warm 48 = .ok (.ifCond .ne 6, 3) := by decide +kernel
theorem dX6_warm_51 : decode cX6_warm 51 = .ok (.ldc 69, 2) := by decide +kernel
theorem dX6_warm_53 : decode cX6_warm 53 = .ok (.ireturn, 1) := by decide +kernel
theorem dX6_warm_54 : decode cX6_warm 54 = .ok (.aload_n 0, 1) := by decide +kernel
theorem dX6_warm_55 : decode cX6_warm 55 = .ok (.getfield 22, 3) := by decide +kernel
theorem dX6_warm_58 : decode cX6_warm 58 = .ok (.aload_n 0, 1) := by decide +kernel
theorem dX6_warm_59 : decode cX6_warm 59 = .ok (.getfield 10, 3) := by decide +kernel
theorem dX6_warm_62 : decode cX6_warm 62 = .ok (.invokevirtual 50, 3) := by decide +kernel
theorem dX6_warm_65 : decode cX6_warm 65 = .ok (.aload_n 3, 1) := by decide +kernel
theorem dX6_warm_66 : decode cX6_warm 66 = .ok (.iload_n 2, 1) := by decide +kernel
theorem dX6_warm_67 : decode cX6_warm 67 = .ok (.invokevirtual 108, 3) := by decide +kernel
theorem dX6_warm_70 : decode cX6_warm 70 = .ok (.iload 4, 2) := by decide +kernel
theorem dX6_warm_72 : decode cX6_warm 72 = .ok (.ireturn, 1) := by decide +kernel
theorem dX6_service_0 : decode cX6_service 0 = .ok (.aload_n 0, 1) := by decide +kernel
theorem dX6_service_1 : decode cX6_service 1 = .ok (.getfield 10, 3) := by decide +kernel
theorem dX6_service_4 : decode cX6_service 4 = .ok (.iload_n 1, 1) := by decide +kernel
theorem dX6_service_5 : decode cX6_service 5 = .ok (.invokevirtual 74, 3) := by decide +kernel
theorem dX6_service_8 : decode cX6_service 8 = .ok (.astore_n 2, 1) := by decide +kernel
theorem dX6_service_9 : decode cX6_service 9 = .ok (.aload_n 2, 1) := by decide +kernel
theorem dX6_service_10 : decode cX6_service 10 = .ok (.ifnonnull 6, 3) := by decide +kernel
theorem dX6_service_13 : decode cX6_service 13 = .ok (.ldc 44, 2) := by decide +kernel
theorem dX6_service_15 : decode cX6_service 15 = .ok (.ireturn, 1) := by decide +kernel
theorem dX6_service_16 : decode cX6_service 16 = .ok (.aload_n 0, 1) := by decide +kernel
theorem dX6_service_17 : decode cX6_service 17 = .ok (.getfield 22, 3) := by decide +kernel
theorem dX6_service_20 : decode cX6_service 20 = .ok (.aload_n 0, 1) := by decide +kernel
theorem dX6_service_21 : decode cX6_service 21 = .ok (.getfield 10, 3) := by decide +kernel
theorem dX6_service_24 : decode cX6_service 24 = .ok (.invokevirtual 50, 3) := by decide +kernel
theorem dX6_service_27 : decode cX6_service 27 = .ok (.aload_n 2, 1) := by decide +kernel
theorem dX6_service_28 : decode cX6_service 28 = .ok (.getfield 112, 3) := by decide +kernel
theorem dX6_service_31 : decode cX6_service 31 = .ok (.istore_n 3, 1) := by decide +kernel
theorem dX6_service_32 : decode cX6_service 32 = .ok (.aload_n 2, 1) := by decide +kernel
theorem dX6_service_33 : decode cX6_service 33 = .ok (.invokevirtual 115, 3) := by decide +kernel
theorem dX6_service_36 : decode cX6_service 36 = .ok (.iload_n 3, 1) := by decide +kernel
theorem dX6_service_37 : decode cX6_service 37 = .ok (.ireturn, 1) := by decide +kernel
theorem dX6_resetCutout_0 : decode cX6_resetCutout 0 = .ok (.aload_n 0, 1) := by decide +kernel
theorem dX6_resetCutout_1 : decode cX6_resetCutout 1 = .ok (.getfield 10, 3) := by decide +kernel
theorem dX6_resetCutout_4 : decode cX6_resetCutout 4 = .ok (.iload_n 1, 1) := by decide +kernel
theorem dX6_resetCutout_5 : decode cX6_resetCutout 5 = .ok (.invokevirtual 74, 3) := by decide +kernel
theorem dX6_resetCutout_8 : decode cX6_resetCutout 8 = .ok (.astore_n 2, 1) := by decide +kernel
theorem dX6_resetCutout_9 : decode cX6_resetCutout 9 = .ok (.aload_n 2, 1) := by decide +kernel
theorem dX6_resetCutout_10 : decode cX6_resetCutout 10 = .ok (.ifnonnull 6, 3) := by decide +kernel
theorem dX6_resetCutout_13 : decode cX6_resetCutout 13 = .ok (.ldc 44, 2) := by decide +kernel
theorem dX6_resetCutout_15 : decode cX6_resetCutout 15 = .ok (.ireturn, 1) := by decide +kernel
theorem dX6_resetCutout_16 : decode cX6_resetCutout 16 = .ok (.aload_n 2, 1) := by decide +kernel
theorem dX6_resetCutout_17 : decode cX6_resetCutout 17 = .ok (.invokevirtual 118, 3) := by decide +kernel
theorem dX6_resetCutout_20 : decode cX6_resetCutout 20 = .ok (.istore_n 3, 1) := by decide +kernel
theorem dX6_resetCutout_21 : decode cX6_resetCutout 21 = .ok (.aload_n 2, 1) := by decide +kernel
theorem dX6_resetCutout_22 : decode cX6_resetCutout 22 = .ok (.getfield 122, 3) := by decide +kernel
theorem dX6_resetCutout_25 : decode cX6_resetCutout 25 = .ok (.ifCond .eq 15, 3) := by decide +kernel
theorem dX6_resetCutout_28 : decode cX6_resetCutout 28 = .ok (.iload_n 3, 1) := by decide +kernel
theorem dX6_resetCutout_29 : decode cX6_resetCutout 29 = .ok (.aload_n 0, 1) := by decide +kernel
theorem dX6_resetCutout_30 : decode cX6_resetCutout 30 = .ok (.getfield 10, 3) := by decide +kernel
theorem dX6_resetCutout_33 : decode cX6_resetCutout 33 = .ok (.iconst 5, 1) := by decide +kernel
theorem dX6_resetCutout_34 : decode cX6_resetCutout 34 = .ok (.invokevirtual 90, 3) := by decide +kernel
theorem dX6_resetCutout_37 : decode cX6_resetCutout 37 = .ok (.if_icmp .le 6, 3) := by decide +kernel
theorem dX6_resetCutout_40 : decode cX6_resetCutout 40 = .ok (.ldc 69, 2) := by decide +kernel
theorem dX6_resetCutout_42 : decode cX6_resetCutout 42 = .ok (.ireturn, 1) := by decide +kernel
theorem dX6_resetCutout_43 : decode cX6_resetCutout 43 = .ok (.aload_n 0, 1) := by decide +kernel
theorem dX6_resetCutout_44 : decode cX6_resetCutout 44 = .ok (.getfield 22, 3) := by decide +kernel
theorem dX6_resetCutout_47 : decode cX6_resetCutout 47 = .ok (.aload_n 0, 1) := by decide +kernel
theorem dX6_resetCutout_48 : decode cX6_resetCutout 48 = .ok (.getfield 10, 3) := by decide +kernel
theorem dX6_resetCutout_51 : decode cX6_resetCutout 51 = .ok (.invokevirtual 50, 3) := by decide +kernel
theorem dX6_resetCutout_54 : decode cX6_resetCutout 54 = .ok (.aload_n 2, 1) := by decide +kernel
theorem dX6_resetCutout_55 : decode cX6_resetCutout 55 = .ok (.iconst 0, 1) := by decide +kernel
theorem dX6_resetCutout_56 : decode cX6_resetCutout 56 = .ok (.putfield 122, 3) := by decide +kernel
theorem dX6_resetCutout_59 : decode cX6_resetCutout 59 = .ok (.iload_n 3, 1) := by decide +kernel
theorem dX6_resetCutout_60 : decode cX6_resetCutout 60 = .ok (.ireturn, 1) := by decide +kernel
theorem dX6_room_0 : decode cX6_room 0 = .ok (.aload_n 0, 1) := by decide +kernel
theorem dX6_room_1 : decode cX6_room 1 = .ok (.getfield 10, 3) := by decide +kernel
theorem dX6_room_4 : decode cX6_room 4 = .ok (.iload_n 1, 1) := by decide +kernel
theorem dX6_room_5 : decode cX6_room 5 = .ok (.invokevirtual 74, 3) := by decide +kernel
theorem dX6_room_8 : decode cX6_room 8 = .ok (.astore_n 3, 1) := by decide +kernel
theorem dX6_room_9 : decode cX6_room 9 = .ok (.aload_n 3, 1) := by decide +kernel
theorem dX6_room_10 : decode cX6_room 10 = .ok (.ifnonnull 8, 3) := by decide +kernel
theorem dX6_room_13 : decode cX6_room 13 = .ok (.ldc 44, 2) := by decide +kernel
theorem dX6_room_15 : decode cX6_room 15 = .ok (.goto 8, 3) := by decide +kernel
theorem dX6_room_18 : decode cX6_room 18 = .ok (.aload_n 3, 1) := by decide +kernel
theorem dX6_room_19 : decode cX6_room 19 = .ok (.iload_n 2, 1) := by decide +kernel
theorem dX6_room_20 : decode cX6_room 20 = .ok (.invokevirtual 126, 3) := by decide +kernel
theorem dX6_room_23 : decode cX6_room 23 = .ok (.ireturn, 1) := by decide +kernel
theorem dX6_book_0 : decode cX6_book 0 = .ok (.aload_n 0, 1) := by decide +kernel
theorem dX6_book_1 : decode cX6_book 1 = .ok (.getfield 10, 3) := by decide +kernel
theorem dX6_book_4 : decode cX6_book 4 = .ok (.iload_n 1, 1) := by decide +kernel
theorem dX6_book_5 : decode cX6_book 5 = .ok (.invokevirtual 74, 3) := by decide +kernel
theorem dX6_book_8 : decode cX6_book 8 = .ok (.astore_n 3, 1) := by decide +kernel
theorem dX6_book_9 : decode cX6_book 9 = .ok (.aload_n 3, 1) := by decide +kernel
theorem dX6_book_10 : decode cX6_book 10 = .ok (.ifnonnull 8, 3) := by decide +kernel
theorem dX6_book_13 : decode cX6_book 13 = .ok (.ldc 44, 2) := by decide +kernel
theorem dX6_book_15 : decode cX6_book 15 = .ok (.goto 11, 3) := by decide +kernel
theorem dX6_book_18 : decode cX6_book 18 = .ok (.aload_n 3, 1) := by decide +kernel
theorem dX6_book_19 : decode cX6_book 19 = .ok (.getfield 129, 3) := by decide +kernel
theorem dX6_book_22 : decode cX6_book 22 = .ok (.iload_n 2, 1) := by decide +kernel
theorem dX6_book_23 : decode cX6_book 23 = .ok (.invokevirtual 133, 3) := by decide +kernel
theorem dX6_book_26 : decode cX6_book 26 = .ok (.ireturn, 1) := by decide +kernel
theorem dX6_link_0 : decode cX6_link 0 = .ok (.aload_n 0, 1) := by decide +kernel
theorem dX6_link_1 : decode cX6_link 1 = .ok (.getfield 10, 3) := by decide +kernel
theorem dX6_link_4 : decode cX6_link 4 = .ok (.iload_n 1, 1) := by decide +kernel
theorem dX6_link_5 : decode cX6_link 5 = .ok (.iload_n 2, 1) := by decide +kernel
theorem dX6_link_6 : decode cX6_link 6 = .ok (.invokevirtual 58, 3) := by decide +kernel
theorem dX6_link_9 : decode cX6_link 9 = .ok (.ifCond .eq 15, 3) := by decide +kernel
theorem dX6_link_12 : decode cX6_link 12 = .ok (.aload_n 0, 1) := by decide +kernel
theorem dX6_link_13 : decode cX6_link 13 = .ok (.getfield 10, 3) := by decide +kernel
theorem dX6_link_16 : decode cX6_link 16 = .ok (.iload_n 1, 1) := by decide +kernel
theorem dX6_link_17 : decode cX6_link 17 = .ok (.iload_n 2, 1) := by decide +kernel
theorem dX6_link_18 : decode cX6_link 18 = .ok (.invokevirtual 62, 3) := by decide +kernel
theorem dX6_link_21 : decode cX6_link 21 = .ok (.goto 5, 3) := by decide +kernel
theorem dX6_link_24 : decode cX6_link 24 = .ok (.ldc 44, 2) := by decide +kernel
theorem dX6_link_26 : decode cX6_link 26 = .ok (.ireturn, 1) := by decide +kernel
theorem dX6_count_0 : decode cX6_count 0 = .ok (.iload_n 1, 1) := by decide +kernel
theorem dX6_count_1 : decode cX6_count 1 = .ok (.iconst 0, 1) := by decide +kernel
theorem dX6_count_2 : decode cX6_count 2 = .ok (.bipush 6, 2) := by decide +kernel
theorem dX6_count_4 : decode cX6_count 4 = .ok (.invokestatic 40, 3) := by decide +kernel
theorem dX6_count_7 : decode cX6_count 7 = .ok (.ifCond .eq 12, 3) := by decide +kernel
theorem dX6_count_10 : decode cX6_count 10 = .ok (.aload_n 0, 1) := by decide +kernel
theorem dX6_count_11 : decode cX6_count 11 = .ok (.getfield 10, 3) := by decide +kernel
theorem dX6_count_14 : decode cX6_count 14 = .ok (.iload_n 1, 1) := by decide +kernel
theorem dX6_count_15 : decode cX6_count 15 = .ok (.invokevirtual 90, 3) := by decide +kernel
theorem dX6_count_18 : decode cX6_count 18 = .ok (.ireturn, 1) := by decide +kernel
theorem dX6_count_19 : decode cX6_count 19 = .ok (.iload_n 1, 1) := by decide +kernel
theorem dX6_count_20 : decode cX6_count 20 = .ok (.tableswitch 103 7 13 #[44, 52, 60, 71, 79, 87, 95], 44) := by decide +kernel
theorem dX6_count_64 : decode cX6_count 64 = .ok (.aload_n 0, 1) := by decide +kernel
theorem dX6_count_65 : decode cX6_count 65 = .ok (.getfield 10, 3) := by decide +kernel
theorem dX6_count_68 : decode cX6_count 68 = .ok (.getfield 45, 3) := by decide +kernel
theorem dX6_count_71 : decode cX6_count 71 = .ok (.ireturn, 1) := by decide +kernel
theorem dX6_count_72 : decode cX6_count 72 = .ok (.aload_n 0, 1) := by decide +kernel
theorem dX6_count_73 : decode cX6_count 73 = .ok (.getfield 10, 3) := by decide +kernel
theorem dX6_count_76 : decode cX6_count 76 = .ok (.getfield 138, 3) := by decide +kernel
theorem dX6_count_79 : decode cX6_count 79 = .ok (.ireturn, 1) := by decide +kernel
theorem dX6_count_80 : decode cX6_count 80 = .ok (.aload_n 0, 1) := by decide +kernel
theorem dX6_count_81 : decode cX6_count 81 = .ok (.getfield 10, 3) := by decide +kernel
theorem dX6_count_84 : decode cX6_count 84 = .ok (.getfield 141, 3) := by decide +kernel
theorem dX6_count_87 : decode cX6_count 87 = .ok (.getfield 144, 3) := by decide +kernel
theorem dX6_count_90 : decode cX6_count 90 = .ok (.ireturn, 1) := by decide +kernel
theorem dX6_count_91 : decode cX6_count 91 = .ok (.aload_n 0, 1) := by decide +kernel
theorem dX6_count_92 : decode cX6_count 92 = .ok (.getfield 10, 3) := by decide +kernel
theorem dX6_count_95 : decode cX6_count 95 = .ok (.invokevirtual 147, 3) := by decide +kernel
theorem dX6_count_98 : decode cX6_count 98 = .ok (.ireturn, 1) := by decide +kernel
theorem dX6_count_99 : decode cX6_count 99 = .ok (.aload_n 0, 1) := by decide +kernel
theorem dX6_count_100 : decode cX6_count 100 = .ok (.getfield 10, 3) := by decide +kernel
theorem dX6_count_103 : decode cX6_count 103 = .ok (.invokevirtual 150, 3) := by decide +kernel
theorem dX6_count_106 : decode cX6_count 106 = .ok (.ireturn, 1) := by decide +kernel
theorem dX6_count_107 : decode cX6_count 107 = .ok (.aload_n 0, 1) := by decide +kernel
theorem dX6_count_108 : decode cX6_count 108 = .ok (.getfield 29, 3) := by decide +kernel
theorem dX6_count_111 : decode cX6_count 111 = .ok (.getfield 153, 3) := by decide +kernel
theorem dX6_count_114 : decode cX6_count 114 = .ok (.ireturn, 1) := by decide +kernel
theorem dX6_count_115 : decode cX6_count 115 = .ok (.aload_n 0, 1) := by decide +kernel
theorem dX6_count_116 : decode cX6_count 116 = .ok (.getfield 22, 3) := by decide +kernel
theorem dX6_count_119 : decode cX6_count 119 = .ok (.getfield 156, 3) := by decide +kernel
theorem dX6_count_122 : decode cX6_count 122 = .ok (.ireturn, 1) := by decide +kernel
theorem dX6_count_123 : decode cX6_count 123 = .ok (.ldc 44, 2) := by decide +kernel
theorem dX6_count_125 : decode cX6_count 125 = .ok (.ireturn, 1) := by decide +kernel
theorem dX6_pass_0 : decode cX6_pass 0 = .ok (.iload_n 1, 1) := by decide +kernel
theorem dX6_pass_1 : decode cX6_pass 1 = .ok (.iconst 1, 1) := by decide +kernel
theorem dX6_pass_2 : decode cX6_pass 2 = .ok (.sipush 500, 3) := by decide +kernel
theorem dX6_pass_5 : decode cX6_pass 5 = .ok (.invokestatic 40, 3) := by decide +kernel
theorem dX6_pass_8 : decode cX6_pass 8 = .ok (.ifCond .ne 6, 3) := by decide +kernel
theorem dX6_pass_11 : decode cX6_pass 11 = .ok (.ldc 44, 2) := by decide +kernel
theorem dX6_pass_13 : decode cX6_pass 13 = .ok (.ireturn, 1) := by decide +kernel
theorem dX6_pass_14 : decode cX6_pass 14 = .ok (.aload_n 0, 1) := by decide +kernel
theorem dX6_pass_15 : decode cX6_pass 15 = .ok (.getfield 10, 3) := by decide +kernel
theorem dX6_pass_18 : decode cX6_pass 18 = .ok (.getfield 45, 3) := by decide +kernel
theorem dX6_pass_21 : decode cX6_pass 21 = .ok (.ifCond .ne 6, 3) := by decide +kernel
theorem dX6_pass_24 : decode cX6_pass 24 = .ok (.ldc 69, 2) := by decide +kernel
theorem dX6_pass_26 : decode cX6_pass 26 = .ok (.ireturn, 1) := by decide +kernel
theorem dX6_pass_27 : decode cX6_pass 27 = .ok (.iload_n 1, 1) := by decide +kernel
theorem dX6_pass_28 : decode cX6_pass 28 = .ok (.sipush 20000, 3) := by decide +kernel
theorem dX6_pass_31 : decode cX6_pass 31 = .ok (.aload_n 0, 1) := by decide +kernel
theorem dX6_pass_32 : decode cX6_pass 32 = .ok (.getfield 10, 3) := by decide +kernel
theorem dX6_pass_35 : decode cX6_pass 35 = .ok (.getfield 138, 3) := by decide +kernel
theorem dX6_pass_38 : decode cX6_pass 38 = .ok (.isub, 1) := by decide +kernel
theorem dX6_pass_39 : decode cX6_pass 39 = .ok (.if_icmp .le 6, 3) := by decide +kernel
theorem dX6_pass_42 : decode cX6_pass 42 = .ok (.ldc 49, 2) := by decide +kernel
theorem dX6_pass_44 : decode cX6_pass 44 = .ok (.ireturn, 1) := by decide +kernel
theorem dX6_pass_45 : decode cX6_pass 45 = .ok (.aload_n 0, 1) := by decide +kernel
theorem dX6_pass_46 : decode cX6_pass 46 = .ok (.getfield 22, 3) := by decide +kernel
theorem dX6_pass_49 : decode cX6_pass 49 = .ok (.aload_n 0, 1) := by decide +kernel
theorem dX6_pass_50 : decode cX6_pass 50 = .ok (.getfield 10, 3) := by decide +kernel
theorem dX6_pass_53 : decode cX6_pass 53 = .ok (.invokevirtual 50, 3) := by decide +kernel
theorem dX6_pass_56 : decode cX6_pass 56 = .ok (.aload_n 0, 1) := by decide +kernel
theorem dX6_pass_57 : decode cX6_pass 57 = .ok (.getfield 10, 3) := by decide +kernel
theorem dX6_pass_60 : decode cX6_pass 60 = .ok (.iload_n 1, 1) := by decide +kernel
theorem dX6_pass_61 : decode cX6_pass 61 = .ok (.invokevirtual 172, 3) := by decide +kernel
theorem dX6_pass_64 : decode cX6_pass 64 = .ok (.ireturn, 1) := by decide +kernel
theorem dX6_minutesToSuspect_0 : decode cX6_minutesToSuspect 0 = .ok (.aload_n 0, 1) := by decide +kernel
theorem dX6_minutesToSuspect_1 : decode cX6_minutesToSuspect 1 = .ok (.getfield 16, 3) := by decide +kernel
theorem dX6_minutesToSuspect_4 : decode cX6_minutesToSuspect 4 = .ok (.aload_n 0, 1) := by decide +kernel
theorem dX6_minutesToSuspect_5 : decode cX6_minutesToSuspect 5 = .ok (.getfield 10, 3) := by decide +kernel
theorem dX6_minutesToSuspect_8 : decode cX6_minutesToSuspect 8 = .ok (.invokevirtual 175, 3) := by decide +kernel
theorem dX6_minutesToSuspect_11 : decode cX6_minutesToSuspect 11 = .ok (.aload_n 0, 1) := by decide +kernel
theorem dX6_minutesToSuspect_12 : decode cX6_minutesToSuspect 12 = .ok (.getfield 16, 3) := by decide +kernel
theorem dX6_minutesToSuspect_15 : decode cX6_minutesToSuspect 15 = .ok (.iload_n 1, 1) := by decide +kernel
theorem dX6_minutesToSuspect_16 : decode cX6_minutesToSuspect 16 = .ok (.invokevirtual 74, 3) := by decide +kernel
theorem dX6_minutesToSuspect_19 : decode cX6_minutesToSuspect 19 = .ok (.astore_n 2, 1) := by decide +kernel
theorem dX6_minutesToSuspect_20 : decode cX6_minutesToSuspect 20 = .ok (.aload_n 2, 1) := by decide +kernel
theorem dX6_minutesToSuspect_21 : decode cX6_minutesToSuspect 21 = .ok (.ifnonnull 6, 3) := by decide +kernel
theorem dX6_minutesToSuspect_24 : decode cX6_minutesToSuspect 24 = .ok (.ldc 44, 2) := by decide +kernel
theorem dX6_minutesToSuspect_26 : decode cX6_minutesToSuspect 26 = .ok (.ireturn, 1) := by decide +kernel
theorem dX6_minutesToSuspect_27 : decode cX6_minutesToSuspect 27 = .ok (.iconst 0, 1) := by decide +kernel
theorem dX6_minutesToSuspect_28 : decode cX6_minutesToSuspect 28 = .ok (.istore_n 3, 1) := by decide +kernel
theorem dX6_minutesToSuspect_29 : decode cX6_minutesToSuspect 29 = .ok (.iload_n 3, 1) := by decide +kernel
theorem dX6_minutesToSuspect_30 : decode cX6_minutesToSuspect 30 = .ok (.sipush 1000, 3) := by decide +kernel
theorem dX6_minutesToSuspect_33 : decode cX6_minutesToSuspect 33 = .ok (.if_icmp .ge 30, 3) := by decide +kernel
theorem dX6_minutesToSuspect_36 : decode cX6_minutesToSuspect 36 = .ok (.aload_n 0, 1) := by decide +kernel
theorem dX6_minutesToSuspect_37 : decode cX6_minutesToSuspect 37 = .ok (.getfield 16, 3) := by decide +kernel
theorem dX6_minutesToSuspect_40 : decode cX6_minutesToSuspect 40 = .ok (.aload_n 2, 1) := by decide +kernel
theorem dX6_minutesToSuspect_41 : decode cX6_minutesToSuspect 41 = .ok (.invokevirtual 177, 3) := by decide +kernel
theorem dX6_minutesToSuspect_44 : decode cX6_minutesToSuspect 44 = .ok (.ifCond .eq 5, 3) := by decide +kernel
theorem dX6_minutesToSuspect_47 : decode cX6_minutesToSuspect 47 = .ok (.iload_n 3, 1) := by decide +kernel
theorem dX6_minutesToSuspect_48 : decode cX6_minutesToSuspect 48 = .ok (.ireturn, 1) := by decide +kernel
theorem dX6_minutesToSuspect_49 : decode cX6_minutesToSuspect 49 = .ok (.aload_n 0, 1) := by decide +kernel
theorem dX6_minutesToSuspect_50 : decode cX6_minutesToSuspect 50 = .ok (.getfield 16, 3) := by decide +kernel
theorem dX6_minutesToSuspect_53 : decode cX6_minutesToSuspect 53 = .ok (.invokevirtual 181, 3) := by decide +kernel
theorem dX6_minutesToSuspect_56 : decode cX6_minutesToSuspect 56 = .ok (.pop, 1) := by decide +kernel
theorem dX6_minutesToSuspect_57 : decode cX6_minutesToSuspect 57 = .ok (.iinc 3 1, 3) := by decide +kernel
theorem dX6_minutesToSuspect_60 : decode cX6_minutesToSuspect 60 = .ok (.goto (-31), 3) := by decide +kernel
theorem dX6_minutesToSuspect_63 : decode cX6_minutesToSuspect 63 = .ok (.aload_n 0, 1) := by decide +kernel
theorem dX6_minutesToSuspect_64 : decode cX6_minutesToSuspect 64 = .ok (.getfield 16, 3) := by decide +kernel
theorem dX6_minutesToSuspect_67 : decode cX6_minutesToSuspect 67 = .ok (.aload_n 2, 1) := by decide +kernel
theorem dX6_minutesToSuspect_68 : decode cX6_minutesToSuspect 68 = .ok (.invokevirtual 177, 3) := by decide +kernel
theorem dX6_minutesToSuspect_71 : decode cX6_minutesToSuspect 71 = .ok (.ifCond .eq 9, 3) := by decide +kernel
theorem dX6_minutesToSuspect_74 : decode cX6_minutesToSuspect 74 = .ok (.sipush 1000, 3) := by decide +kernel
theorem dX6_minutesToSuspect_77 : decode cX6_minutesToSuspect 77 = .ok (.goto 5, 3) := by decide +kernel
theorem dX6_minutesToSuspect_80 : decode cX6_minutesToSuspect 80 = .ok (.ldc 184, 2) := by decide +kernel
theorem dX6_minutesToSuspect_82 : decode cX6_minutesToSuspect 82 = .ok (.ireturn, 1) := by decide +kernel
theorem dX6_heatIn_0 : decode cX6_heatIn 0 = .ok (.iload_n 1, 1) := by decide +kernel
theorem dX6_heatIn_1 : decode cX6_heatIn 1 = .ok (.iconst 1, 1) := by decide +kernel
theorem dX6_heatIn_2 : decode cX6_heatIn 2 = .ok (.sipush 1000, 3) := by decide +kernel
theorem dX6_heatIn_5 : decode cX6_heatIn 5 = .ok (.invokestatic 40, 3) := by decide +kernel
theorem dX6_heatIn_8 : decode cX6_heatIn 8 = .ok (.ifCond .ne 6, 3) := by decide +kernel
theorem dX6_heatIn_11 : decode cX6_heatIn 11 = .ok (.ldc 44, 2) := by decide +kernel
theorem dX6_heatIn_13 : decode cX6_heatIn 13 = .ok (.ireturn, 1) := by decide +kernel
theorem dX6_heatIn_14 : decode cX6_heatIn 14 = .ok (.aload_n 0, 1) := by decide +kernel
theorem dX6_heatIn_15 : decode cX6_heatIn 15 = .ok (.getfield 16, 3) := by decide +kernel
theorem dX6_heatIn_18 : decode cX6_heatIn 18 = .ok (.aload_n 0, 1) := by decide +kernel
theorem dX6_heatIn_19 : decode cX6_heatIn 19 = .ok (.getfield 10, 3) := by decide +kernel
theorem dX6_heatIn_22 : decode cX6_heatIn 22 = .ok (.invokevirtual 175, 3) := by decide +kernel
theorem dX6_heatIn_25 : decode cX6_heatIn 25 = .ok (.aload_n 0, 1) := by decide +kernel
theorem dX6_heatIn_26 : decode cX6_heatIn 26 = .ok (.getfield 16, 3) := by decide +kernel
theorem dX6_heatIn_29 : decode cX6_heatIn 29 = .ok (.iload_n 1, 1) := by decide +kernel
theorem dX6_heatIn_30 : decode cX6_heatIn 30 = .ok (.invokevirtual 172, 3) := by decide +kernel
theorem dX6_heatIn_33 : decode cX6_heatIn 33 = .ok (.pop, 1) := by decide +kernel
theorem dX6_heatIn_34 : decode cX6_heatIn 34 = .ok (.aload_n 0, 1) := by decide +kernel
theorem dX6_heatIn_35 : decode cX6_heatIn 35 = .ok (.getfield 16, 3) := by decide +kernel
theorem dX6_heatIn_38 : decode cX6_heatIn 38 = .ok (.invokevirtual 185, 3) := by decide +kernel
theorem dX6_heatIn_41 : decode cX6_heatIn 41 = .ok (.aload_n 0, 1) := by decide +kernel
theorem dX6_heatIn_42 : decode cX6_heatIn 42 = .ok (.getfield 10, 3) := by decide +kernel
theorem dX6_heatIn_45 : decode cX6_heatIn 45 = .ok (.invokevirtual 185, 3) := by decide +kernel
theorem dX6_heatIn_48 : decode cX6_heatIn 48 = .ok (.isub, 1) := by decide +kernel
theorem dX6_heatIn_49 : decode cX6_heatIn 49 = .ok (.ireturn, 1) := by decide +kernel
theorem dX6_undo_0 : decode cX6_undo 0 = .ok (.aload_n 0, 1) := by decide +kernel
theorem dX6_undo_1 : decode cX6_undo 1 = .ok (.getfield 22, 3) := by decide +kernel
theorem dX6_undo_4 : decode cX6_undo 4 = .ok (.getfield 156, 3) := by decide +kernel
theorem dX6_undo_7 : decode cX6_undo 7 = .ok (.ifCond .ne 6, 3) := by decide +kernel
theorem dX6_undo_10 : decode cX6_undo 10 = .ok (.ldc 69, 2) := by decide +kernel
theorem dX6_undo_12 : decode cX6_undo 12 = .ok (.ireturn, 1) := by decide +kernel
theorem dX6_undo_13 : decode cX6_undo 13 = .ok (.aload_n 0, 1) := by decide +kernel
theorem dX6_undo_14 : decode cX6_undo 14 = .ok (.getfield 22, 3) := by decide +kernel
theorem dX6_undo_17 : decode cX6_undo 17 = .ok (.aload_n 0, 1) := by decide +kernel
theorem dX6_undo_18 : decode cX6_undo 18 = .ok (.getfield 10, 3) := by decide +kernel
theorem dX6_undo_21 : decode cX6_undo 21 = .ok (.invokevirtual 199, 3) := by decide +kernel
theorem dX6_undo_24 : decode cX6_undo 24 = .ok (.aload_n 0, 1) := by decide +kernel
theorem dX6_undo_25 : decode cX6_undo 25 = .ok (.getfield 22, 3) := by decide +kernel
theorem dX6_undo_28 : decode cX6_undo 28 = .ok (.getfield 156, 3) := by decide +kernel
theorem dX6_undo_31 : decode cX6_undo 31 = .ok (.ireturn, 1) := by decide +kernel
theorem dX6_isNumberInRange_0 : decode cX6_isNumberInRange 0 = .ok (.iload_n 0, 1) := by decide +kernel
theorem dX6_isNumberInRange_1 : decode cX6_isNumberInRange 1 = .ok (.ifCond .lt 40, 3) := by decide +kernel
theorem dX6_isNumberInRange_4 : decode cX6_isNumberInRange 4 = .ok (.iload_n 0, 1) := by decide +kernel
theorem dX6_isNumberInRange_5 : decode cX6_isNumberInRange 5 = .ok (.getstatic 202, 3) := by decide +kernel
theorem dX6_isNumberInRange_8 : decode cX6_isNumberInRange 8 = .ok (.arraylength, 1) := by decide +kernel
theorem dX6_isNumberInRange_9 : decode cX6_isNumberInRange 9 = .ok (.if_icmp .ge 32, 3) := by decide +kernel
theorem dX6_isNumberInRange_12 : decode cX6_isNumberInRange 12 = .ok (.iload_n 0, 1) := by decide +kernel
theorem dX6_isNumberInRange_13 : decode cX6_isNumberInRange 13 = .ok (.getstatic 206, 3) := by decide +kernel
theorem dX6_isNumberInRange_16 : decode cX6_isNumberInRange 16 = .ok (.arraylength, 1) := by decide +kernel
theorem dX6_isNumberInRange_17 : decode cX6_isNumberInRange 17 = .ok (.if_icmp .ge 24, 3) := by decide +kernel
theorem dX6_isNumberInRange_20 : decode cX6_isNumberInRange 20 = .ok (.iload_n 1, 1) := by decide +kernel
theorem dX6_isNumberInRange_21 : decode cX6_isNumberInRange 21 = .ok (.getstatic 202, 3) := by decide +kernel
theorem dX6_isNumberInRange_24 : decode cX6_isNumberInRange 24 = .ok (.iload_n 0, 1) := by decide +kernel
theorem dX6_isNumberInRange_25 : decode cX6_isNumberInRange 25 = .ok (.iaload, 1) := by decide +kernel
theorem dX6_isNumberInRange_26 : decode cX6_isNumberInRange 26 = .ok (.getstatic 206, 3) := by decide +kernel
theorem dX6_isNumberInRange_29 : decode cX6_isNumberInRange 29 = .ok (.iload_n 0, 1) := by decide +kernel
theorem dX6_isNumberInRange_30 : decode cX6_isNumberInRange 30 = .ok (.iaload, 1) := by decide +kernel
theorem dX6_isNumberInRange_31 : decode cX6_isNumberInRange 31 = .ok (.invokestatic 40, 3) := by decide +kernel
theorem dX6_isNumberInRange_34 : decode cX6_isNumberInRange 34 = .ok (.ifCond .eq 7, 3) := by decide +kernel
theorem dX6_isNumberInRange_37 : decode cX6_isNumberInRange 37 = .ok (.iconst 1, 1) := by decide +kernel
theorem dX6_isNumberInRange_38 : decode cX6_isNumberInRange 38 = .ok (.goto 4, 3) := by decide +kernel
theorem dX6_isNumberInRange_41 : decode cX6_isNumberInRange 41 = .ok (.iconst 0, 1) := by decide +kernel
theorem dX6_isNumberInRange_42 : decode cX6_isNumberInRange 42 = .ok (.ireturn, 1) := by decide +kernel
theorem dX6_within_0 : decode cX6_within 0 = .ok (.iload_n 0, 1) := by decide +kernel
theorem dX6_within_1 : decode cX6_within 1 = .ok (.iload_n 1, 1) := by decide +kernel
theorem dX6_within_2 : decode cX6_within 2 = .ok (.if_icmp .lt 12, 3) := by decide +kernel
theorem dX6_within_5 : decode cX6_within 5 = .ok (.iload_n 0, 1) := by decide +kernel
theorem dX6_within_6 : decode cX6_within 6 = .ok (.iload_n 2, 1) := by decide +kernel
theorem dX6_within_7 : decode cX6_within 7 = .ok (.if_icmp .gt 7, 3) := by decide +kernel
theorem dX6_within_10 : decode cX6_within 10 = .ok (.iconst 1, 1) := by decide +kernel
theorem dX6_within_11 : decode cX6_within 11 = .ok (.goto 4, 3) := by decide +kernel
theorem dX6_within_14 : decode cX6_within 14 = .ok (.iconst 0, 1) := by decide +kernel
theorem dX6_within_15 : decode cX6_within 15 = .ok (.ireturn, 1) := by decide +kernel
theorem dJ9_floorDiv_7cf53_0 : decode cJ9_floorDiv_7cf53 0 = .ok (.iload_n 0, 1) := by decide +kernel
theorem dJ9_floorDiv_7cf53_1 : decode cJ9_floorDiv_7cf53 1 = .ok (.iload_n 1, 1) := by decide +kernel
theorem dJ9_floorDiv_7cf53_2 : decode cJ9_floorDiv_7cf53 2 = .ok (.idiv, 1) := by decide +kernel
theorem dJ9_floorDiv_7cf53_3 : decode cJ9_floorDiv_7cf53 3 = .ok (.istore_n 2, 1) := by decide +kernel
theorem dJ9_floorDiv_7cf53_4 : decode cJ9_floorDiv_7cf53 4 = .ok (.iload_n 0, 1) := by decide +kernel
theorem dJ9_floorDiv_7cf53_5 : decode cJ9_floorDiv_7cf53 5 = .ok (.iload_n 1, 1) := by decide +kernel
theorem dJ9_floorDiv_7cf53_6 : decode cJ9_floorDiv_7cf53 6 = .ok (.ixor, 1) := by decide +kernel
theorem dJ9_floorDiv_7cf53_7 : decode cJ9_floorDiv_7cf53 7 = .ok (.ifCond .ge 14, 3) := by decide +kernel
theorem dJ9_floorDiv_7cf53_10 : decode cJ9_floorDiv_7cf53 10 = .ok (.iload_n 2, 1) := by decide +kernel
theorem dJ9_floorDiv_7cf53_11 : decode cJ9_floorDiv_7cf53 11 = .ok (.iload_n 1, 1) := by decide +kernel
theorem dJ9_floorDiv_7cf53_12 : decode cJ9_floorDiv_7cf53 12 = .ok (.imul, 1) := by decide +kernel
theorem dJ9_floorDiv_7cf53_13 : decode cJ9_floorDiv_7cf53 13 = .ok (.iload_n 0, 1) := by decide +kernel
theorem dJ9_floorDiv_7cf53_14 : decode cJ9_floorDiv_7cf53 14 = .ok (.if_icmp .eq 7, 3) := by decide +kernel
theorem dJ9_floorDiv_7cf53_17 : decode cJ9_floorDiv_7cf53 17 = .ok (.iload_n 2, 1) := by decide +kernel
theorem dJ9_floorDiv_7cf53_18 : decode cJ9_floorDiv_7cf53 18 = .ok (.iconst 1, 1) := by decide +kernel
theorem dJ9_floorDiv_7cf53_19 : decode cJ9_floorDiv_7cf53 19 = .ok (.isub, 1) := by decide +kernel
theorem dJ9_floorDiv_7cf53_20 : decode cJ9_floorDiv_7cf53 20 = .ok (.ireturn, 1) := by decide +kernel
theorem dJ9_floorDiv_7cf53_21 : decode cJ9_floorDiv_7cf53 21 = .ok (.iload_n 2, 1) := by decide +kernel
theorem dJ9_floorDiv_7cf53_22 : decode cJ9_floorDiv_7cf53 22 = .ok (.ireturn, 1) := by decide +kernel
theorem dJ9_min_7cf53_0 : decode cJ9_min_7cf53 0 = .ok (.iload_n 0, 1) := by decide +kernel
theorem dJ9_min_7cf53_1 : decode cJ9_min_7cf53 1 = .ok (.iload_n 1, 1) := by decide +kernel
theorem dJ9_min_7cf53_2 : decode cJ9_min_7cf53 2 = .ok (.if_icmp .gt 7, 3) := by decide +kernel
theorem dJ9_min_7cf53_5 : decode cJ9_min_7cf53 5 = .ok (.iload_n 0, 1) := by decide +kernel
theorem dJ9_min_7cf53_6 : decode cJ9_min_7cf53 6 = .ok (.goto 4, 3) := by decide +kernel
theorem dJ9_min_7cf53_9 : decode cJ9_min_7cf53 9 = .ok (.iload_n 1, 1) := by decide +kernel
theorem dJ9_min_7cf53_10 : decode cJ9_min_7cf53 10 = .ok (.ireturn, 1) := by decide +kernel
theorem dL_cell_0 : decode cL_cell 0 = .ok (.iload_n 1, 1) := by decide +kernel
theorem dL_cell_1 : decode cL_cell 1 = .ok (.aload_n 0, 1) := by decide +kernel
theorem dL_cell_2 : decode cL_cell 2 = .ok (.arraylength, 1) := by decide +kernel
theorem dL_cell_3 : decode cL_cell 3 = .ok (.if_icmp .ge 9, 3) := by decide +kernel
theorem dL_cell_6 : decode cL_cell 6 = .ok (.aload_n 0, 1) := by decide +kernel
theorem dL_cell_7 : decode cL_cell 7 = .ok (.iload_n 1, 1) := by decide +kernel
theorem dL_cell_8 : decode cL_cell 8 = .ok (.iaload, 1) := by decide +kernel
theorem dL_cell_9 : decode cL_cell 9 = .ok (.goto 15, 3) := by decide +kernel
theorem dL_cell_12 : decode cL_cell 12 = .ok (.sipush 7919, 3) := by decide +kernel
theorem dL_cell_15 : decode cL_cell 15 = .ok (.iload_n 1, 1) := by decide +kernel
theorem dL_cell_16 : decode cL_cell 16 = .ok (.iconst 3, 1) := by decide +kernel
theorem dL_cell_17 : decode cL_cell 17 = .ok (.iadd, 1) := by decide +kernel
theorem dL_cell_18 : decode cL_cell 18 = .ok (.imul, 1) := by decide +kernel
theorem dL_cell_19 : decode cL_cell 19 = .ok (.iload_n 1, 1) := by decide +kernel
theorem dL_cell_20 : decode cL_cell 20 = .ok (.bipush 11, 2) := by decide +kernel
theorem dL_cell_22 : decode cL_cell 22 = .ok (.iadd, 1) := by decide +kernel
theorem dL_cell_23 : decode cL_cell 23 = .ok (.imul, 1) := by decide +kernel
theorem dL_cell_24 : decode cL_cell 24 = .ok (.ireturn, 1) := by decide +kernel
theorem dL_low_0 : decode cL_low 0 = .ok (.iload_n 0, 1) := by decide +kernel
theorem dL_low_1 : decode cL_low 1 = .ok (.ldc 7, 2) := by decide +kernel
theorem dL_low_3 : decode cL_low 3 = .ok (.iand, 1) := by decide +kernel
theorem dL_low_4 : decode cL_low 4 = .ok (.iload_n 1, 1) := by decide +kernel
theorem dL_low_5 : decode cL_low 5 = .ok (.irem, 1) := by decide +kernel
theorem dL_low_6 : decode cL_low 6 = .ok (.ireturn, 1) := by decide +kernel
theorem dL_tale_0 : decode cL_tale 0 = .ok (.ldc2_w 8, 3) := by decide +kernel
theorem dL_tale_3 : decode cL_tale 3 = .ok (.lstore_n 1, 1) := by decide +kernel
theorem dL_tale_4 : decode cL_tale 4 = .ok (.iconst 0, 1) := by decide +kernel
theorem dL_tale_5 : decode cL_tale 5 = .ok (.istore_n 3, 1) := by decide +kernel
theorem dL_tale_6 : decode cL_tale 6 = .ok (.iload_n 3, 1) := by decide +kernel
theorem dL_tale_7 : decode cL_tale 7 = .ok (.bipush 12, 2) := by decide +kernel
theorem dL_tale_9 : decode cL_tale 9 = .ok (.if_icmp .ge 22, 3) := by decide +kernel
theorem dL_tale_12 : decode cL_tale 12 = .ok (.lload_n 1, 1) := by decide +kernel
theorem dL_tale_13 : decode cL_tale 13 = .ok (.ldc2_w 10, 3) := by decide +kernel
theorem dL_tale_16 : decode cL_tale 16 = .ok (.lmul, 1) := by decide +kernel
theorem dL_tale_17 : decode cL_tale 17 = .ok (.aload_n 0, 1) := by decide +kernel
theorem dL_tale_18 : decode cL_tale 18 = .ok (.iload_n 3, 1) := by decide +kernel
theorem dL_tale_19 : decode cL_tale 19 = .ok (.invokevirtual 12, 3) := by decide +kernel
theorem dL_tale_22 : decode cL_tale 22 = .ok (.i2l, 1) := by decide +kernel
theorem dL_tale_23 : decode cL_tale 23 = .ok (.ladd, 1) := by decide +kernel
theorem dL_tale_24 : decode cL_tale 24 = .ok (.lstore_n 1, 1) := by decide +kernel
theorem dL_tale_25 : decode cL_tale 25 = .ok (.iinc 3 1, 3) := by decide +kernel
theorem dL_tale_28 : decode cL_tale 28 = .ok (.goto (-22), 3) := by decide +kernel
theorem dL_tale_31 : decode cL_tale 31 = .ok (.iconst 0, 1) := by decide +kernel
theorem dL_tale_32 : decode cL_tale 32 = .ok (.istore_n 3, 1) := by decide +kernel
theorem dL_tale_33 : decode cL_tale 33 = .ok (.iload_n 3, 1) := by decide +kernel
theorem dL_tale_34 : decode cL_tale 34 = .ok (.aload_n 0, 1) := by decide +kernel
theorem dL_tale_35 : decode cL_tale 35 = .ok (.bipush 7, 2) := by decide +kernel
theorem dL_tale_37 : decode cL_tale 37 = .ok (.invokevirtual 12, 3) := by decide +kernel
theorem dL_tale_40 : decode cL_tale 40 = .ok (.if_icmp .ge 105, 3) := by decide +kernel
theorem dL_tale_43 : decode cL_tale 43 = .ok (.iconst 0, 1) := by decide +kernel
theorem dL_tale_44 : decode cL_tale 44 = .ok (.istore 4, 2) := by decide +kernel
theorem dL_tale_46 : decode cL_tale 46 = .ok (.iload 4, 2) := by decide +kernel
theorem dL_tale_48 : decode cL_tale 48 = .ok (.bipush 14, 2) := by decide +kernel
theorem dL_tale_50 : decode cL_tale 50 = .ok (.if_icmp .ge 24, 3) := by decide +kernel
theorem dL_tale_53 : decode cL_tale 53 = .ok (.lload_n 1, 1) := by decide +kernel
theorem dL_tale_54 : decode cL_tale 54 = .ok (.ldc2_w 18, 3) := by decide +kernel
theorem dL_tale_57 : decode cL_tale 57 = .ok (.lmul, 1) := by decide +kernel
theorem dL_tale_58 : decode cL_tale 58 = .ok (.aload_n 0, 1) := by decide +kernel
theorem dL_tale_59 : decode cL_tale 59 = .ok (.iload_n 3, 1) := by decide +kernel
theorem dL_tale_60 : decode cL_tale 60 = .ok (.iload 4, 2) := by decide +kernel
theorem dL_tale_62 : decode cL_tale 62 = .ok (.invokevirtual 20, 3) := by decide +kernel
theorem dL_tale_65 : decode cL_tale 65 = .ok (.i2l, 1) := by decide +kernel
theorem dL_tale_66 : decode cL_tale 66 = .ok (.ladd, 1) := by decide +kernel
theorem dL_tale_67 : decode cL_tale 67 = .ok (.lstore_n 1, 1) := by decide +kernel
theorem dL_tale_68 : decode cL_tale 68 = .ok (.iinc 4 1, 3) := by decide +kernel
theorem dL_tale_71 : decode cL_tale 71 = .ok (.goto (-25), 3) := by decide +kernel
theorem dL_tale_74 : decode cL_tale 74 = .ok (.iconst 0, 1) := by decide +kernel
theorem dL_tale_75 : decode cL_tale 75 = .ok (.istore 4, 2) := by decide +kernel
theorem dL_tale_77 : decode cL_tale 77 = .ok (.iload 4, 2) := by decide +kernel
theorem dL_tale_79 : decode cL_tale 79 = .ok (.iconst 5, 1) := by decide +kernel
theorem dL_tale_80 : decode cL_tale 80 = .ok (.if_icmp .ge 24, 3) := by decide +kernel
theorem dL_tale_83 : decode cL_tale 83 = .ok (.lload_n 1, 1) := by decide +kernel
theorem dL_tale_84 : decode cL_tale 84 = .ok (.ldc2_w 24, 3) := by decide +kernel
theorem dL_tale_87 : decode cL_tale 87 = .ok (.lmul, 1) := by decide +kernel
theorem dL_tale_88 : decode cL_tale 88 = .ok (.aload_n 0, 1) := by decide +kernel
theorem dL_tale_89 : decode cL_tale 89 = .ok (.iload_n 3, 1) := by decide +kernel
theorem dL_tale_90 : decode cL_tale 90 = .ok (.iload 4, 2) := by decide +kernel
theorem dL_tale_92 : decode cL_tale 92 = .ok (.invokevirtual 26, 3) := by decide +kernel
theorem dL_tale_95 : decode cL_tale 95 = .ok (.i2l, 1) := by decide +kernel
theorem dL_tale_96 : decode cL_tale 96 = .ok (.ladd, 1) := by decide +kernel
theorem dL_tale_97 : decode cL_tale 97 = .ok (.lstore_n 1, 1) := by decide +kernel
theorem dL_tale_98 : decode cL_tale 98 = .ok (.iinc 4 1, 3) := by decide +kernel
theorem dL_tale_101 : decode cL_tale 101 = .ok (.goto (-24), 3) := by decide +kernel
theorem dL_tale_104 : decode cL_tale 104 = .ok (.iconst 0, 1) := by decide +kernel
theorem dL_tale_105 : decode cL_tale 105 = .ok (.istore 4, 2) := by decide +kernel
theorem dL_tale_107 : decode cL_tale 107 = .ok (.iload 4, 2) := by decide +kernel
theorem dL_tale_109 : decode cL_tale 109 = .ok (.aload_n 0, 1) := by decide +kernel
theorem dL_tale_110 : decode cL_tale 110 = .ok (.bipush 7, 2) := by decide +kernel
theorem dL_tale_112 : decode cL_tale 112 = .ok (.invokevirtual 12, 3) := by decide +kernel
theorem dL_tale_115 : decode cL_tale 115 = .ok (.if_icmp .ge 24, 3) := by decide +kernel
theorem dL_tale_118 : decode cL_tale 118 = .ok (.lload_n 1, 1) := by decide +kernel
theorem dL_tale_119 : decode cL_tale 119 = .ok (.ldc2_w 29, 3) := by decide +kernel
theorem dL_tale_122 : decode cL_tale 122 = .ok (.lmul, 1) := by decide +kernel
theorem dL_tale_123 : decode cL_tale 123 = .ok (.aload_n 0, 1) := by decide +kernel
theorem dL_tale_124 : decode cL_tale 124 = .ok (.iload_n 3, 1) := by decide +kernel
theorem dL_tale_125 : decode cL_tale 125 = .ok (.iload 4, 2) := by decide +kernel
theorem dL_tale_127 : decode cL_tale 127 = .ok (.invokevirtual 31, 3) := by decide +kernel
theorem dL_tale_130 : decode cL_tale 130 = .ok (.i2l, 1) := by decide +kernel
theorem dL_tale_131 : decode cL_tale 131 = .ok (.ladd, 1) := by decide +kernel
theorem dL_tale_132 : decode cL_tale 132 = .ok (.lstore_n 1, 1) := by decide +kernel
theorem dL_tale_133 : decode cL_tale 133 = .ok (.iinc 4 1, 3) := by decide +kernel
theorem dL_tale_136 : decode cL_tale 136 = .ok (.goto (-29), 3) := by decide +kernel
theorem dL_tale_139 : decode cL_tale 139 = .ok (.iinc 3 1, 3) := by decide +kernel
theorem dL_tale_142 : decode cL_tale 142 = .ok (.goto (-109), 3) := by decide +kernel
theorem dL_tale_145 : decode cL_tale 145 = .ok (.lload_n 1, 1) := by decide +kernel
theorem dL_tale_146 : decode cL_tale 146 = .ok (.lreturn, 1) := by decide +kernel
theorem dL_does_0 : decode cL_does 0 = .ok (.iload_n 1, 1) := by decide +kernel
theorem dL_does_1 : decode cL_does 1 = .ok (.iconst 4, 1) := by decide +kernel
theorem dL_does_2 : decode cL_does 2 = .ok (.ishr, 1) := by decide +kernel
theorem dL_does_3 : decode cL_does 3 = .ok (.iconst 4, 1) := by decide +kernel
theorem dL_does_4 : decode cL_does 4 = .ok (.invokestatic 34, 3) := by decide +kernel
theorem dL_does_7 : decode cL_does 7 = .ok (.istore_n 2, 1) := by decide +kernel
theorem dL_does_8 : decode cL_does 8 = .ok (.iload_n 1, 1) := by decide +kernel
theorem dL_does_9 : decode cL_does 9 = .ok (.bipush 15, 2) := by decide +kernel
theorem dL_does_11 : decode cL_does 11 = .ok (.iand, 1) := by decide +kernel
theorem dL_does_12 : decode cL_does 12 = .ok (.tableswitch 214 0 8 #[52, 52, 102, 102, 125, 160, 183, 202, 208], 52) := by decide +kernel
theorem dL_does_64 : decode cL_does 64 = .ok (.aload_n 0, 1) := by decide +kernel
theorem dL_does_65 : decode cL_does 65 = .ok (.bipush 9, 2) := by decide +kernel
theorem dL_does_67 : decode cL_does 67 = .ok (.iload_n 1, 1) := by decide +kernel
theorem dL_does_68 : decode cL_does 68 = .ok (.bipush 6, 2) := by decide +kernel
theorem dL_does_70 : decode cL_does 70 = .ok (.ishr, 1) := by decide +kernel
theorem dL_does_71 : decode cL_does 71 = .ok (.sipush 150, 3) := by decide +kernel
theorem dL_does_74 : decode cL_does 74 = .ok (.invokestatic 34, 3) := by decide +kernel
theorem dL_does_77 : decode cL_does 77 = .ok (.iadd, 1) := by decide +kernel
theorem dL_does_78 : decode cL_does 78 = .ok (.iconst 1, 1) := by decide +kernel
theorem dL_does_79 : decode cL_does 79 = .ok (.iload_n 1, 1) := by decide +kernel
theorem dL_does_80 : decode cL_does 80 = .ok (.bipush 14, 2) := by decide +kernel
theorem dL_does_82 : decode cL_does 82 = .ok (.ishr, 1) := by decide +kernel
theorem dL_does_83 : decode cL_does 83 = .ok (.sipush 200, 3) := by decide +kernel
theorem dL_does_86 : decode cL_does 86 = .ok (.invokestatic 34, 3) := by decide +kernel
theorem dL_does_89 : decode cL_does 89 = .ok (.iadd, 1) := by decide +kernel
theorem dL_does_90 : decode cL_does 90 = .ok (.iload_n 1, 1) := by decide +kernel
theorem dL_does_91 : decode cL_does 91 = .ok (.bipush 22, 2) := by decide +kernel
theorem dL_does_93 : decode cL_does 93 = .ok (.ishr, 1) := by decide +kernel
theorem dL_does_94 : decode cL_does 94 = .ok (.bipush 12, 2) := by decide +kernel
theorem dL_does_96 : decode cL_does 96 = .ok (.invokestatic 34, 3) := by decide +kernel
theorem dL_does_99 : decode cL_does 99 = .ok (.iload_n 1, 1) := by decide +kernel
theorem dL_does_100 : decode cL_does 100 = .ok (.bipush 26, 2) := by decide +kernel
theorem dL_does_102 : decode cL_does 102 = .ok (.ishr, 1) := by decide +kernel
theorem dL_does_103 : decode cL_does 103 = .ok (.bipush 30, 2) := by decide +kernel
theorem dL_does_105 : decode cL_does 105 = .ok (.invokestatic 34, 3) := by decide +kernel
theorem dL_does_108 : decode cL_does 108 = .ok (.iconst 5, 1) := by decide +kernel
theorem dL_does_109 : decode cL_does 109 = .ok (.isub, 1) := by decide +kernel
theorem dL_does_110 : decode cL_does 110 = .ok (.invokevirtual 39, 3) := by decide +kernel
theorem dL_does_113 : decode cL_does 113 = .ok (.ireturn, 1) := by decide +kernel
theorem dL_does_114 : decode cL_does 114 = .ok (.aload_n 0, 1) := by decide +kernel
theorem dL_does_115 : decode cL_does 115 = .ok (.iload_n 2, 1) := by decide +kernel
theorem dL_does_116 : decode cL_does 116 = .ok (.iload_n 1, 1) := by decide +kernel
theorem dL_does_117 : decode cL_does 117 = .ok (.bipush 6, 2) := by decide +kernel
theorem dL_does_119 : decode cL_does 119 = .ok (.ishr, 1) := by decide +kernel
theorem dL_does_120 : decode cL_does 120 = .ok (.iconst 4, 1) := by decide +kernel
theorem dL_does_121 : decode cL_does 121 = .ok (.invokestatic 34, 3) := by decide +kernel
theorem dL_does_124 : decode cL_does 124 = .ok (.iload_n 1, 1) := by decide +kernel
theorem dL_does_125 : decode cL_does 125 = .ok (.bipush 8, 2) := by decide +kernel
theorem dL_does_127 : decode cL_does 127 = .ok (.ishr, 1) := by decide +kernel
theorem dL_does_128 : decode cL_does 128 = .ok (.bipush 30, 2) := by decide +kernel
theorem dL_does_130 : decode cL_does 130 = .ok (.invokestatic 34, 3) := by decide +kernel
theorem dL_does_133 : decode cL_does 133 = .ok (.invokevirtual 43, 3) := by decide +kernel
theorem dL_does_136 : decode cL_does 136 = .ok (.ireturn, 1) := by decide +kernel
theorem dL_does_137 : decode cL_does 137 = .ok (.aload_n 0, 1) := by decide +kernel
theorem dL_does_138 : decode cL_does 138 = .ok (.iload_n 2, 1) := by decide +kernel
theorem dL_does_139 : decode cL_does 139 = .ok (.sipush 5000, 3) := by decide +kernel
theorem dL_does_142 : decode cL_does 142 = .ok (.sipush 1000, 3) := by decide +kernel
theorem dL_does_145 : decode cL_does 145 = .ok (.iload_n 1, 1) := by decide +kernel
theorem dL_does_146 : decode cL_does 146 = .ok (.bipush 6, 2) := by decide +kernel
theorem dL_does_148 : decode cL_does 148 = .ok (.ishr, 1) := by decide +kernel
theorem dL_does_149 : decode cL_does 149 = .ok (.bipush 31, 2) := by decide +kernel
theorem dL_does_151 : decode cL_does 151 = .ok (.invokestatic 34, 3) := by decide +kernel
theorem dL_does_154 : decode cL_does 154 = .ok (.imul, 1) := by decide +kernel
theorem dL_does_155 : decode cL_does 155 = .ok (.iadd, 1) := by decide +kernel
theorem dL_does_156 : decode cL_does 156 = .ok (.bipush 100, 2) := by decide +kernel
theorem dL_does_158 : decode cL_does 158 = .ok (.iload_n 1, 1) := by decide +kernel
theorem dL_does_159 : decode cL_does 159 = .ok (.bipush 11, 2) := by decide +kernel
theorem dL_does_161 : decode cL_does 161 = .ok (.ishr, 1) := by decide +kernel
theorem dL_does_162 : decode cL_does 162 = .ok (.bipush 20, 2) := by decide +kernel
theorem dL_does_164 : decode cL_does 164 = .ok (.invokestatic 34, 3) := by decide +kernel
theorem dL_does_167 : decode cL_does 167 = .ok (.imul, 1) := by decide +kernel
theorem dL_does_168 : decode cL_does 168 = .ok (.invokevirtual 47, 3) := by decide +kernel
theorem dL_does_171 : decode cL_does 171 = .ok (.ireturn, 1) := by decide +kernel
theorem dL_does_172 : decode cL_does 172 = .ok (.aload_n 0, 1) := by decide +kernel
theorem dL_does_173 : decode cL_does 173 = .ok (.iload_n 1, 1) := by decide +kernel
end
section
theorem dL_does_174 : decode cL_does 174 = .ok (.bipush 6, 2) := by decide +kernel
theorem dL_does_176 : decode cL_does 176 = .ok (.ishr, 1) := by decide +kernel
theorem dL_does_177 : decode cL_does 177 = .ok (.bipush 8, 2) := by decide +kernel
theorem dL_does_179 : decode cL_does 179 = .ok (.invokestatic 34, 3) := by decide +kernel
theorem dL_does_182 : decode cL_does 182 = .ok (.iload_n 1, 1) := by decide +kernel
theorem dL_does_183 : decode cL_does 183 = .ok (.bipush 9, 2) := by decide +kernel
theorem dL_does_185 : decode cL_does 185 = .ok (.ishr, 1) := by decide +kernel
theorem dL_does_186 : decode cL_does 186 = .ok (.bipush 60, 2) := by decide +kernel
theorem dL_does_188 : decode cL_does 188 = .ok (.invokestatic 34, 3) := by decide +kernel
theorem dL_does_191 : decode cL_does 191 = .ok (.invokevirtual 50, 3) := by decide +kernel
theorem dL_does_194 : decode cL_does 194 = .ok (.ireturn, 1) := by decide +kernel
theorem dL_does_195 : decode cL_does 195 = .ok (.aload_n 0, 1) := by decide +kernel
theorem dL_does_196 : decode cL_does 196 = .ok (.iload_n 2, 1) := by decide +kernel
theorem dL_does_197 : decode cL_does 197 = .ok (.iload_n 1, 1) := by decide +kernel
theorem dL_does_198 : decode cL_does 198 = .ok (.bipush 6, 2) := by decide +kernel
theorem dL_does_200 : decode cL_does 200 = .ok (.ishr, 1) := by decide +kernel
theorem dL_does_201 : decode cL_does 201 = .ok (.ldc 53, 2) := by decide +kernel
theorem dL_does_203 : decode cL_does 203 = .ok (.invokestatic 34, 3) := by decide +kernel
theorem dL_does_206 : decode cL_does 206 = .ok (.sipush 20000, 3) := by decide +kernel
theorem dL_does_209 : decode cL_does 209 = .ok (.isub, 1) := by decide +kernel
theorem dL_does_210 : decode cL_does 210 = .ok (.invokevirtual 54, 3) := by decide +kernel
theorem dL_does_213 : decode cL_does 213 = .ok (.ireturn, 1) := by decide +kernel
theorem dL_does_214 : decode cL_does 214 = .ok (.aload_n 0, 1) := by decide +kernel
theorem dL_does_215 : decode cL_does 215 = .ok (.iload_n 2, 1) := by decide +kernel
theorem dL_does_216 : decode cL_does 216 = .ok (.invokevirtual 57, 3) := by decide +kernel
theorem dL_does_219 : decode cL_does 219 = .ok (.ireturn, 1) := by decide +kernel
theorem dL_does_220 : decode cL_does 220 = .ok (.aload_n 0, 1) := by decide +kernel
theorem dL_does_221 : decode cL_does 221 = .ok (.iload_n 2, 1) := by decide +kernel
theorem dL_does_222 : decode cL_does 222 = .ok (.invokevirtual 60, 3) := by decide +kernel
theorem dL_does_225 : decode cL_does 225 = .ok (.ireturn, 1) := by decide +kernel
theorem dL_does_226 : decode cL_does 226 = .ok (.aload_n 0, 1) := by decide +kernel
theorem dL_does_227 : decode cL_does 227 = .ok (.iload_n 1, 1) := by decide +kernel
theorem dL_does_228 : decode cL_does 228 = .ok (.bipush 6, 2) := by decide +kernel
theorem dL_does_230 : decode cL_does 230 = .ok (.ishr, 1) := by decide +kernel
theorem dL_does_231 : decode cL_does 231 = .ok (.bipush 40, 2) := by decide +kernel
theorem dL_does_233 : decode cL_does 233 = .ok (.invokestatic 34, 3) := by decide +kernel
theorem dL_does_236 : decode cL_does 236 = .ok (.invokevirtual 63, 3) := by decide +kernel
theorem dL_does_239 : decode cL_does 239 = .ok (.ireturn, 1) := by decide +kernel
theorem dL_law_0 : decode cL_law 0 = .ok (.new 13, 3) := by decide +kernel
theorem dL_law_3 : decode cL_law 3 = .ok (.dup, 1) := by decide +kernel
theorem dL_law_4 : decode cL_law 4 = .ok (.invokespecial 66, 3) := by decide +kernel
theorem dL_law_7 : decode cL_law 7 = .ok (.astore_n 1, 1) := by decide +kernel
theorem dL_law_8 : decode cL_law 8 = .ok (.iconst 0, 1) := by decide +kernel
theorem dL_law_9 : decode cL_law 9 = .ok (.istore_n 2, 1) := by decide +kernel
theorem dL_law_10 : decode cL_law 10 = .ok (.iconst 0, 1) := by decide +kernel
theorem dL_law_11 : decode cL_law 11 = .ok (.istore_n 3, 1) := by decide +kernel
theorem dL_law_12 : decode cL_law 12 = .ok (.iload_n 3, 1) := by decide +kernel
theorem dL_law_13 : decode cL_law 13 = .ok (.bipush 40, 2) := by decide +kernel
theorem dL_law_15 : decode cL_law 15 = .ok (.if_icmp .ge 438, 3) := by decide +kernel
theorem dL_law_18 : decode cL_law 18 = .ok (.aload_n 0, 1) := by decide +kernel
theorem dL_law_19 : decode cL_law 19 = .ok (.iload_n 3, 1) := by decide +kernel
theorem dL_law_20 : decode cL_law 20 = .ok (.invokestatic 67, 3) := by decide +kernel
theorem dL_law_23 : decode cL_law 23 = .ok (.istore 4, 2) := by decide +kernel
theorem dL_law_25 : decode cL_law 25 = .ok (.aload_n 1, 1) := by decide +kernel
theorem dL_law_26 : decode cL_law 26 = .ok (.invokestatic 71, 3) := by decide +kernel
theorem dL_law_29 : decode cL_law 29 = .ok (.lstore 5, 2) := by decide +kernel
theorem dL_law_31 : decode cL_law 31 = .ok (.aload_n 1, 1) := by decide +kernel
theorem dL_law_32 : decode cL_law 32 = .ok (.iload 4, 2) := by decide +kernel
theorem dL_law_34 : decode cL_law 34 = .ok (.invokestatic 75, 3) := by decide +kernel
theorem dL_law_37 : decode cL_law 37 = .ok (.istore 7, 2) := by decide +kernel
theorem dL_law_39 : decode cL_law 39 = .ok (.iload 7, 2) := by decide +kernel
theorem dL_law_41 : decode cL_law 41 = .ok (.ldc 79, 2) := by decide +kernel
theorem dL_law_43 : decode cL_law 43 = .ok (.if_icmp .le 7, 3) := by decide +kernel
theorem dL_law_46 : decode cL_law 46 = .ok (.iconst 1, 1) := by decide +kernel
theorem dL_law_47 : decode cL_law 47 = .ok (.goto 4, 3) := by decide +kernel
theorem dL_law_50 : decode cL_law 50 = .ok (.iconst 0, 1) := by decide +kernel
theorem dL_law_51 : decode cL_law 51 = .ok (.istore 8, 2) := by decide +kernel
theorem dL_law_53 : decode cL_law 53 = .ok (.iload 8, 2) := by decide +kernel
theorem dL_law_55 : decode cL_law 55 = .ok (.ifCond .ne 15, 3) := by decide +kernel
theorem dL_law_58 : decode cL_law 58 = .ok (.aload_n 1, 1) := by decide +kernel
theorem dL_law_59 : decode cL_law 59 = .ok (.invokestatic 71, 3) := by decide +kernel
theorem dL_law_62 : decode cL_law 62 = .ok (.lload 5, 2) := by decide +kernel
theorem dL_law_64 : decode cL_law 64 = .ok (.lcmp, 1) := by decide +kernel
theorem dL_law_65 : decode cL_law 65 = .ok (.ifCond .eq 5, 3) := by decide +kernel
theorem dL_law_68 : decode cL_law 68 = .ok (.iconst 0, 1) := by decide +kernel
theorem dL_law_69 : decode cL_law 69 = .ok (.ireturn, 1) := by decide +kernel
theorem dL_law_70 : decode cL_law 70 = .ok (.iload 8, 2) := by decide +kernel
theorem dL_law_72 : decode cL_law 72 = .ok (.ifCond .ne 7, 3) := by decide +kernel
theorem dL_law_75 : decode cL_law 75 = .ok (.iload_n 2, 1) := by decide +kernel
theorem dL_law_76 : decode cL_law 76 = .ok (.goto 17, 3) := by decide +kernel
theorem dL_law_79 : decode cL_law 79 = .ok (.iload_n 2, 1) := by decide +kernel
theorem dL_law_80 : decode cL_law 80 = .ok (.bipush 6, 2) := by decide +kernel
theorem dL_law_82 : decode cL_law 82 = .ok (.if_icmp .ge 9, 3) := by decide +kernel
theorem dL_law_85 : decode cL_law 85 = .ok (.iload_n 2, 1) := by decide +kernel
theorem dL_law_86 : decode cL_law 86 = .ok (.iconst 1, 1) := by decide +kernel
theorem dL_law_87 : decode cL_law 87 = .ok (.iadd, 1) := by decide +kernel
theorem dL_law_88 : decode cL_law 88 = .ok (.goto 5, 3) := by decide +kernel
theorem dL_law_91 : decode cL_law 91 = .ok (.bipush 6, 2) := by decide +kernel
theorem dL_law_93 : decode cL_law 93 = .ok (.istore_n 2, 1) := by decide +kernel
theorem dL_law_94 : decode cL_law 94 = .ok (.iload 8, 2) := by decide +kernel
theorem dL_law_96 : decode cL_law 96 = .ok (.ifCond .eq 38, 3) := by decide +kernel
theorem dL_law_99 : decode cL_law 99 = .ok (.iload 4, 2) := by decide +kernel
theorem dL_law_101 : decode cL_law 101 = .ok (.bipush 28, 2) := by decide +kernel
theorem dL_law_103 : decode cL_law 103 = .ok (.ishr, 1) := by decide +kernel
theorem dL_law_104 : decode cL_law 104 = .ok (.iconst 3, 1) := by decide +kernel
theorem dL_law_105 : decode cL_law 105 = .ok (.iand, 1) := by decide +kernel
theorem dL_law_106 : decode cL_law 106 = .ok (.ifCond .ne 28, 3) := by decide +kernel
theorem dL_law_109 : decode cL_law 109 = .ok (.aload_n 1, 1) := by decide +kernel
theorem dL_law_110 : decode cL_law 110 = .ok (.invokevirtual 80, 3) := by decide +kernel
theorem dL_law_113 : decode cL_law 113 = .ok (.iload_n 2, 1) := by decide +kernel
theorem dL_law_114 : decode cL_law 114 = .ok (.iconst 1, 1) := by decide +kernel
theorem dL_law_115 : decode cL_law 115 = .ok (.isub, 1) := by decide +kernel
theorem dL_law_116 : decode cL_law 116 = .ok (.if_icmp .ne 13, 3) := by decide +kernel
theorem dL_law_119 : decode cL_law 119 = .ok (.aload_n 1, 1) := by decide +kernel
theorem dL_law_120 : decode cL_law 120 = .ok (.invokestatic 71, 3) := by decide +kernel
theorem dL_law_123 : decode cL_law 123 = .ok (.lload 5, 2) := by decide +kernel
theorem dL_law_125 : decode cL_law 125 = .ok (.lcmp, 1) := by decide +kernel
theorem dL_law_126 : decode cL_law 126 = .ok (.ifCond .eq 5, 3) := by decide +kernel
theorem dL_law_129 : decode cL_law 129 = .ok (.iconst 0, 1) := by decide +kernel
theorem dL_law_130 : decode cL_law 130 = .ok (.ireturn, 1) := by decide +kernel
theorem dL_law_131 : decode cL_law 131 = .ok (.iinc 2 (-1), 3) := by decide +kernel
theorem dL_law_134 : decode cL_law 134 = .ok (.aload_n 1, 1) := by decide +kernel
theorem dL_law_135 : decode cL_law 135 = .ok (.bipush 13, 2) := by decide +kernel
theorem dL_law_137 : decode cL_law 137 = .ok (.invokevirtual 12, 3) := by decide +kernel
theorem dL_law_140 : decode cL_law 140 = .ok (.iload_n 2, 1) := by decide +kernel
theorem dL_law_141 : decode cL_law 141 = .ok (.if_icmp .eq 5, 3) := by decide +kernel
theorem dL_law_144 : decode cL_law 144 = .ok (.iconst 0, 1) := by decide +kernel
theorem dL_law_145 : decode cL_law 145 = .ok (.ireturn, 1) := by decide +kernel
theorem dL_law_146 : decode cL_law 146 = .ok (.iload 8, 2) := by decide +kernel
theorem dL_law_148 : decode cL_law 148 = .ok (.ifCond .eq 27, 3) := by decide +kernel
theorem dL_law_151 : decode cL_law 151 = .ok (.iload 4, 2) := by decide +kernel
theorem dL_law_153 : decode cL_law 153 = .ok (.bipush 15, 2) := by decide +kernel
theorem dL_law_155 : decode cL_law 155 = .ok (.iand, 1) := by decide +kernel
theorem dL_law_156 : decode cL_law 156 = .ok (.bipush 8, 2) := by decide +kernel
theorem dL_law_158 : decode cL_law 158 = .ok (.if_icmp .le 17, 3) := by decide +kernel
theorem dL_law_161 : decode cL_law 161 = .ok (.iload 4, 2) := by decide +kernel
theorem dL_law_163 : decode cL_law 163 = .ok (.bipush 28, 2) := by decide +kernel
theorem dL_law_165 : decode cL_law 165 = .ok (.ishr, 1) := by decide +kernel
theorem dL_law_166 : decode cL_law 166 = .ok (.iconst 3, 1) := by decide +kernel
theorem dL_law_167 : decode cL_law 167 = .ok (.iand, 1) := by decide +kernel
theorem dL_law_168 : decode cL_law 168 = .ok (.ifCond .eq 7, 3) := by decide +kernel
theorem dL_law_171 : decode cL_law 171 = .ok (.iconst 1, 1) := by decide +kernel
theorem dL_law_172 : decode cL_law 172 = .ok (.goto 4, 3) := by decide +kernel
theorem dL_law_175 : decode cL_law 175 = .ok (.iconst 0, 1) := by decide +kernel
theorem dL_law_176 : decode cL_law 176 = .ok (.istore 9, 2) := by decide +kernel
theorem dL_law_178 : decode cL_law 178 = .ok (.iconst 0, 1) := by decide +kernel
theorem dL_law_179 : decode cL_law 179 = .ok (.istore 10, 2) := by decide +kernel
theorem dL_law_181 : decode cL_law 181 = .ok (.iconst 0, 1) := by decide +kernel
theorem dL_law_182 : decode cL_law 182 = .ok (.istore 11, 2) := by decide +kernel
theorem dL_law_184 : decode cL_law 184 = .ok (.iconst 0, 1) := by decide +kernel
theorem dL_law_185 : decode cL_law 185 = .ok (.istore 12, 2) := by decide +kernel
theorem dL_law_187 : decode cL_law 187 = .ok (.iconst 0, 1) := by decide +kernel
theorem dL_law_188 : decode cL_law 188 = .ok (.istore 13, 2) := by decide +kernel
theorem dL_law_190 : decode cL_law 190 = .ok (.iload 13, 2) := by decide +kernel
theorem dL_law_192 : decode cL_law 192 = .ok (.aload_n 1, 1) := by decide +kernel
theorem dL_law_193 : decode cL_law 193 = .ok (.bipush 7, 2) := by decide +kernel
theorem dL_law_195 : decode cL_law 195 = .ok (.invokevirtual 12, 3) := by decide +kernel
theorem dL_law_198 : decode cL_law 198 = .ok (.if_icmp .ge 174, 3) := by decide +kernel
theorem dL_law_201 : decode cL_law 201 = .ok (.iload 10, 2) := by decide +kernel
theorem dL_law_203 : decode cL_law 203 = .ok (.aload_n 1, 1) := by decide +kernel
theorem dL_law_204 : decode cL_law 204 = .ok (.iload 13, 2) := by decide +kernel
theorem dL_law_206 : decode cL_law 206 = .ok (.iconst 3, 1) := by decide +kernel
theorem dL_law_207 : decode cL_law 207 = .ok (.invokevirtual 26, 3) := by decide +kernel
theorem dL_law_210 : decode cL_law 210 = .ok (.iadd, 1) := by decide +kernel
theorem dL_law_211 : decode cL_law 211 = .ok (.istore 10, 2) := by decide +kernel
theorem dL_law_213 : decode cL_law 213 = .ok (.iload 12, 2) := by decide +kernel
theorem dL_law_215 : decode cL_law 215 = .ok (.aload_n 1, 1) := by decide +kernel
theorem dL_law_216 : decode cL_law 216 = .ok (.iload 13, 2) := by decide +kernel
theorem dL_law_218 : decode cL_law 218 = .ok (.bipush 8, 2) := by decide +kernel
theorem dL_law_220 : decode cL_law 220 = .ok (.invokevirtual 20, 3) := by decide +kernel
theorem dL_law_223 : decode cL_law 223 = .ok (.iadd, 1) := by decide +kernel
theorem dL_law_224 : decode cL_law 224 = .ok (.istore 12, 2) := by decide +kernel
theorem dL_law_226 : decode cL_law 226 = .ok (.iload 11, 2) := by decide +kernel
theorem dL_law_228 : decode cL_law 228 = .ok (.aload_n 1, 1) := by decide +kernel
theorem dL_law_229 : decode cL_law 229 = .ok (.iload 13, 2) := by decide +kernel
theorem dL_law_231 : decode cL_law 231 = .ok (.bipush 9, 2) := by decide +kernel
theorem dL_law_233 : decode cL_law 233 = .ok (.invokevirtual 20, 3) := by decide +kernel
theorem dL_law_236 : decode cL_law 236 = .ok (.aload_n 1, 1) := by decide +kernel
theorem dL_law_237 : decode cL_law 237 = .ok (.bipush 6, 2) := by decide +kernel
theorem dL_law_239 : decode cL_law 239 = .ok (.invokevirtual 12, 3) := by decide +kernel
theorem dL_law_242 : decode cL_law 242 = .ok (.if_icmp .lt 7, 3) := by decide +kernel
theorem dL_law_245 : decode cL_law 245 = .ok (.iconst 1, 1) := by decide +kernel
theorem dL_law_246 : decode cL_law 246 = .ok (.goto 4, 3) := by decide +kernel
theorem dL_law_249 : decode cL_law 249 = .ok (.iconst 0, 1) := by decide +kernel
theorem dL_law_250 : decode cL_law 250 = .ok (.iadd, 1) := by decide +kernel
theorem dL_law_251 : decode cL_law 251 = .ok (.istore 11, 2) := by decide +kernel
theorem dL_law_253 : decode cL_law 253 = .ok (.aload_n 1, 1) := by decide +kernel
theorem dL_law_254 : decode cL_law 254 = .ok (.iload 13, 2) := by decide +kernel
theorem dL_law_256 : decode cL_law 256 = .ok (.iconst 1, 1) := by decide +kernel
theorem dL_law_257 : decode cL_law 257 = .ok (.invokevirtual 20, 3) := by decide +kernel
theorem dL_law_260 : decode cL_law 260 = .ok (.aload_n 1, 1) := by decide +kernel
theorem dL_law_261 : decode cL_law 261 = .ok (.iload 13, 2) := by decide +kernel
theorem dL_law_263 : decode cL_law 263 = .ok (.iconst 0, 1) := by decide +kernel
theorem dL_law_264 : decode cL_law 264 = .ok (.invokevirtual 26, 3) := by decide +kernel
theorem dL_law_267 : decode cL_law 267 = .ok (.aload_n 1, 1) := by decide +kernel
theorem dL_law_268 : decode cL_law 268 = .ok (.iload 13, 2) := by decide +kernel
theorem dL_law_270 : decode cL_law 270 = .ok (.iconst 1, 1) := by decide +kernel
theorem dL_law_271 : decode cL_law 271 = .ok (.invokevirtual 26, 3) := by decide +kernel
theorem dL_law_274 : decode cL_law 274 = .ok (.iadd, 1) := by decide +kernel
theorem dL_law_275 : decode cL_law 275 = .ok (.aload_n 1, 1) := by decide +kernel
theorem dL_law_276 : decode cL_law 276 = .ok (.iload 13, 2) := by decide +kernel
theorem dL_law_278 : decode cL_law 278 = .ok (.iconst 2, 1) := by decide +kernel
theorem dL_law_279 : decode cL_law 279 = .ok (.invokevirtual 26, 3) := by decide +kernel
theorem dL_law_282 : decode cL_law 282 = .ok (.isub, 1) := by decide +kernel
theorem dL_law_283 : decode cL_law 283 = .ok (.aload_n 1, 1) := by decide +kernel
theorem dL_law_284 : decode cL_law 284 = .ok (.iload 13, 2) := by decide +kernel
theorem dL_law_286 : decode cL_law 286 = .ok (.iconst 3, 1) := by decide +kernel
theorem dL_law_287 : decode cL_law 287 = .ok (.invokevirtual 26, 3) := by decide +kernel
theorem dL_law_290 : decode cL_law 290 = .ok (.isub, 1) := by decide +kernel
theorem dL_law_291 : decode cL_law 291 = .ok (.aload_n 1, 1) := by decide +kernel
theorem dL_law_292 : decode cL_law 292 = .ok (.iload 13, 2) := by decide +kernel
theorem dL_law_294 : decode cL_law 294 = .ok (.iconst 4, 1) := by decide +kernel
theorem dL_law_295 : decode cL_law 295 = .ok (.invokevirtual 26, 3) := by decide +kernel
theorem dL_law_298 : decode cL_law 298 = .ok (.iadd, 1) := by decide +kernel
theorem dL_law_299 : decode cL_law 299 = .ok (.if_icmp .eq 5, 3) := by decide +kernel
theorem dL_law_302 : decode cL_law 302 = .ok (.iconst 0, 1) := by decide +kernel
theorem dL_law_303 : decode cL_law 303 = .ok (.ireturn, 1) := by decide +kernel
theorem dL_law_304 : decode cL_law 304 = .ok (.aload_n 1, 1) := by decide +kernel
theorem dL_law_305 : decode cL_law 305 = .ok (.iload 13, 2) := by decide +kernel
theorem dL_law_307 : decode cL_law 307 = .ok (.iconst 4, 1) := by decide +kernel
theorem dL_law_308 : decode cL_law 308 = .ok (.invokevirtual 20, 3) := by decide +kernel
theorem dL_law_311 : decode cL_law 311 = .ok (.iconst 1, 1) := by decide +kernel
theorem dL_law_312 : decode cL_law 312 = .ok (.if_icmp .ne 13, 3) := by decide +kernel
theorem dL_law_315 : decode cL_law 315 = .ok (.aload_n 1, 1) := by decide +kernel
theorem dL_law_316 : decode cL_law 316 = .ok (.iload 13, 2) := by decide +kernel
theorem dL_law_318 : decode cL_law 318 = .ok (.iconst 3, 1) := by decide +kernel
theorem dL_law_319 : decode cL_law 319 = .ok (.invokevirtual 20, 3) := by decide +kernel
theorem dL_law_322 : decode cL_law 322 = .ok (.ifCond .eq 42, 3) := by decide +kernel
theorem dL_law_325 : decode cL_law 325 = .ok (.iload 9, 2) := by decide +kernel
theorem dL_law_327 : decode cL_law 327 = .ok (.ifCond .eq 24, 3) := by decide +kernel
theorem dL_law_330 : decode cL_law 330 = .ok (.aload_n 1, 1) := by decide +kernel
theorem dL_law_331 : decode cL_law 331 = .ok (.iload 13, 2) := by decide +kernel
theorem dL_law_333 : decode cL_law 333 = .ok (.bipush 9, 2) := by decide +kernel
theorem dL_law_335 : decode cL_law 335 = .ok (.invokevirtual 20, 3) := by decide +kernel
theorem dL_law_338 : decode cL_law 338 = .ok (.ifCond .le 13, 3) := by decide +kernel
theorem dL_law_341 : decode cL_law 341 = .ok (.aload_n 1, 1) := by decide +kernel
theorem dL_law_342 : decode cL_law 342 = .ok (.iload 13, 2) := by decide +kernel
theorem dL_law_344 : decode cL_law 344 = .ok (.iconst 3, 1) := by decide +kernel
theorem dL_law_345 : decode cL_law 345 = .ok (.invokevirtual 20, 3) := by decide +kernel
theorem dL_law_348 : decode cL_law 348 = .ok (.ifCond .eq 16, 3) := by decide +kernel
theorem dL_law_351 : decode cL_law 351 = .ok (.aload_n 1, 1) := by decide +kernel
theorem dL_law_352 : decode cL_law 352 = .ok (.iload 13, 2) := by decide +kernel
theorem dL_law_354 : decode cL_law 354 = .ok (.bipush 6, 2) := by decide +kernel
theorem dL_law_356 : decode cL_law 356 = .ok (.invokevirtual 20, 3) := by decide +kernel
theorem dL_law_359 : decode cL_law 359 = .ok (.bipush 50, 2) := by decide +kernel
theorem dL_law_361 : decode cL_law 361 = .ok (.if_icmp .lt 5, 3) := by decide +kernel
theorem dL_law_364 : decode cL_law 364 = .ok (.iconst 0, 1) := by decide +kernel
theorem dL_law_365 : decode cL_law 365 = .ok (.ireturn, 1) := by decide +kernel
theorem dL_law_366 : decode cL_law 366 = .ok (.iinc 13 1, 3) := by decide +kernel
theorem dL_law_369 : decode cL_law 369 = .ok (.goto (-179), 3) := by decide +kernel
theorem dL_law_372 : decode cL_law 372 = .ok (.iload 10, 2) := by decide +kernel
theorem dL_law_374 : decode cL_law 374 = .ok (.ifCond .ne 25, 3) := by decide +kernel
theorem dL_law_377 : decode cL_law 377 = .ok (.iload 11, 2) := by decide +kernel
theorem dL_law_379 : decode cL_law 379 = .ok (.aload_n 1, 1) := by decide +kernel
theorem dL_law_380 : decode cL_law 380 = .ok (.bipush 10, 2) := by decide +kernel
theorem dL_law_382 : decode cL_law 382 = .ok (.invokevirtual 12, 3) := by decide +kernel
theorem dL_law_385 : decode cL_law 385 = .ok (.if_icmp .ne 14, 3) := by decide +kernel
theorem dL_law_388 : decode cL_law 388 = .ok (.iload 12, 2) := by decide +kernel
theorem dL_law_390 : decode cL_law 390 = .ok (.aload_n 1, 1) := by decide +kernel
theorem dL_law_391 : decode cL_law 391 = .ok (.bipush 11, 2) := by decide +kernel
theorem dL_law_393 : decode cL_law 393 = .ok (.invokevirtual 12, 3) := by decide +kernel
theorem dL_law_396 : decode cL_law 396 = .ok (.if_icmp .eq 5, 3) := by decide +kernel
theorem dL_law_399 : decode cL_law 399 = .ok (.iconst 0, 1) := by decide +kernel
theorem dL_law_400 : decode cL_law 400 = .ok (.ireturn, 1) := by decide +kernel
theorem dL_law_401 : decode cL_law 401 = .ok (.aload_n 1, 1) := by decide +kernel
theorem dL_law_402 : decode cL_law 402 = .ok (.invokestatic 71, 3) := by decide +kernel
theorem dL_law_405 : decode cL_law 405 = .ok (.lstore 13, 2) := by decide +kernel
theorem dL_law_407 : decode cL_law 407 = .ok (.aload_n 1, 1) := by decide +kernel
theorem dL_law_408 : decode cL_law 408 = .ok (.bipush 20, 2) := by decide +kernel
theorem dL_law_410 : decode cL_law 410 = .ok (.invokevirtual 84, 3) := by decide +kernel
theorem dL_law_413 : decode cL_law 413 = .ok (.istore 15, 2) := by decide +kernel
theorem dL_law_415 : decode cL_law 415 = .ok (.aload_n 1, 1) := by decide +kernel
theorem dL_law_416 : decode cL_law 416 = .ok (.iconst 0, 1) := by decide +kernel
theorem dL_law_417 : decode cL_law 417 = .ok (.invokevirtual 87, 3) := by decide +kernel
theorem dL_law_420 : decode cL_law 420 = .ok (.istore 16, 2) := by decide +kernel
theorem dL_law_422 : decode cL_law 422 = .ok (.iload 15, 2) := by decide +kernel
theorem dL_law_424 : decode cL_law 424 = .ok (.ifCond .lt 21, 3) := by decide +kernel
theorem dL_law_427 : decode cL_law 427 = .ok (.iload 16, 2) := by decide +kernel
theorem dL_law_429 : decode cL_law 429 = .ok (.sipush 1000, 3) := by decide +kernel
theorem dL_law_432 : decode cL_law 432 = .ok (.if_icmp .gt 13, 3) := by decide +kernel
theorem dL_law_435 : decode cL_law 435 = .ok (.aload_n 1, 1) := by decide +kernel
theorem dL_law_436 : decode cL_law 436 = .ok (.invokestatic 71, 3) := by decide +kernel
theorem dL_law_439 : decode cL_law 439 = .ok (.lload 13, 2) := by decide +kernel
theorem dL_law_441 : decode cL_law 441 = .ok (.lcmp, 1) := by decide +kernel
theorem dL_law_442 : decode cL_law 442 = .ok (.ifCond .eq 5, 3) := by decide +kernel
theorem dL_law_445 : decode cL_law 445 = .ok (.iconst 0, 1) := by decide +kernel
theorem dL_law_446 : decode cL_law 446 = .ok (.ireturn, 1) := by decide +kernel
theorem dL_law_447 : decode cL_law 447 = .ok (.iinc 3 1, 3) := by decide +kernel
theorem dL_law_450 : decode cL_law 450 = .ok (.goto (-438), 3) := by decide +kernel
theorem dL_law_453 : decode cL_law 453 = .ok (.aload_n 1, 1) := by decide +kernel
theorem dL_law_454 : decode cL_law 454 = .ok (.invokevirtual 80, 3) := by decide +kernel
theorem dL_law_457 : decode cL_law 457 = .ok (.iload_n 2, 1) := by decide +kernel
theorem dL_law_458 : decode cL_law 458 = .ok (.ifCond .ne 8, 3) := by decide +kernel
theorem dL_law_461 : decode cL_law 461 = .ok (.ldc 90, 2) := by decide +kernel
theorem dL_law_463 : decode cL_law 463 = .ok (.goto 6, 3) := by decide +kernel
theorem dL_law_466 : decode cL_law 466 = .ok (.iload_n 2, 1) := by decide +kernel
theorem dL_law_467 : decode cL_law 467 = .ok (.iconst 1, 1) := by decide +kernel
theorem dL_law_468 : decode cL_law 468 = .ok (.isub, 1) := by decide +kernel
theorem dL_law_469 : decode cL_law 469 = .ok (.if_icmp .ne 7, 3) := by decide +kernel
theorem dL_law_472 : decode cL_law 472 = .ok (.iconst 1, 1) := by decide +kernel
theorem dL_law_473 : decode cL_law 473 = .ok (.goto 4, 3) := by decide +kernel
theorem dL_law_476 : decode cL_law 476 = .ok (.iconst 0, 1) := by decide +kernel
theorem dL_law_477 : decode cL_law 477 = .ok (.ireturn, 1) := by decide +kernel
end
section
/-! the words that every contract carries: all steady words of the tables -/
def AL : List Cond := lw_tbl.filter goodWord
theorem AL_mem {w : Cond} (h : w ∈ tables_1) (hg : goodWord w = true) : w ∈ AL := List.mem_filter.mpr ⟨List.mem_append_right _ h, hg⟩
theorem AL_memP {w : Cond} (h : w ∈ k2_sels lw_privs) (hg : goodWord w = true) : w ∈ AL := List.mem_filter.mpr ⟨List.mem_append_left _ h, hg⟩
theorem AL_1 {w : Cond} (h : w ∈ tables_1_1) : w ∈ tables_1 := List.mem_append_left _ h
theorem AL_2 {w : Cond} (h : w ∈ tables_1_2) : w ∈ tables_1 := List.mem_append_right _ (List.mem_append_left _ h)
theorem AL_3 {w : Cond} (h : w ∈ tables_1_3) : w ∈ tables_1 := List.mem_append_right _ (List.mem_append_right _ h)
theorem AL_good {w : Cond} (h : w ∈ AL) : goodWord w = true := (List.mem_filter.mp h).2
theorem AL_tbl {w : Cond} (h : w ∈ AL) : w ∈ lw_tbl := (List.mem_filter.mp h).1
theorem AL_all (ws : List Cond) (ps : List Nat) (hp : ws = ps.filterMap (fun i => tables_1[i]?)) (h : ws.all goodWord = true) : ∀ w ∈ ws, w ∈ AL := by
  intro w hw
  refine AL_mem ?_ (List.all_eq_true.mp h w hw)
  rw [hp] at hw
  obtain ⟨i, -, hi⟩ := List.mem_filterMap.mp hw
  exact List.mem_of_getElem? hi
theorem AL_app {x : Cond} {a b : List Cond} (ha : ∀ w ∈ a, w ∈ AL) (hb : b = AL) : ∀ w ∈ a ++ b, w ∈ AL := fun w h => (List.mem_append.mp h).elim (ha w) (fun h => hb ▸ h)
theorem AL_in {x : Cond} {ws : List Cond} (h : ∀ w ∈ ws, w ∈ AL) : ∀ w ∈ ws, w ∈ x :: AL := fun w hw => List.mem_cons_of_mem _ (h w hw)
/-- a callee's words among the caller's -/
theorem AL_gi {x : Cond} {ws : List Cond} (h : ∀ w ∈ ws, w ∈ AL) : GoodIn (x :: AL) ws := fun w hw => ⟨List.mem_cons_of_mem _ (h w hw), good_of_word (AL_good (h w hw))⟩
/-- a link to a method called by invokevirtual -/
def xLV (own : String) (idx : Nat) (y : MethodName) (b : ByteArray) (mL : Nat) (ret : Option FieldType) (n : Nat) : Prop :=
  (Cond.methodLink own idx y ∈ AL ∧ Cond.instanceMethod y ∈ AL ∧ Cond.selects y.cls y y ∈ AL ∧ Cond.initialized y.cls ∈ AL ∧ Cond.code y b mL ret ∈ AL) ∧ y.cls ≠ "java/lang/invoke/MethodHandle" ∧ y.cls ≠ "java/lang/invoke/VarHandle" ∧ (parseMethodDescriptor y.desc).map (fun d => d.parameters.length) = some n
def xLS (own : String) (idx : Nat) (y : MethodName) (b : ByteArray) (mL : Nat) (ret : Option FieldType) (n : Nat) : Prop :=
  (Cond.methodLink own idx y ∈ AL ∧ Cond.static y ∈ AL ∧ Cond.initialized y.cls ∈ AL ∧ Cond.code y b mL ret ∈ AL) ∧ y.cls ≠ "java/lang/invoke/MethodHandle" ∧ y.cls ≠ "java/lang/invoke/VarHandle" ∧ (parseMethodDescriptor y.desc).map (fun d => d.parameters.length) = some n
/-! THE STATE: cells by number, slots by number, whole numbers; a world is a list of cells from an address on -/
abbrev xM : Type := Nat → Nat → Int32
def xup (σ : xM) (k j : Nat) (x : Int32) : xM := fun k' => if k' = k then upd (σ k) j x else σ k'
def xcp (σ : xM) (k k' n : Nat) : xM := fun i => if i = k' then va_cpy (σ k) (σ k') 0 0 n else σ i
def bz (x : Int32) : Int32 := if x = 0 then 0 else 1
/-- the tables' numbers: classes and slots; the array classes (int, byte, Room, Colony); the static arrays' addresses -/
abbrev xE : Type := va_G × (Nat → ClassId) × (Nat → Nat)
def xty (E : xE) : List (ClassId × FieldType) := [(E.2.1 0, .int), (E.2.1 1, .int), (E.2.1 2, .object "ThermostatColony$Room"), (E.2.1 3, .object "ThermostatColony$Colony")]
def wl (B : Nat) (lay : Nat → (Nat → Int32) → va_E) (n : Nat) (σ : xM) : va_W := (List.range n).map (fun k => (B + k, lay k (σ k)))
def wA (B n : Nat) : Nat → Prop := fun q => B ≤ q ∧ q < B + n
theorem wl_get {B : Nat} {lay : Nat → (Nat → Int32) → va_E} {n : Nat} {σ : xM} {k : Nat} (hk : k < n) : (wl B lay n σ)[k]? = some (B + k, lay k (σ k)) := by simp [wl, hk]
theorem wl_inv {B : Nat} {lay : Nat → (Nat → Int32) → va_E} {n : Nat} {σ : xM} {k : Nat} {q : Nat × va_E} (h : (wl B lay n σ)[k]? = some q) : k < n ∧ q = (B + k, lay k (σ k)) := by
  have hk : k < n := by
    have := (List.getElem?_eq_some_iff.mp h).1
    simpa [wl] using this
  rw [wl_get hk] at h
  exact ⟨hk, (Option.some.inj h).symm⟩
theorem wl_set {B : Nat} {lay : Nat → (Nat → Int32) → va_E} {n : Nat} {σ σ' : xM} {k : Nat} {e : va_E} (hk : k < n) (h1 : lay k (σ' k) = e) (h2 : ∀ j, j ≠ k → σ' j = σ j) : (wl B lay n σ).set k (B + k, e) = wl B lay n σ' := by
  apply List.ext_getElem?
  intro i
  by_cases hi : i = k
  · subst hi
    rw [List.getElem?_set_self (by simpa [wl] using hk), wl_get hk, h1]
  · rw [List.getElem?_set_ne (fun z => hi z.symm)]
    simp only [wl, List.getElem?_map, h2 i hi]
    by_cases hin : i < n
    · simp [hin, h2 i hi]
    · simp [hin]
theorem wl_D {B : Nat} {lay : Nat → (Nat → Int32) → va_E} {n : Nat} {σ : xM} : va_D (wA B n) (wl B lay n σ) := by
  refine ⟨fun i j p q hi hj hpq => ?_, fun k q hk => ?_⟩
  · obtain ⟨-, rfl⟩ := wl_inv hi
    obtain ⟨-, rfl⟩ := wl_inv hj
    simp only at hpq
    omega
  · obtain ⟨h, rfl⟩ := wl_inv hk
    exact ⟨Nat.le_add_right _ _, Nat.add_lt_add_left h _⟩
theorem xup_same {σ : xM} {k j : Nat} {x : Int32} : xup σ k j x k = upd (σ k) j x := by simp [xup]
theorem xup_ne {σ : xM} {k k' j : Nat} {x : Int32} (h : k' ≠ k) : xup σ k j x k' = σ k' := by simp [xup, h]
theorem xcp_same {σ : xM} {k k' n : Nat} : xcp σ k k' n k' = va_cpy (σ k) (σ k') 0 0 n := by simp [xcp]
theorem xcp_ne {σ : xM} {k k' n i : Nat} (h : i ≠ k') : xcp σ k k' n i = σ i := by simp [xcp, h]
/-! steps of a computation that may be stuck -/
def nm {α β : Type} (x : α) (K : α → Option β) : Option β := K x
theorem nm_h {α β : Type} {x y : α} {K : α → Option β} {r : β} (e : y = x) (h : nm x K = some r) : K y = some r := by subst e; exact h
theorem ck_h {β : Type} {c : Prop} {_ : Decidable c} {x : Option β} {r : β} (h : (if c then x else none) = some r) : c ∧ x = some r := by
  by_cases hc : c
  · rw [if_pos hc] at h; exact ⟨hc, h⟩
  · rw [if_neg hc] at h; cases h
theorem it_h {β : Type} {c : Prop} {_ : Decidable c} {x y : Option β} {r : β} (hc : c) (h : (if c then x else y) = some r) : x = some r := by rw [if_pos hc] at h; exact h
theorem if_h {β : Type} {c : Prop} {_ : Decidable c} {x y : Option β} {r : β} (hc : ¬ c) (h : (if c then x else y) = some r) : y = some r := by rw [if_neg hc] at h; exact h
theorem bd_h {α β : Type} {x : Option α} {K : α → Option β} {r : β} (h : x.bind K = some r) : ∃ q, x = some q ∧ K q = some r := by
  cases x with
  | none => cases h
  | some q => exact ⟨q, rfl, h⟩
theorem nz_h {β : Type} {c : Prop} {_ : Decidable c} {x : Option β} {r : β} (h : (if c then none else x) = some r) : ¬ c ∧ x = some r := by
  by_cases hc : c
  · rw [if_pos hc] at h; cases h
  · rw [if_neg hc] at h; exact ⟨hc, h⟩
def oc {β : Type} (x : Option Nat) (A : Option β) (K : Nat → Option β) : Option β := match x with
  | none => A
  | some r => K r
theorem oc_n {β : Type} {A : Option β} {K : Nat → Option β} {r : β} (h : oc none A K = some r) : A = some r := h
theorem oc_s {β : Type} {A : Option β} {K : Nat → Option β} {r : β} {a : Nat} (h : oc (some a) A K = some r) : K a = some r := h
noncomputable def FU : Nat := Classical.choose (show ∃ n : Nat, n = 1300 from ⟨1300, rfl⟩)
theorem FU_eq : FU = 1300 := Classical.choose_spec (show ∃ n : Nat, n = 1300 from ⟨1300, rfl⟩)
abbrev inb (i : Int32) (n : Nat) : Prop := ¬ (i < 0 ∨ n ≤ i.toNatClampNeg)
/-! what the tables and the static arrays give, for as long as the program runs -/
def stI (t : Nat) (j : Nat) : Int32 := match t with
  | 0 => ([25, 1000, 5, 10, 7, 45000, 15] : List Int32).getD j 0
  | 1 => ([1, 1, 1, 0, 0, 20000, 1] : List Int32).getD j 0
  | _ => ([100, 9999, 50, 120, 100, 90000, 120] : List Int32).getD j 0
def stV (t : Nat) (j : Nat) : Value := .int (stI t j)
def Ev (E : xE) (A : Nat → Prop) (U : State) (H : Heap) : Prop :=
  va_K E.1 vwCl (xty E) U ∧ True ∧
  (va_Z "ThermostatColony" "FIRST_NUMBERS" "[I" (.ref (E.2.2 0)) A U H ∧ va_Z "ThermostatColony" "LEAST_NUMBERS" "[I" (.ref (E.2.2 1)) A U H ∧ va_Z "ThermostatColony" "MOST_NUMBERS" "[I" (.ref (E.2.2 2)) A U H) ∧
  ∀ t : Nat, t < 3 → va_T .int (E.2.2 t) 7 (stV t) A U H
theorem Ev.warm {E : xE} {A : Nat → Prop} {s U : State} {H : Heap} (h : Ev E A s H) (hW : s.WarmedH U.vm) : Ev E A U H :=
  ⟨va_K.moved hW.alike h.1, trivial, ⟨va_Z.moved hW.alike h.2.2.1.1, va_Z.moved hW.alike h.2.2.1.2.1, va_Z.moved hW.alike h.2.2.1.2.2⟩, fun t ht => va_T.moved hW.alike (h.2.2.2 t ht)⟩
theorem Ev.kept {E : xE} {A : Nat → Prop} {U : State} {H H1 : Heap} (h : Ev E A U H) (hq : ∀ a : Nat, a < H.size → ¬ A a → H1[a]? = H[a]?) : Ev E A U H1 :=
  ⟨h.1, h.2.1, ⟨va_Z.kept h.2.2.1.1 hq, va_Z.kept h.2.2.1.2.1 hq, va_Z.kept h.2.2.1.2.2 hq⟩, fun t ht => va_T.kept (h.2.2.2 t ht) hq⟩
theorem Ev.call {E : xE} {A : Nat → Prop} {U : State} {H : Heap} {g : JFrame} {mk : MethodId} {a : Array Value} (h : Ev E A U H) : Ev E A (U.calling g mk a) H :=
  ⟨va_K.moved (u := U) (U := U.calling g mk a) (Vm.Alike.refl U.vm) h.1, trivial, ⟨va_Z.moved (u := U) (U := U.calling g mk a) (Vm.Alike.refl U.vm) h.2.2.1.1, va_Z.moved (u := U) (U := U.calling g mk a) (Vm.Alike.refl U.vm) h.2.2.1.2.1, va_Z.moved (u := U) (U := U.calling g mk a) (Vm.Alike.refl U.vm) h.2.2.1.2.2⟩, fun t ht => va_T.moved (u := U) (U := U.calling g mk a) (Vm.Alike.refl U.vm) (h.2.2.2 t ht)⟩
/-- a method's start and end -/
def xP (E : xE) (B n : Nat) (lay : Nat → (Nat → Int32) → va_E) (av : List Value) (σ : xM) : Array Value → State → Prop := va_Pc av (fun U => Ev E (wA B n) U U.heap ∧ va_P E.1 vwCl (wl B lay n σ) U.heap)
def xQ (E : xE) (B n : Nat) (lay : Nat → (Nat → Int32) → va_E) (v : Option Value) (σ : xM) : Array Value → State → Outcome → State → Prop := fun _ st oc t => (oc = .returned v ∧ va_P E.1 vwCl (wl B lay n σ) t.heap) ∧ va_F (wA B n) st t
def xS (E : xE) (B n : Nat) (lay : Nat → (Nat → Int32) → va_E) (s : State) (σ : xM) (H : Heap) (locs : List Loc) : Prop := va_P E.1 vwCl (wl B lay n σ) H ∧ va_S (wA B n) s.heap H locs
abbrev xCX (p : Program) (m : MethodId) (c : Code) (cc : ByteArray) (nL : Nat) (s : State) (args : Array Value) (x : Cond) (own : String) (E : xE) (B n : Nat) : Prop :=
  CallFix p m c cc nL s args (x :: AL) own ∧ Ev E (wA B n) s s.heap
section ROWS
variable {p : Program} {l : Launch} {e : Env} {R : Room} {s : State} {m : MethodId} {args : Array Value} {below : List Frame} {meth : Method} {c : Code} {H : Heap} {locs : List Loc} {Q : State → Prop}
variable {cc : ByteArray} {pc nL : Nat} {ls : Array Slot} {rest : List Value} {E : xE} {B n : Nat} {lay : Nat → (Nat → Int32) → va_E} {σ : xM} {x0 : Cond} {own : String}
theorem x_hts (CX : xCX p m c cc nL s args x0 own E B n) {w : Cond} (h : w ∈ AL) : w.before args s = true := CX.1.2.2.2.2 w (List.mem_cons_of_mem _ h)
/-- getfield -/
theorem x_get (CX : xCX p m c cc nL s args x0 own E B n) (hM : xS E B n lay s σ H locs) {k ci N index : Nat} {C : String} {T : u_T} {fs : List Value} {v : Value} (hk : k < n) (hlay : lay k (σ k) = .inr (ci, fs)) (hin : ∀ w ∈ u_ws C T N, w ∈ AL) (hc : vwCl[ci]? = some (C, T, N)) (j : Nat) (hj : j < N) (hlink : Cond.fieldLink own index (T j).1 (T j).2.1 (T j).2.2.1 ∈ AL) (hv : fs[j]? = some v) (hdg : decode cc pc = .ok (.getfield index, 3))
    (kk : W p l e R s m args below meth c H locs 0 0 Q (F0 m (pc + 3) ls (v :: rest))) : W p l e R s m args below meth c H locs 0 0 Q (F0 m pc ls (.ref (B + k) :: rest)) := by
  have hts := CX.1.2.2.2.2
  exact va_get (D := E.1) (cl := vwCl) (tys := xty E) (ws := wl B lay n σ) CX.1.1 CX.1.2.1 hts (AL_in hin) CX.1.2.2.2.1 CX.2.1 hM.1 k (by rw [wl_get hk, hlay]) hc j hj (x_hts CX hlink) (fun _ h => h) hv hdg kk
/-- putfield of a whole number or a boolean -/
theorem x_put (CX : xCX p m c cc nL s args x0 own E B n) (hM : xS E B n lay s σ H locs) {k ci N index : Nat} {C : String} {T : u_T} {fs : List Value} (x y : Int32) {ty : FieldType} (hk : k < n) (hlay : lay k (σ k) = .inr (ci, fs)) (hin : ∀ w ∈ u_ws C T N, w ∈ AL) (ty0 : Nat → FieldType) (hty : ∀ k, k < N → parseFieldDescriptor (T k).2.2.1 = some (ty0 k)) (hnm : ∀ a, a < N → ∀ b, b < N → a ≠ b → (T a).2.1 ≠ (T b).2.1) (hc : vwCl[ci]? = some (C, T, N)) (j : Nat) (hj : j < N) (hlink : Cond.fieldLink own index (T j).1 (T j).2.1 (T j).2.2.1 ∈ AL) (hfin : (T j).2.2.2 = false) (hd : ty0 j = ty) (hn : narrow ty (.int x) = .int x) (hfit : fits ty (.int x) = true) (hl : j < fs.length)
    (hset : lay k (upd (σ k) j y) = .inr (ci, fs.set j (.int x))) (hdg : decode cc pc = .ok (.putfield index, 3))
    (kk : ∀ (H1 : Heap) (locs1 : List Loc) (σ1 : xM), σ1 = xup σ k j y → xS E B n lay s σ1 H1 locs1 → W p l e R s m args below meth c H1 locs1 0 0 Q (F0 m (pc + 3) ls rest)) : W p l e R s m args below meth c H locs 0 0 Q (F0 m pc ls (.int x :: .ref (B + k) :: rest)) := by
  have hts := CX.1.2.2.2.2
  refine va_put (D := E.1) (cl := vwCl) (tys := xty E) (ws := wl B lay n σ) (A := wA B n) (H0 := s.heap) CX.1.1 CX.1.2.1 hts (AL_in hin) ty0 hty hnm CX.1.2.2.2.1 CX.2.1 hM.1 wl_D hM.2 k (by rw [wl_get hk, hlay]) hc j hj (x_hts CX hlink) (fun _ h => h) hfin ((hty j hj).trans (congrArg some hd)) hn hfit hl hdg (fun H1 locs1 h1 _ h3 => ?_)
  refine kk H1 locs1 _ rfl ⟨?_, h3⟩
  rw [wl_set (σ' := xup σ k j y) hk (by rw [xup_same, hset]) (fun i hi => xup_ne hi)] at h1
  exact h1
theorem x_iald (CX : xCX p m c cc nL s args x0 own E B n) (hM : xS E B n lay s σ H locs) {k N : Nat} (hk : k < n) (hlay : lay k (σ k) = .inl (E.2.1 0, N, .inl (σ k))) {i : Int32} (hin : inb i N) (hdg : decode cc pc = .ok (.iaload, 1))
    (kk : W p l e R s m args below meth c H locs 0 0 Q (F0 m (pc + 1) ls (.int (σ k i.toNatClampNeg) :: rest))) : W p l e R s m args below meth c H locs 0 0 Q (F0 m pc ls (.int i :: .ref (B + k) :: rest)) :=
  va_iald (D := E.1) (cl := vwCl) (tys := xty E) (ws := wl B lay n σ) CX.1.1 CX.1.2.1 CX.2.1 hM.1 k 0 (by rw [wl_get hk, hlay]) rfl hin hdg kk
theorem x_iast (CX : xCX p m c cc nL s args x0 own E B n) (hM : xS E B n lay s σ H locs) {k N : Nat} (hk : k < n) (hlay : ∀ f, lay k f = .inl (E.2.1 0, N, .inl f)) {i x : Int32} (hin : inb i N) (hdg : decode cc pc = .ok (.iastore, 1))
    (kk : ∀ (H1 : Heap) (locs1 : List Loc) (σ1 : xM), σ1 = xup σ k i.toNatClampNeg x → xS E B n lay s σ1 H1 locs1 → W p l e R s m args below meth c H1 locs1 0 0 Q (F0 m (pc + 1) ls rest)) : W p l e R s m args below meth c H locs 0 0 Q (F0 m pc ls (.int x :: .int i :: .ref (B + k) :: rest)) := by
  refine va_iast (D := E.1) (cl := vwCl) (tys := xty E) (ws := wl B lay n σ) (A := wA B n) (H0 := s.heap) CX.1.1 CX.1.2.1 CX.2.1 hM.1 wl_D hM.2 k 0 (by rw [wl_get hk, hlay]) rfl hin hdg (fun H1 locs1 h1 _ h3 => ?_)
  refine kk H1 locs1 _ rfl ⟨?_, h3⟩
  rw [wl_set (σ' := xup σ k i.toNatClampNeg x) hk (by rw [xup_same, hlay]) (fun i hi => xup_ne hi)] at h1
  exact h1
theorem x_alen (CX : xCX p m c cc nL s args x0 own E B n) (hM : xS E B n lay s σ H locs) {k : Nat} (t0 : Nat) {cA : ClassId} {a : vp_A} {ty : FieldType} (hk : k < n) (hlay : lay k (σ k) = .inl (cA, a)) (ht : (xty E)[t0]? = some (cA, ty)) {v : Int32} (hv : Int32.ofNat a.1 = v) (hdg : decode cc pc = .ok (.arraylength, 1))
    (kk : W p l e R s m args below meth c H locs 0 0 Q (F0 m (pc + 1) ls (.int v :: rest))) : W p l e R s m args below meth c H locs 0 0 Q (F0 m pc ls (.ref (B + k) :: rest)) :=
  va_alen (D := E.1) (cl := vwCl) (tys := xty E) (ws := wl B lay n σ) CX.1.1 CX.1.2.1 CX.2.1 hM.1 k t0 (by rw [wl_get hk, hlay]) ht hv hdg kk
theorem x_aald (CX : xCX p m c cc nL s args x0 own E B n) (hM : xS E B n lay s σ H locs) {k N : Nat} (t0 : Nat) {cA : ClassId} {C : String} {f : Nat → Option Nat} (hk : k < n) (hlay : lay k (σ k) = .inl (cA, N, .inr (.inr (.inr (.inr f))))) (ht : (xty E)[t0]? = some (cA, .object C)) {i : Int32} (hin : inb i N) {q : Nat} (hq : f i.toNatClampNeg = some q) (hdg : decode cc pc = .ok (.aaload, 1))
    (kk : W p l e R s m args below meth c H locs 0 0 Q (F0 m (pc + 1) ls (.ref q :: rest))) : W p l e R s m args below meth c H locs 0 0 Q (F0 m pc ls (.int i :: .ref (B + k) :: rest)) := by
  refine va_aldq (D := E.1) (cl := vwCl) (tys := xty E) (ws := wl B lay n σ) CX.1.1 CX.1.2.1 CX.2.1 hM.1 k t0 (by rw [wl_get hk, hlay]) ht hin hdg ?_
  rw [hq]
  exact kk
/-- a static array, read only: its reference, its length, a place of it -/
theorem x_gets (CX : xCX p m c cc nL s args x0 own E B n) (hM : xS E B n lay s σ H locs) {index : Nat} {nm : String} {t : Nat} (hZ : va_Z "ThermostatColony" nm "[I" (.ref t) (wA B n) s s.heap) (hlink : Cond.fieldLink own index "ThermostatColony" nm "[I" ∈ AL) (hdg : decode cc pc = .ok (.getstatic index, 3))
    (kk : W p l e R s m args below meth c H locs 0 0 Q (F0 m (pc + 3) ls (.ref t :: rest))) : W p l e R s m args below meth c H locs 0 0 Q (F0 m pc ls rest) :=
  va_gets CX.1.1 CX.1.2.1 hZ hM.2 CX.1.2.2.2.1 (x_hts CX hlink) (fun _ h => h) hdg kk
theorem x_slen (CX : xCX p m c cc nL s args x0 own E B n) (hM : xS E B n lay s σ H locs) {t N : Nat} {f : Nat → Value} (hT : va_T .int t N f (wA B n) s s.heap) (hdg : decode cc pc = .ok (.arraylength, 1))
    (kk : W p l e R s m args below meth c H locs 0 0 Q (F0 m (pc + 1) ls (.int (Int32.ofNat N) :: rest))) : W p l e R s m args below meth c H locs 0 0 Q (F0 m pc ls (.ref t :: rest)) := by
  obtain ⟨cell, h1, h2, h3, h4, h5, h6, h7⟩ := hT
  have h9 : H[t]? = some cell := by rw [hM.2.2.1 t (Array.getElem?_eq_some_iff.mp h1).1 h7]; exact h1
  exact W.alen CX.1.1 CX.1.2.1 h9 h2 h5 rfl rfl hdg kk
theorem x_sald (CX : xCX p m c cc nL s args x0 own E B n) (hM : xS E B n lay s σ H locs) {t N : Nat} {f : Nat → Value} (hT : va_T .int t N f (wA B n) s s.heap) {i : Int32} (hin : inb i N) {v : Value} (hv : f i.toNatClampNeg = v) (hdg : decode cc pc = .ok (.iaload, 1))
    (kk : W p l e R s m args below meth c H locs 0 0 Q (F0 m (pc + 1) ls (v :: rest))) : W p l e R s m args below meth c H locs 0 0 Q (F0 m pc ls (.int i :: .ref t :: rest)) := by
  obtain ⟨cell, h1, h2, h3, h4, h5, h6, h7⟩ := hT
  have h9 : H[t]? = some cell := by rw [hM.2.2.1 t (Array.getElem?_eq_some_iff.mp h1).1 h7]; exact h1
  have hlt : i.toNatClampNeg < N := Nat.not_le.mp fun q => hin (Or.inr q)
  exact W.iald CX.1.1 CX.1.2.1 h9 h2 h3 (fun h => h.elim (fun q => hin (Or.inl q)) (fun q => absurd q (Nat.not_le.mpr (Nat.lt_of_lt_of_le hlt h4)))) ((h6 _ hlt).trans (congrArg some hv)) rfl rfl hdg kk
/-- what a call gives back -/
theorem x_back {v : Option Value} {σ' : xM} {st0 : List Value} {a : Array Value} (hM : xS E B n lay s σ H locs) (hr : va_Run p l e R s m args below meth c H locs 0 0 0 0 (F0 m pc ls st0) rest (xQ E B n lay v σ' a) (wA B n))
    (kk : ∀ (H1 : Heap) (locs1 : List Loc), xS E B n lay s σ' H1 locs1 → W p l e R s m args below meth c H1 locs1 0 0 Q (F0 m (pc + 3) ls (v.toList ++ rest))) : W p l e R s m args below meth c H locs 0 0 Q (F0 m pc ls st0) := by
  intro T hT X
  obtain ⟨v', st₀, t, T', L, h0, X', hL, e1, e2, ⟨⟨hv, hb⟩, hz, hk⟩, st⟩ := hr T hT X
  cases hv
  rw [h0] at hz hk
  have hS := hM.2
  obtain ⟨t2, a1, b1⟩ := kk T'.heap (locs ++ L) ⟨by rw [e1]; exact hb, Nat.le_trans hS.1 (by rw [e1]; exact hz), fun q h1 h2 => by rw [e1, hk q (Nat.lt_of_lt_of_le h1 hS.1) h2]; exact hS.2.1 q h1 h2, fun q hq => by
      rcases List.mem_append.mp hq with h | h
      · exact hS.2.2 q h
      · exact hL q h⟩ T' rfl X'
  exact ⟨t2, st t2 a1, b1⟩
theorem x_pre (CX : xCX p m c cc nL s args x0 own E B n) (hM : xS E B n lay s σ H locs) {av : List Value} : FrameBlind (xP E B n lay av σ) ∧ ∀ U : State, U.heap = H → s.WarmedH U.vm → xP E B n lay av σ av.toArray U :=
  ⟨fun a U g mk q => ⟨q.1, Ev.call q.2.1, q.2.2⟩, fun U hU hW => ⟨rfl, by rw [hU]; exact (CX.2.warm hW).kept hM.2.2.1, by rw [hU]; exact hM.1⟩⟩
variable {y : MethodName} {b : ByteArray} {mL index na : Nat} {ret : Option FieldType} {rm : Room} {As st0 : List Value} {v : Option Value} {σ' : xM}
theorem x_callV (CX : xCX p m c cc nL s args x0 own E B n) (hM : xS E B n lay s σ H locs) {k ci : Nat} {fs : List Value} {T : u_T} {N : Nat} (hk : k < n) (hlay : lay k (σ k) = .inr (ci, fs)) (hc : vwCl[ci]? = some (y.cls, T, N)) (hL : xLV own index y b mL ret na)
    (hm : Met l y (Cond.code y b mL ret :: AL) rm (xP E B n lay (.ref (B + k) :: As) σ) (xQ E B n lay v σ') 0 0 (wA B n)) (hr : rm.cells = 0 ∧ rm.slots = 0 ∧ rm.frames + 1 ≤ R.frames ∧ 8 + (mL + 11) + rm.locals ≤ R.locals) (hn : As.length = na) (hls : ls.size = nL) (hst : st0 = As.reverse ++ .ref (B + k) :: rest) (hW : (rest.map fun v => v.category).sum ≤ 8) (hdg : decode cc pc = .ok (.invokevirtual index, 3))
    (kk : ∀ (H1 : Heap) (locs1 : List Loc), xS E B n lay s σ' H1 locs1 → W p l e R s m args below meth c H1 locs1 0 0 Q (F0 m (pc + 3) ls (v.toList ++ rest))) : W p l e R s m args below meth c H locs 0 0 Q (F0 m pc ls st0) := by
  subst hst
  obtain ⟨⟨w1, w2, w3, w4, w5⟩, d1, d2, d3⟩ := hL
  have hp := x_pre CX hM (av := .ref (B + k) :: As)
  refine x_back hM (va_runV (b := B + k) (As := As) (rest := rest) (C := y.cls) CX.1 hm (cwV na CX.1.2.2.2.2 ?_ rfl hr.1 hr.2.1 ⟨rfl, d1, d2, d3⟩ hr.2.2) ⟨hp.1, va_recv CX.2.1 hM.1 hc (by rw [wl_get hk, hlay]), hp.2⟩ rfl hn hls rfl (lv_room (pc := pc) hW) hdg ⟨Nat.zero_le _, Nat.zero_le _⟩) kk
  refine AL_gi ?_
  intro w hw
  rcases List.mem_append.mp hw with hw | hw
  · simp only [List.mem_cons, List.not_mem_nil, or_false] at hw
    rcases hw with rfl | rfl | rfl | rfl <;> assumption
  · rcases List.mem_cons.mp hw with rfl | hw
    · exact w5
    · exact hw
theorem x_callS (CX : xCX p m c cc nL s args x0 own E B n) (hM : xS E B n lay s σ H locs) (hL : xLS own index y b mL ret na)
    (hm : Met l y (Cond.code y b mL ret :: AL) rm (xP E B n lay As σ) (xQ E B n lay v σ') 0 0 (wA B n)) (hr : rm.cells = 0 ∧ rm.slots = 0 ∧ rm.frames + 1 ≤ R.frames ∧ 8 + (mL + 11) + rm.locals ≤ R.locals) (hn : As.length = na) (hls : ls.size = nL) (hst : st0 = As.reverse ++ rest) (hW : (rest.map fun v => v.category).sum ≤ 8) (hdg : decode cc pc = .ok (.invokestatic index, 3))
    (kk : ∀ (H1 : Heap) (locs1 : List Loc), xS E B n lay s σ' H1 locs1 → W p l e R s m args below meth c H1 locs1 0 0 Q (F0 m (pc + 3) ls (v.toList ++ rest))) : W p l e R s m args below meth c H locs 0 0 Q (F0 m pc ls st0) := by
  subst hst
  obtain ⟨⟨w1, w2, w3, w5⟩, d1, d2, d3⟩ := hL
  have hp := x_pre CX hM (av := As)
  refine x_back hM (va_runS (As := As) (rest := rest) CX.1 hm (va_cwS na CX.1.2.2.2.2 ?_ rfl hr.1 hr.2.1 ⟨d1, d2, d3⟩ hr.2.2) hp rfl hn hls rfl (lv_room (pc := pc) hW) hdg ⟨Nat.zero_le _, Nat.zero_le _⟩) kk
  refine AL_gi ?_
  intro w hw
  rcases List.mem_append.mp hw with hw | hw
  · simp only [List.mem_cons, List.not_mem_nil, or_false] at hw
    rcases hw with rfl | rfl | rfl <;> assumption
  · rcases List.mem_cons.mp hw with rfl | hw
    · exact w5
    · exact hw
/-- a static method of a nest mate -/
theorem x_callSN (CX : xCX p m c cc nL s args x0 own E B n) (hM : xS E B n lay s σ H locs) {host : String} (hnw : va_Nw (.methodLinkNest own index y host) s) (hL : (Cond.static y ∈ AL ∧ Cond.initialized y.cls ∈ AL ∧ Cond.code y b mL ret ∈ AL) ∧ y.cls ≠ "java/lang/invoke/MethodHandle" ∧ y.cls ≠ "java/lang/invoke/VarHandle" ∧ (parseMethodDescriptor y.desc).map (fun d => d.parameters.length) = some na)
    (hm : Met l y (Cond.code y b mL ret :: AL) rm (xP E B n lay As σ) (xQ E B n lay v σ') 0 0 (wA B n)) (hr : rm.cells = 0 ∧ rm.slots = 0 ∧ rm.frames + 1 ≤ R.frames ∧ 8 + (mL + 11) + rm.locals ≤ R.locals) (hn : As.length = na) (hls : ls.size = nL) (hst : st0 = As.reverse ++ rest) (hW : (rest.map fun v => v.category).sum ≤ 8) (hdg : decode cc pc = .ok (.invokestatic index, 3))
    (kk : ∀ (H1 : Heap) (locs1 : List Loc), xS E B n lay s σ' H1 locs1 → W p l e R s m args below meth c H1 locs1 0 0 Q (F0 m (pc + 3) ls (v.toList ++ rest))) : W p l e R s m args below meth c H locs 0 0 Q (F0 m pc ls st0) := by
  subst hst
  obtain ⟨⟨w2, w3, w5⟩, d1, d2, d3⟩ := hL
  have hp := x_pre CX hM (av := As)
  refine x_back hM (va_runSN (As := As) (rest := rest) CX.1 hm ⟨va_cnB na CX.1.2.2.2.2 (AL_gi ?_) rfl hr.1 hr.2.1 hnw (x_hts CX w3) ⟨d1, d2, d3⟩ hr.2.2, x_hts CX w2, trivial⟩ hp rfl hn hls rfl (lv_room (pc := pc) hW) hdg ⟨Nat.zero_le _, Nat.zero_le _⟩) kk
  intro w hw
  rcases List.mem_cons.mp hw with rfl | hw
  · exact w5
  · exact hw
end ROWS
end
section
/-! the class's world: 160 cells -/
def kdL : List Nat :=
  [6] ++ [1, 10, 11, 12, 4, 13, 13, 3, 0, 3, 0, 3, 0, 3, 0, 3, 0, 3, 0] ++ [1, 10, 11, 12, 4, 13, 13, 3, 0, 3, 0, 3, 0, 3, 0, 3, 0, 3, 0] ++ [2, 14] ++
  [1, 10, 11, 12, 4, 13, 13, 3, 0, 3, 0, 3, 0, 3, 0, 3, 0, 3, 0] ++ [1, 10, 11, 12, 4, 13, 13, 3, 0, 3, 0, 3, 0, 3, 0, 3, 0, 3, 0] ++ [1, 10, 11, 12, 4, 13, 13, 3, 0, 3, 0, 3, 0, 3, 0, 3, 0, 3, 0] ++
  [1, 10, 11, 12, 4, 13, 13, 3, 0, 3, 0, 3, 0, 3, 0, 3, 0, 3, 0] ++ [1, 10, 11, 12, 4, 13, 13, 3, 0, 3, 0, 3, 0, 3, 0, 3, 0, 3, 0] ++ [1, 10, 11, 12, 4, 13, 13, 3, 0, 3, 0, 3, 0, 3, 0, 3, 0, 3, 0] ++
  [5, 15, 4, 13, 13]
def kd (k : Nat) : Nat := kdL.getD k 99
theorem kd_lt {k : Nat} (h : kd k < 99) : k < 160 := by
  rcases Nat.lt_or_ge k 160 with q | q
  · exact q
  · exfalso
    have : kd k = 99 := by
      unfold kd
      rw [List.getD_eq_getElem?_getD, List.getElem?_eq_none (by show kdL.length ≤ k; exact q)]
      rfl
    omega
theorem kd_all {P : Nat → Prop} [DecidablePred P] (h : ∀ k, k < 160 → P k) {k : Nat} (hk : kd k < 99) : P k := h k (kd_lt hk)
theorem kd1_f {k : Nat} (h : kd k = 1) : kd (k + 1) = 10 ∧ kd (k + 2) = 11 ∧ kd (k + 3) = 12 ∧ kd (k + 4) = 4 :=
  (by decide +kernel : ∀ k, k < 160 → kd k = 1 → kd (k + 1) = 10 ∧ kd (k + 2) = 11 ∧ kd (k + 3) = 12 ∧ kd (k + 4) = 4) k (kd_lt (by omega)) h
theorem kd2_f {k : Nat} (h : kd k = 2) : kd (k + 1) = 14 :=
  (by decide +kernel : ∀ k, k < 160 → kd k = 2 → kd (k + 1) = 14) k (kd_lt (by omega)) h
theorem kd3_f {k : Nat} (h : kd k = 3) : kd (k + 1) = 0 :=
  (by decide +kernel : ∀ k, k < 160 → kd k = 3 → kd (k + 1) = 0) k (kd_lt (by omega)) h
theorem kd4_f {k : Nat} (h : kd k = 4) : kd (k + 1) = 13 ∧ kd (k + 2) = 13 :=
  (by decide +kernel : ∀ k, k < 160 → kd k = 4 → kd (k + 1) = 13 ∧ kd (k + 2) = 13) k (kd_lt (by omega)) h
theorem kd5_f {k : Nat} (h : kd k = 5) : kd (k + 1) = 15 :=
  (by decide +kernel : ∀ k, k < 160 → kd k = 5 → kd (k + 1) = 15) k (kd_lt (by omega)) h
theorem kd6_f {k : Nat} (h : kd k = 6) : kd (k + 1) = 1 ∧ kd (k + 20) = 1 ∧ kd (k + 39) = 2 ∧ kd (k + 155) = 5 ∧ kd (k + 157) = 4 :=
  (by decide +kernel : ∀ k, k < 160 → kd k = 6 → kd (k + 1) = 1 ∧ kd (k + 20) = 1 ∧ kd (k + 39) = 2 ∧ kd (k + 155) = 5 ∧ kd (k + 157) = 4) k (kd_lt (by omega)) h
def sh0 (f : Nat → Int32) : List Value := [.int (f 0), .int (f 1), .int (f 2), .int (f 3), .int (f 4)]
def sh1 (B k : Nat) (f : Nat → Int32) : List Value := [.ref (B + (k + 1)), .ref (B + (k + 2)), .ref (B + (k + 3)), .ref (B + (k + 4)), .int (f 4), .int (f 5)]
def sh2 (B k : Nat) (f : Nat → Int32) : List Value := [.ref (B + (k + 1)), .int (f 1), .int (f 2)]
def sh3 (B k : Nat) (f : Nat → Int32) : List Value := [.ref (B + (k + 1)), .int (f 1), .int (f 2), .int (f 3), .int (f 4), .int (f 5), .int (f 6), .int (f 7), .int (bz (f 8)), .int (bz (f 9)), .int (bz (f 10)), .int (f 11), .int (f 12), .int (f 13), .int (f 14), .int (f 15), .int (f 16), .int (f 17)]
def sh4 (B k : Nat) (f : Nat → Int32) : List Value := [.ref (B + (k + 1)), .ref (B + (k + 2)), .int (f 2)]
def sh5 (B k : Nat) (f : Nat → Int32) : List Value := [.ref (B + (k + 1)), .int (f 1), .int (f 2)]
def sh6 (B k : Nat) : List Value := [.ref (B + (k + 1)), .ref (B + (k + 20)), .ref (B + (k + 39)), .ref (B + (k + 155)), .ref (B + (k + 157))]
def shX (E : xE) (B k : Nat) (f : Nat → Int32) (K : Nat) : va_E := match K with
  | 0 => .inr (0, sh0 f)
  | 1 => .inr (1, sh1 B k f)
  | 2 => .inr (2, sh2 B k f)
  | 3 => .inr (3, sh3 B k f)
  | 4 => .inr (4, sh4 B k f)
  | 5 => .inr (5, sh5 B k f)
  | 6 => .inr (6, sh6 B k)
  | 10 => .inl (E.2.1 0, 7, .inl f)
  | 11 => .inl (E.2.1 2, 6, .inr (.inr (.inr (.inr (fun j => some (B + (k + 5 + 2 * j)))))))
  | 12 => .inl (E.2.1 0, 36, .inl f)
  | 13 => .inl (E.2.1 0, 12, .inl f)
  | 14 => .inl (E.2.1 3, 6, .inr (.inr (.inr (.inr (fun j => some (B + (k + 1 + 19 * j)))))))
  | 15 => .inl (E.2.1 0, 100, .inl f)
  | _ => .inl (E.2.1 0, 0, .inl f)
def layX (E : xE) (B : Nat) (k : Nat) (f : Nat → Int32) : va_E := shX E B k f (kd k)
theorem ly0 {E : xE} {B k : Nat} (h : kd k = 0) (f : Nat → Int32) : layX E B k f = .inr (0, sh0 f) := by unfold layX; rw [h]; rfl
theorem ly1 {E : xE} {B k : Nat} (h : kd k = 1) (f : Nat → Int32) : layX E B k f = .inr (1, sh1 B k f) := by unfold layX; rw [h]; rfl
theorem ly2 {E : xE} {B k : Nat} (h : kd k = 2) (f : Nat → Int32) : layX E B k f = .inr (2, sh2 B k f) := by unfold layX; rw [h]; rfl
theorem ly3 {E : xE} {B k : Nat} (h : kd k = 3) (f : Nat → Int32) : layX E B k f = .inr (3, sh3 B k f) := by unfold layX; rw [h]; rfl
theorem ly4 {E : xE} {B k : Nat} (h : kd k = 4) (f : Nat → Int32) : layX E B k f = .inr (4, sh4 B k f) := by unfold layX; rw [h]; rfl
theorem ly5 {E : xE} {B k : Nat} (h : kd k = 5) (f : Nat → Int32) : layX E B k f = .inr (5, sh5 B k f) := by unfold layX; rw [h]; rfl
theorem ly6 {E : xE} {B k : Nat} (h : kd k = 6) (f : Nat → Int32) : layX E B k f = .inr (6, sh6 B k) := by unfold layX; rw [h]; rfl
theorem ly10 {E : xE} {B k : Nat} (h : kd k = 10) (f : Nat → Int32) : layX E B k f = .inl (E.2.1 0, 7, .inl f) := by unfold layX; rw [h]; rfl
theorem ly11 {E : xE} {B k : Nat} (h : kd k = 11) (f : Nat → Int32) : layX E B k f = .inl (E.2.1 2, 6, .inr (.inr (.inr (.inr (fun j => some (B + (k + 5 + 2 * j))))))) := by unfold layX; rw [h]; rfl
theorem ly12 {E : xE} {B k : Nat} (h : kd k = 12) (f : Nat → Int32) : layX E B k f = .inl (E.2.1 0, 36, .inl f) := by unfold layX; rw [h]; rfl
theorem ly13 {E : xE} {B k : Nat} (h : kd k = 13) (f : Nat → Int32) : layX E B k f = .inl (E.2.1 0, 12, .inl f) := by unfold layX; rw [h]; rfl
theorem ly14 {E : xE} {B k : Nat} (h : kd k = 14) (f : Nat → Int32) : layX E B k f = .inl (E.2.1 3, 6, .inr (.inr (.inr (.inr (fun j => some (B + (k + 1 + 19 * j))))))) := by unfold layX; rw [h]; rfl
theorem ly15 {E : xE} {B k : Nat} (h : kd k = 15) (f : Nat → Int32) : layX E B k f = .inl (E.2.1 0, 100, .inl f) := by unfold layX; rw [h]; rfl
theorem kdl {k K : Nat} (h : kd k = K) (hK : Nat.blt K 99 = true) : k < 160 := kd_lt (by rw [h]; exact Nat.blt_eq.mp hK)
/-! the reference's world: 7 cells -/
def kdY (k : Nat) : Nat := ([7, 20, 21, 22, 23, 24, 25] : List Nat).getD k 99
def sh7 (B k : Nat) (f : Nat → Int32) : List Value := [.ref (B + (k + 1)), .ref (B + (k + 2)), .int (f 2), .ref (B + (k + 3)), .int (f 4), .ref (B + (k + 4)), .ref (B + (k + 5)), .int (f 7), .int (f 8), .int (f 9), .ref (B + (k + 6))]
def shY (E : xE) (B k : Nat) (f : Nat → Int32) (K : Nat) : va_E := match K with
  | 7 => .inr (7, sh7 B k f)
  | 20 => .inl (E.2.1 0, 196, .inl f)
  | 21 => .inl (E.2.1 0, 1176, .inl f)
  | 22 => .inl (E.2.1 1, 100, .inl f)
  | 23 => .inl (E.2.1 0, 196, .inl f)
  | 24 => .inl (E.2.1 0, 24, .inl f)
  | 25 => .inl (E.2.1 0, 6, .inl f)
  | _ => .inl (E.2.1 0, 0, .inl f)
def layY (E : xE) (B : Nat) (k : Nat) (f : Nat → Int32) : va_E := shY E B k f (kdY k)
theorem kdY_lt {k : Nat} (h : kdY k < 99) : k < 7 := by
  rcases Nat.lt_or_ge k 7 with q | q
  · exact q
  · exfalso
    have : kdY k = 99 := by
      unfold kdY
      rw [List.getD_eq_getElem?_getD, List.getElem?_eq_none (by show 7 ≤ k; exact q)]
      rfl
    omega
theorem kdYl {k K : Nat} (h : kdY k = K) (hK : Nat.blt K 99 = true) : k < 7 := kdY_lt (by rw [h]; exact Nat.blt_eq.mp hK)
theorem kd7_f {k : Nat} (h : kdY k = 7) : kdY (k + 1) = 20 ∧ kdY (k + 2) = 21 ∧ kdY (k + 3) = 22 ∧ kdY (k + 4) = 23 ∧ kdY (k + 5) = 24 ∧ kdY (k + 6) = 25 :=
  (by decide +kernel : ∀ k, k < 7 → kdY k = 7 → kdY (k + 1) = 20 ∧ kdY (k + 2) = 21 ∧ kdY (k + 3) = 22 ∧ kdY (k + 4) = 23 ∧ kdY (k + 5) = 24 ∧ kdY (k + 6) = 25) k (kdY_lt (by omega)) h
theorem ly7 {E : xE} {B k : Nat} (h : kdY k = 7) (f : Nat → Int32) : layY E B k f = .inr (7, sh7 B k f) := by unfold layY; rw [h]; rfl
theorem ly20 {E : xE} {B k : Nat} (h : kdY k = 20) (f : Nat → Int32) : layY E B k f = .inl (E.2.1 0, 196, .inl f) := by unfold layY; rw [h]; rfl
theorem ly21 {E : xE} {B k : Nat} (h : kdY k = 21) (f : Nat → Int32) : layY E B k f = .inl (E.2.1 0, 1176, .inl f) := by unfold layY; rw [h]; rfl
theorem ly22 {E : xE} {B k : Nat} (h : kdY k = 22) (f : Nat → Int32) : layY E B k f = .inl (E.2.1 1, 100, .inl f) := by unfold layY; rw [h]; rfl
theorem ly23 {E : xE} {B k : Nat} (h : kdY k = 23) (f : Nat → Int32) : layY E B k f = .inl (E.2.1 0, 196, .inl f) := by unfold layY; rw [h]; rfl
theorem ly24 {E : xE} {B k : Nat} (h : kdY k = 24) (f : Nat → Int32) : layY E B k f = .inl (E.2.1 0, 24, .inl f) := by unfold layY; rw [h]; rfl
theorem ly25 {E : xE} {B k : Nat} (h : kdY k = 25) (f : Nat → Int32) : layY E B k f = .inl (E.2.1 0, 6, .inl f) := by unfold layY; rw [h]; rfl
theorem bz_bz (x : Int32) : bz (bz x) = bz x := by unfold bz; split <;> rfl
theorem bz_cases (x : Int32) : bz x = 0 ∨ bz x = 1 := by unfold bz; split; exact Or.inl rfl; exact Or.inr rfl
theorem bz_nar (x : Int32) : narrow .boolean (.int (bz x)) = .int (bz x) := by rcases bz_cases x with h | h <;> rw [h] <;> rfl
theorem bz_fit (x : Int32) : fits .boolean (.int (bz x)) = true := by rcases bz_cases x with h | h <;> rw [h] <;> rfl
section PRO
variable {p : Program} {l : Launch} {e : Env} {R : Room} {s : State} {m : MethodId} {args : Array Value} {below : List Frame} {meth : Method} {c : Code} {H : Heap} {locs : List Loc} {Q : State → Prop}
variable {cc : ByteArray} {pc nL : Nat} {ls : Array Slot} {rest : List Value} {E : xE} {B n : Nat} {lay : Nat → (Nat → Int32) → va_E} {σ : xM} {x0 : Cond} {own : String}
/-- a method, from its entry -/
theorem x_met {y : MethodName} {b : ByteArray} {mL : Nat} {ret : Option FieldType} {rm : Room} {av : List Value} {lv : List (Nat × Value)} {v : Option Value} {σ' : xM} (hy : plainFor y = true) (hlen : (lg_sl av).length ≤ mL) (hlv : lv_args 0 av = lv)
    (body : ∀ (p : Program) (e : Env) (s : State) (m : MethodId) (below : List Frame) (meth : Method) (c : Code) (ls : Array Slot), xCX p m c b mL s av.toArray (Cond.code y b mL ret) y.cls E B n → meth.sig.returnType = ret → meth.locks = false → xS E B n lay s σ s.heap [] → lv_has ls mL lv →
      W p l e rm s m av.toArray below meth c s.heap [] 0 0 (MQ below (xQ E B n lay v σ') av.toArray s 0 0 (wA B n)) (F0 m 0 ls [])) :
    Met l y (Cond.code y b mL ret :: AL) rm (xP E B n lay av σ) (xQ E B n lay v σ') 0 0 (wA B n) := by
  refine va_MetF (cc := b) (maxL := mL) (ret := ret) hy rfl ?_
  intro p e s m args below meth c s₁ BB hml hv
  obtain ⟨rfl, hE, hP⟩ := hv
  have hown : s.vm.findClass y.cls = some m.cls := findClass_of_methodNamed BB.named
  rw [lg_entry_eq]
  exact body p e s m below meth c _ ⟨⟨BB.exec, BB.bytes, hml, hown, atoms_spec (ws := Cond.code y b mL ret :: AL) BB.pre⟩, hE⟩ BB.returns BB.notSynchronized ⟨hP, va_S.rf⟩ (hlv ▸ lv_entry av hlen)
variable {σ' : xM} {x : Int32} {v : Option Value}
theorem x_iret (CX : xCX p m c cc nL s args x0 own E B n) (hr : meth.sig.returnType = some .int) (hlk : meth.locks = false) (hM : xS E B n lay s σ H locs) (hv : v = some (.int x)) (hdg : decode cc pc = .ok (.ireturn, 1)) :
    W p l e R s m args below meth c H locs 0 0 (MQ below (xQ E B n lay v σ) args s 0 0 (wA B n)) (F0 m pc ls [.int x]) := by
  subst hv
  exact W.iret CX.1.1 CX.1.2.1 hr (fun t ht _ => ⟨⟨rfl, by rw [ht]; exact hM.1⟩, hM.2.F ht⟩) hM.2.2.2 hdg hlk
theorem x_zret (CX : xCX p m c cc nL s args x0 own E B n) (hr : meth.sig.returnType = some .boolean) (hlk : meth.locks = false) (hM : xS E B n lay s σ H locs) {y : Int32} (hy : x = bz y) (hv : v = some (.int (bz y))) (hdg : decode cc pc = .ok (.ireturn, 1)) :
    W p l e R s m args below meth c H locs 0 0 (MQ below (xQ E B n lay v σ) args s 0 0 (wA B n)) (F0 m pc ls [.int x]) := by
  subst hv
  subst hy
  exact W.zret CX.1.1 CX.1.2.1 hr (bz_nar y) (fun t ht _ => ⟨⟨rfl, by rw [ht]; exact hM.1⟩, hM.2.F ht⟩) hM.2.2.2 hdg hlk
theorem x_vret (CX : xCX p m c cc nL s args x0 own E B n) (hr : meth.sig.returnType = none) (hlk : meth.locks = false) (hM : xS E B n lay s σ H locs) (hv : v = none) (hdg : decode cc pc = .ok (.return_, 1)) :
    W p l e R s m args below meth c H locs 0 0 (MQ below (xQ E B n lay v σ) args s 0 0 (wA B n)) (F0 m pc ls []) := by
  subst hv
  exact W.vret CX.1.1 CX.1.2.1 hr (fun t ht _ => ⟨⟨rfl, by rw [ht]; exact hM.1⟩, hM.2.F ht⟩) hM.2.2.2 hdg hlk
theorem x_aret (CX : xCX p m c cc nL s args x0 own E B n) {C : String} (hr : meth.sig.returnType = some (.object C)) (hlk : meth.locks = false) (hM : xS E B n lay s σ H locs) {w : Value} (hw : w = .null ∨ ∃ a, w = .ref a) (hv : v = some w) (hdg : decode cc pc = .ok (.areturn, 1)) :
    W p l e R s m args below meth c H locs 0 0 (MQ below (xQ E B n lay v σ) args s 0 0 (wA B n)) (F0 m pc ls [w]) := by
  subst hv
  exact W.aret CX.1.1 CX.1.2.1 hr (Or.inl ⟨_, rfl⟩) hw (fun t ht _ => ⟨⟨rfl, by rw [ht]; exact hM.1⟩, hM.2.F ht⟩) hM.2.2.2 hdg hlk
/-- System.arraycopy between two whole-number arrays, from 0 to 0 -/
theorem x_acopy (CX : xCX p m c cc nL s args x0 own E B n) (hM : xS E B n lay s σ H locs) {k k' N0 N1 nn index : Nat} {z : Int32} (hk : k < n) (hk' : k' < n) (hlay : lay k (σ k) = .inl (E.2.1 0, N0, .inl (σ k))) (hlay' : ∀ f, lay k' f = .inl (E.2.1 0, N1, .inl f)) (hz : z.toNatClampNeg = nn) (h3 : ¬ z < 0) (h4 : nn ≤ N0) (h5 : nn ≤ N1) (hls : ls.size = nL)
    (hL : Cond.methodLink own index arraycopyName ∈ AL ∧ Cond.native arraycopyName ∈ AL ∧ Cond.static arraycopyName ∈ AL ∧ Cond.initialized "java/lang/System" ∈ AL)
    (hfr : 1 ≤ R.frames) (hlo : (rest.map fun v => v.category).sum + (nativeFrameWords "java/lang/System" "arraycopy" 5 + 11) ≤ R.locals) (hdg : decode cc pc = .ok (.invokestatic index, 3))
    (kk : ∀ (H1 : Heap) (locs1 : List Loc) (σ1 : xM), σ1 = xcp σ k k' nn → xS E B n lay s σ1 H1 locs1 → W p l e R s m args below meth c H1 locs1 0 0 Q (F0 m (pc + 3) ls rest)) : W p l e R s m args below meth c H locs 0 0 Q (F0 m pc ls (.int z :: .int 0 :: .ref (B + k') :: .int 0 :: .ref (B + k) :: rest)) := by
  obtain ⟨w1, w2, w3, w4⟩ := hL
  subst hz
  have z0 : ((0 : Int32)).toNatClampNeg = 0 := by decide
  refine va_copyi (D := E.1) (cl := vwCl) (tys := xty E) (ws := wl B lay n σ) (A := wA B n) (H0 := s.heap) CX.1.1 CX.1.2.1 (CX.1.2.2.1.trans hls.symm) CX.1.2.2.2.1 (x_hts CX w1) (x_hts CX w2) (x_hts CX w3) (x_hts CX w4) CX.2.1 hM.1 wl_D hM.2 k k' 0 0 (by rw [wl_get hk, hlay]) (by rw [wl_get hk', hlay']) rfl rfl rfl (by decide) (by decide) h3 (by rw [z0]; omega) (by rw [z0]; omega) (fun _ _ => rfl) hfr hlo hdg (fun H1 locs1 h1 _ h3 => ?_)
  refine kk H1 locs1 _ rfl ⟨?_, h3⟩
  rw [z0, wl_set (σ' := xcp σ k k' z.toNatClampNeg) hk' (by rw [xcp_same, hlay']) (fun i hi => xcp_ne hi)] at h1
  exact h1
end PRO
theorem tsw_out {x : Int32} {lo hi : Int} (cs : List Int32) (hcs : cs.map Int32.toInt = (List.range cs.length).map (fun i : Nat => lo + (i : Int))) (hhi : lo + (cs.length : Int) = hi + 1) (h : ∀ c ∈ cs, ¬ x = c) : x.toInt < lo ∨ hi < x.toInt := by
  rcases Int.lt_or_le x.toInt lo with h1 | h1
  · exact Or.inl h1
  rcases Int.lt_or_le hi x.toInt with h2 | h2
  · exact Or.inr h2
  exfalso
  have hl : (x.toInt - lo).toNat < cs.length := by omega
  have e1 : (cs.map Int32.toInt)[(x.toInt - lo).toNat]? = some x.toInt := by
    rw [hcs, List.getElem?_map, List.getElem?_range hl]
    simp only [Option.map_some]
    congr 1
    omega
  rw [List.getElem?_map] at e1
  cases hc : cs[(x.toInt - lo).toNat]? with
  | none => rw [hc] at e1; cases e1
  | some c =>
    rw [hc] at e1
    exact h c (List.mem_of_getElem? hc) (Int32.toInt_inj.mp (Option.some.inj e1)).symm
end
section
section LONG
variable {p : Program} {l : Launch} {e : Env} {R : Room} {s : State} {m : MethodId} {args : Array Value} {below : List Frame} {meth : Method} {c : Code} {H : Heap} {locs : List Loc} {Q : State → Prop}
variable {cc : ByteArray} {pc nL : Nat} {ls : Array Slot} {rest : List Value} {E : xE} {B n : Nat} {lay : Nat → (Nat → Int32) → va_E} {σ : xM} {x0 : Cond} {own : String}
theorem x_lret {x : Int64} {v : Option Value} (CX : xCX p m c cc nL s args x0 own E B n) (hr : meth.sig.returnType = some .long) (hlk : meth.locks = false) (hM : xS E B n lay s σ H locs) (hv : v = some (.long x)) (hdg : decode cc pc = .ok (.lreturn, 1)) :
    W p l e R s m args below meth c H locs 0 0 (MQ below (xQ E B n lay v σ) args s 0 0 (wA B n)) (F0 m pc ls [.long x]) := by
  subst hv
  exact W.lret CX.1.1 CX.1.2.1 hr (fun t ht _ => ⟨⟨rfl, by rw [ht]; exact hM.1⟩, hM.2.F ht⟩) hM.2.2.2 hdg hlk
end LONG
end
section
/-! the words that the contracts use, by their places in the tables -/
theorem wk_X6_count : Cond.code yX6_count cX6_count 2 (some .int) ∈ AL := AL_mem (AL_2 (List.mem_of_getElem? (i := 25) rfl)) rfl
theorem wi_X6 : Cond.initialized RX6 ∈ AL := AL_mem (AL_1 (List.mem_of_getElem? (i := 1) rfl)) rfl
theorem ws_X6_count : Cond.instanceMethod yX6_count ∈ AL := AL_mem (AL_2 (List.mem_of_getElem? (i := 23) rfl)) rfl
theorem wv_X6_count : Cond.selects yX6_count.cls yX6_count yX6_count ∈ AL := AL_mem (AL_2 (List.mem_of_getElem? (i := 24) rfl)) rfl
theorem lk_L_12 : xLV RL 12 yX6_count cX6_count 2 (some .int) 1 := ⟨⟨AL_mem (AL_2 (List.mem_of_getElem? (i := 22) rfl)) rfl, ws_X6_count, wv_X6_count, wi_X6, wk_X6_count⟩, by decide, by decide, by decide +kernel⟩
theorem wk_X6_room : Cond.code yX6_room cX6_room 4 (some .int) ∈ AL := AL_mem (AL_1 (List.mem_of_getElem? (i := 231) rfl)) rfl
theorem ws_X6_room : Cond.instanceMethod yX6_room ∈ AL := AL_mem (AL_1 (List.mem_of_getElem? (i := 229) rfl)) rfl
theorem wv_X6_room : Cond.selects yX6_room.cls yX6_room yX6_room ∈ AL := AL_mem (AL_1 (List.mem_of_getElem? (i := 230) rfl)) rfl
theorem lk_L_20 : xLV RL 20 yX6_room cX6_room 4 (some .int) 2 := ⟨⟨AL_mem (AL_1 (List.mem_of_getElem? (i := 228) rfl)) rfl, ws_X6_room, wv_X6_room, wi_X6, wk_X6_room⟩, by decide, by decide, by decide +kernel⟩
theorem wk_X6_book : Cond.code yX6_book cX6_book 4 (some .int) ∈ AL := AL_mem (AL_2 (List.mem_of_getElem? (i := 16) rfl)) rfl
theorem ws_X6_book : Cond.instanceMethod yX6_book ∈ AL := AL_mem (AL_2 (List.mem_of_getElem? (i := 14) rfl)) rfl
theorem wv_X6_book : Cond.selects yX6_book.cls yX6_book yX6_book ∈ AL := AL_mem (AL_2 (List.mem_of_getElem? (i := 15) rfl)) rfl
theorem lk_L_26 : xLV RL 26 yX6_book cX6_book 4 (some .int) 2 := ⟨⟨AL_mem (AL_2 (List.mem_of_getElem? (i := 13) rfl)) rfl, ws_X6_book, wv_X6_book, wi_X6, wk_X6_book⟩, by decide, by decide, by decide +kernel⟩
theorem wk_X6_link : Cond.code yX6_link cX6_link 3 (some .int) ∈ AL := AL_mem (AL_2 (List.mem_of_getElem? (i := 170) rfl)) rfl
theorem ws_X6_link : Cond.instanceMethod yX6_link ∈ AL := AL_mem (AL_2 (List.mem_of_getElem? (i := 168) rfl)) rfl
theorem wv_X6_link : Cond.selects yX6_link.cls yX6_link yX6_link ∈ AL := AL_mem (AL_2 (List.mem_of_getElem? (i := 169) rfl)) rfl
theorem lk_L_31 : xLV RL 31 yX6_link cX6_link 3 (some .int) 2 := ⟨⟨AL_mem (AL_2 (List.mem_of_getElem? (i := 167) rfl)) rfl, ws_X6_link, wv_X6_link, wi_X6, wk_X6_link⟩, by decide, by decide, by decide +kernel⟩
theorem wk_L_low : Cond.code yL_low cL_low 2 (some .int) ∈ AL := AL_mem (AL_2 (List.mem_of_getElem? (i := 181) rfl)) rfl
theorem wi_L : Cond.initialized RL ∈ AL := AL_mem (AL_1 (List.mem_of_getElem? (i := 0) rfl)) rfl
theorem ws_L_low : Cond.static yL_low ∈ AL := AL_mem (AL_2 (List.mem_of_getElem? (i := 180) rfl)) rfl
theorem lk_L_34 : xLS RL 34 yL_low cL_low 2 (some .int) 2 := ⟨⟨AL_mem (AL_2 (List.mem_of_getElem? (i := 179) rfl)) rfl, ws_L_low, wi_L, wk_L_low⟩, by decide, by decide, by decide +kernel⟩
theorem wk_X6_addRoom : Cond.code yX6_addRoom cX6_addRoom 5 (some .int) ∈ AL := AL_mem (AL_2 (List.mem_of_getElem? (i := 186) rfl)) rfl
theorem ws_X6_addRoom : Cond.instanceMethod yX6_addRoom ∈ AL := AL_mem (AL_2 (List.mem_of_getElem? (i := 184) rfl)) rfl
theorem wv_X6_addRoom : Cond.selects yX6_addRoom.cls yX6_addRoom yX6_addRoom ∈ AL := AL_mem (AL_2 (List.mem_of_getElem? (i := 185) rfl)) rfl
theorem lk_L_39 : xLV RL 39 yX6_addRoom cX6_addRoom 5 (some .int) 4 := ⟨⟨AL_mem (AL_2 (List.mem_of_getElem? (i := 183) rfl)) rfl, ws_X6_addRoom, wv_X6_addRoom, wi_X6, wk_X6_addRoom⟩, by decide, by decide, by decide +kernel⟩
theorem wk_X6_setLink : Cond.code yX6_setLink cX6_setLink 6 (some .int) ∈ AL := AL_mem (AL_2 (List.mem_of_getElem? (i := 211) rfl)) rfl
theorem ws_X6_setLink : Cond.instanceMethod yX6_setLink ∈ AL := AL_mem (AL_2 (List.mem_of_getElem? (i := 209) rfl)) rfl
theorem wv_X6_setLink : Cond.selects yX6_setLink.cls yX6_setLink yX6_setLink ∈ AL := AL_mem (AL_2 (List.mem_of_getElem? (i := 210) rfl)) rfl
theorem lk_L_43 : xLV RL 43 yX6_setLink cX6_setLink 6 (some .int) 3 := ⟨⟨AL_mem (AL_2 (List.mem_of_getElem? (i := 208) rfl)) rfl, ws_X6_setLink, wv_X6_setLink, wi_X6, wk_X6_setLink⟩, by decide, by decide, by decide +kernel⟩
theorem wk_X6_setThermostat : Cond.code yX6_setThermostat cX6_setThermostat 6 (some .int) ∈ AL := AL_mem (AL_2 (List.mem_of_getElem? (i := 227) rfl)) rfl
theorem ws_X6_setThermostat : Cond.instanceMethod yX6_setThermostat ∈ AL := AL_mem (AL_2 (List.mem_of_getElem? (i := 225) rfl)) rfl
theorem wv_X6_setThermostat : Cond.selects yX6_setThermostat.cls yX6_setThermostat yX6_setThermostat ∈ AL := AL_mem (AL_2 (List.mem_of_getElem? (i := 226) rfl)) rfl
theorem lk_L_47 : xLV RL 47 yX6_setThermostat cX6_setThermostat 6 (some .int) 3 := ⟨⟨AL_mem (AL_2 (List.mem_of_getElem? (i := 224) rfl)) rfl, ws_X6_setThermostat, wv_X6_setThermostat, wi_X6, wk_X6_setThermostat⟩, by decide, by decide, by decide +kernel⟩
theorem wk_X6_setNumber : Cond.code yX6_setNumber cX6_setNumber 4 (some .int) ∈ AL := AL_mem (AL_2 (List.mem_of_getElem? (i := 232) rfl)) rfl
theorem ws_X6_setNumber : Cond.instanceMethod yX6_setNumber ∈ AL := AL_mem (AL_2 (List.mem_of_getElem? (i := 230) rfl)) rfl
theorem wv_X6_setNumber : Cond.selects yX6_setNumber.cls yX6_setNumber yX6_setNumber ∈ AL := AL_mem (AL_2 (List.mem_of_getElem? (i := 231) rfl)) rfl
theorem lk_L_50 : xLV RL 50 yX6_setNumber cX6_setNumber 4 (some .int) 2 := ⟨⟨AL_mem (AL_2 (List.mem_of_getElem? (i := 229) rfl)) rfl, ws_X6_setNumber, wv_X6_setNumber, wi_X6, wk_X6_setNumber⟩, by decide, by decide, by decide +kernel⟩
theorem wk_X6_warm : Cond.code yX6_warm cX6_warm 5 (some .int) ∈ AL := AL_mem (AL_3 (List.mem_of_getElem? (i := 8) rfl)) rfl
theorem ws_X6_warm : Cond.instanceMethod yX6_warm ∈ AL := AL_mem (AL_3 (List.mem_of_getElem? (i := 6) rfl)) rfl
theorem wv_X6_warm : Cond.selects yX6_warm.cls yX6_warm yX6_warm ∈ AL := AL_mem (AL_3 (List.mem_of_getElem? (i := 7) rfl)) rfl
theorem lk_L_54 : xLV RL 54 yX6_warm cX6_warm 5 (some .int) 2 := ⟨⟨AL_mem (AL_3 (List.mem_of_getElem? (i := 5) rfl)) rfl, ws_X6_warm, wv_X6_warm, wi_X6, wk_X6_warm⟩, by decide, by decide, by decide +kernel⟩
theorem wk_X6_service : Cond.code yX6_service cX6_service 4 (some .int) ∈ AL := AL_mem (AL_3 (List.mem_of_getElem? (i := 21) rfl)) rfl
theorem ws_X6_service : Cond.instanceMethod yX6_service ∈ AL := AL_mem (AL_3 (List.mem_of_getElem? (i := 19) rfl)) rfl
theorem wv_X6_service : Cond.selects yX6_service.cls yX6_service yX6_service ∈ AL := AL_mem (AL_3 (List.mem_of_getElem? (i := 20) rfl)) rfl
theorem lk_L_57 : xLV RL 57 yX6_service cX6_service 4 (some .int) 1 := ⟨⟨AL_mem (AL_3 (List.mem_of_getElem? (i := 18) rfl)) rfl, ws_X6_service, wv_X6_service, wi_X6, wk_X6_service⟩, by decide, by decide, by decide +kernel⟩
theorem wk_X6_resetCutout : Cond.code yX6_resetCutout cX6_resetCutout 4 (some .int) ∈ AL := AL_mem (AL_3 (List.mem_of_getElem? (i := 29) rfl)) rfl
theorem ws_X6_resetCutout : Cond.instanceMethod yX6_resetCutout ∈ AL := AL_mem (AL_3 (List.mem_of_getElem? (i := 27) rfl)) rfl
theorem wv_X6_resetCutout : Cond.selects yX6_resetCutout.cls yX6_resetCutout yX6_resetCutout ∈ AL := AL_mem (AL_3 (List.mem_of_getElem? (i := 28) rfl)) rfl
theorem lk_L_60 : xLV RL 60 yX6_resetCutout cX6_resetCutout 4 (some .int) 1 := ⟨⟨AL_mem (AL_3 (List.mem_of_getElem? (i := 26) rfl)) rfl, ws_X6_resetCutout, wv_X6_resetCutout, wi_X6, wk_X6_resetCutout⟩, by decide, by decide, by decide +kernel⟩
theorem wk_X6_pass : Cond.code yX6_pass cX6_pass 2 (some .int) ∈ AL := AL_mem (AL_3 (List.mem_of_getElem? (i := 34) rfl)) rfl
theorem ws_X6_pass : Cond.instanceMethod yX6_pass ∈ AL := AL_mem (AL_3 (List.mem_of_getElem? (i := 32) rfl)) rfl
theorem wv_X6_pass : Cond.selects yX6_pass.cls yX6_pass yX6_pass ∈ AL := AL_mem (AL_3 (List.mem_of_getElem? (i := 33) rfl)) rfl
theorem lk_L_63 : xLV RL 63 yX6_pass cX6_pass 2 (some .int) 1 := ⟨⟨AL_mem (AL_3 (List.mem_of_getElem? (i := 31) rfl)) rfl, ws_X6_pass, wv_X6_pass, wi_X6, wk_X6_pass⟩, by decide, by decide, by decide +kernel⟩
theorem wk_X1_passMinute : Cond.code yX1_passMinute cX1_passMinute 4 (some .int) ∈ AL := AL_mem (AL_2 (List.mem_of_getElem? (i := 75) rfl)) rfl
theorem wi_X1 : Cond.initialized RX1 ∈ AL := AL_mem (AL_1 (List.mem_of_getElem? (i := 2) rfl)) rfl
theorem ws_X1_passMinute : Cond.instanceMethod yX1_passMinute ∈ AL := AL_mem (AL_2 (List.mem_of_getElem? (i := 73) rfl)) rfl
theorem wv_X1_passMinute : Cond.selects yX1_passMinute.cls yX1_passMinute yX1_passMinute ∈ AL := AL_mem (AL_2 (List.mem_of_getElem? (i := 74) rfl)) rfl
theorem lk_X1_103 : xLV RX1 103 yX1_passMinute cX1_passMinute 4 (some .int) 0 := ⟨⟨AL_mem (AL_2 (List.mem_of_getElem? (i := 137) rfl)) rfl, ws_X1_passMinute, wv_X1_passMinute, wi_X1, wk_X1_passMinute⟩, by decide, by decide, by decide +kernel⟩
theorem wk_X1_heatRooms : Cond.code yX1_heatRooms cX1_heatRooms 4 none ∈ AL := AL_mem (AL_2 (List.mem_of_getElem? (i := 79) rfl)) rfl
theorem ws_X1_heatRooms : Cond.instanceMethod yX1_heatRooms ∈ AL := AL_mem (AL_2 (List.mem_of_getElem? (i := 78) rfl)) rfl
theorem wv_X1_heatRooms : Cond.selects yX1_heatRooms.cls yX1_heatRooms yX1_heatRooms ∈ AL := AL_memP (List.mem_of_getElem? (i := 0) rfl) rfl
theorem lk_X1_107 : xLV RX1 107 yX1_heatRooms cX1_heatRooms 4 none 0 := ⟨⟨AL_mem (AL_2 (List.mem_of_getElem? (i := 76) rfl)) rfl, ws_X1_heatRooms, wv_X1_heatRooms, wi_X1, wk_X1_heatRooms⟩, by decide, by decide, by decide +kernel⟩
theorem wk_X1_exchangeHeat : Cond.code yX1_exchangeHeat cX1_exchangeHeat 7 none ∈ AL := AL_mem (AL_2 (List.mem_of_getElem? (i := 95) rfl)) rfl
theorem ws_X1_exchangeHeat : Cond.instanceMethod yX1_exchangeHeat ∈ AL := AL_mem (AL_2 (List.mem_of_getElem? (i := 94) rfl)) rfl
theorem wv_X1_exchangeHeat : Cond.selects yX1_exchangeHeat.cls yX1_exchangeHeat yX1_exchangeHeat ∈ AL := AL_memP (List.mem_of_getElem? (i := 2) rfl) rfl
theorem lk_X1_110 : xLV RX1 110 yX1_exchangeHeat cX1_exchangeHeat 7 none 0 := ⟨⟨AL_mem (AL_2 (List.mem_of_getElem? (i := 92) rfl)) rfl, ws_X1_exchangeHeat, wv_X1_exchangeHeat, wi_X1, wk_X1_exchangeHeat⟩, by decide, by decide, by decide +kernel⟩
theorem wk_X1_settle : Cond.code yX1_settle cX1_settle 4 (some .boolean) ∈ AL := AL_mem (AL_2 (List.mem_of_getElem? (i := 110) rfl)) rfl
theorem ws_X1_settle : Cond.instanceMethod yX1_settle ∈ AL := AL_mem (AL_2 (List.mem_of_getElem? (i := 109) rfl)) rfl
theorem wv_X1_settle : Cond.selects yX1_settle.cls yX1_settle yX1_settle ∈ AL := AL_memP (List.mem_of_getElem? (i := 3) rfl) rfl
theorem lk_X1_113 : xLV RX1 113 yX1_settle cX1_settle 4 (some .boolean) 1 := ⟨⟨AL_mem (AL_2 (List.mem_of_getElem? (i := 107) rfl)) rfl, ws_X1_settle, wv_X1_settle, wi_X1, wk_X1_settle⟩, by decide, by decide, by decide +kernel⟩
theorem wk_X4_temperatureAt : Cond.code yX4_temperatureAt cX4_temperatureAt 4 (some .int) ∈ AL := AL_mem (AL_2 (List.mem_of_getElem? (i := 83) rfl)) rfl
theorem wi_X4 : Cond.initialized RX4 ∈ AL := AL_mem (AL_1 (List.mem_of_getElem? (i := 3) rfl)) rfl
theorem ws_X4_temperatureAt : Cond.instanceMethod yX4_temperatureAt ∈ AL := AL_mem (AL_2 (List.mem_of_getElem? (i := 81) rfl)) rfl
theorem wv_X4_temperatureAt : Cond.selects yX4_temperatureAt.cls yX4_temperatureAt yX4_temperatureAt ∈ AL := AL_mem (AL_2 (List.mem_of_getElem? (i := 82) rfl)) rfl
theorem lk_X1_116 : xLV RX1 116 yX4_temperatureAt cX4_temperatureAt 4 (some .int) 1 := ⟨⟨AL_mem (AL_2 (List.mem_of_getElem? (i := 80) rfl)) rfl, ws_X4_temperatureAt, wv_X4_temperatureAt, wi_X4, wk_X4_temperatureAt⟩, by decide, by decide, by decide +kernel⟩
theorem wk_X3_beginMinute : Cond.code yX3_beginMinute cX3_beginMinute 3 none ∈ AL := AL_mem (AL_2 (List.mem_of_getElem? (i := 91) rfl)) rfl
theorem wi_X3 : Cond.initialized RX3 ∈ AL := AL_mem (AL_1 (List.mem_of_getElem? (i := 4) rfl)) rfl
theorem ws_X3_beginMinute : Cond.instanceMethod yX3_beginMinute ∈ AL := AL_mem (AL_2 (List.mem_of_getElem? (i := 89) rfl)) rfl
theorem wv_X3_beginMinute : Cond.selects yX3_beginMinute.cls yX3_beginMinute yX3_beginMinute ∈ AL := AL_mem (AL_2 (List.mem_of_getElem? (i := 90) rfl)) rfl
theorem lk_X1_119 : xLV RX1 119 yX3_beginMinute cX3_beginMinute 3 none 1 := ⟨⟨AL_mem (AL_2 (List.mem_of_getElem? (i := 88) rfl)) rfl, ws_X3_beginMinute, wv_X3_beginMinute, wi_X3, wk_X3_beginMinute⟩, by decide, by decide, by decide +kernel⟩
theorem wk_X3_giveToOthers : Cond.code yX3_giveToOthers cX3_giveToOthers 2 none ∈ AL := AL_mem (AL_2 (List.mem_of_getElem? (i := 106) rfl)) rfl
theorem ws_X3_giveToOthers : Cond.instanceMethod yX3_giveToOthers ∈ AL := AL_mem (AL_2 (List.mem_of_getElem? (i := 104) rfl)) rfl
theorem wv_X3_giveToOthers : Cond.selects yX3_giveToOthers.cls yX3_giveToOthers yX3_giveToOthers ∈ AL := AL_mem (AL_2 (List.mem_of_getElem? (i := 105) rfl)) rfl
theorem lk_X1_126 : xLV RX1 126 yX3_giveToOthers cX3_giveToOthers 2 none 1 := ⟨⟨AL_mem (AL_2 (List.mem_of_getElem? (i := 103) rfl)) rfl, ws_X3_giveToOthers, wv_X3_giveToOthers, wi_X3, wk_X3_giveToOthers⟩, by decide, by decide, by decide +kernel⟩
theorem wk_X3_temperature : Cond.code yX3_temperature cX3_temperature 1 (some .int) ∈ AL := AL_mem (AL_2 (List.mem_of_getElem? (i := 4) rfl)) rfl
theorem ws_X3_temperature : Cond.instanceMethod yX3_temperature ∈ AL := AL_mem (AL_2 (List.mem_of_getElem? (i := 2) rfl)) rfl
theorem wv_X3_temperature : Cond.selects yX3_temperature.cls yX3_temperature yX3_temperature ∈ AL := AL_mem (AL_2 (List.mem_of_getElem? (i := 3) rfl)) rfl
theorem lk_X1_133 : xLV RX1 133 yX3_temperature cX3_temperature 1 (some .int) 0 := ⟨⟨AL_mem (AL_2 (List.mem_of_getElem? (i := 111) rfl)) rfl, ws_X3_temperature, wv_X3_temperature, wi_X3, wk_X3_temperature⟩, by decide, by decide, by decide +kernel⟩
theorem wk_X3_isBladeCold : Cond.code yX3_isBladeCold cX3_isBladeCold 1 (some .boolean) ∈ AL := AL_mem (AL_2 (List.mem_of_getElem? (i := 115) rfl)) rfl
theorem ws_X3_isBladeCold : Cond.instanceMethod yX3_isBladeCold ∈ AL := AL_mem (AL_2 (List.mem_of_getElem? (i := 113) rfl)) rfl
theorem wv_X3_isBladeCold : Cond.selects yX3_isBladeCold.cls yX3_isBladeCold yX3_isBladeCold ∈ AL := AL_mem (AL_2 (List.mem_of_getElem? (i := 114) rfl)) rfl
theorem lk_X1_142 : xLV RX1 142 yX3_isBladeCold cX3_isBladeCold 1 (some .boolean) 0 := ⟨⟨AL_mem (AL_2 (List.mem_of_getElem? (i := 112) rfl)) rfl, ws_X3_isBladeCold, wv_X3_isBladeCold, wi_X3, wk_X3_isBladeCold⟩, by decide, by decide, by decide +kernel⟩
theorem wk_X1_close : Cond.code yX1_close cX1_close 2 none ∈ AL := AL_mem (AL_2 (List.mem_of_getElem? (i := 119) rfl)) rfl
theorem ws_X1_close : Cond.instanceMethod yX1_close ∈ AL := AL_mem (AL_2 (List.mem_of_getElem? (i := 118) rfl)) rfl
theorem wv_X1_close : Cond.selects yX1_close.cls yX1_close yX1_close ∈ AL := AL_memP (List.mem_of_getElem? (i := 4) rfl) rfl
theorem lk_X1_146 : xLV RX1 146 yX1_close cX1_close 2 none 1 := ⟨⟨AL_mem (AL_2 (List.mem_of_getElem? (i := 116) rfl)) rfl, ws_X1_close, wv_X1_close, wi_X1, wk_X1_close⟩, by decide, by decide, by decide +kernel⟩
theorem wk_X3_isBladeHot : Cond.code yX3_isBladeHot cX3_isBladeHot 1 (some .boolean) ∈ AL := AL_mem (AL_2 (List.mem_of_getElem? (i := 123) rfl)) rfl
theorem ws_X3_isBladeHot : Cond.instanceMethod yX3_isBladeHot ∈ AL := AL_mem (AL_2 (List.mem_of_getElem? (i := 121) rfl)) rfl
theorem wv_X3_isBladeHot : Cond.selects yX3_isBladeHot.cls yX3_isBladeHot yX3_isBladeHot ∈ AL := AL_mem (AL_2 (List.mem_of_getElem? (i := 122) rfl)) rfl
theorem lk_X1_149 : xLV RX1 149 yX3_isBladeHot cX3_isBladeHot 1 (some .boolean) 0 := ⟨⟨AL_mem (AL_2 (List.mem_of_getElem? (i := 120) rfl)) rfl, ws_X3_isBladeHot, wv_X3_isBladeHot, wi_X3, wk_X3_isBladeHot⟩, by decide, by decide, by decide +kernel⟩
theorem wk_X3_tryToOpen : Cond.code yX3_tryToOpen cX3_tryToOpen 2 none ∈ AL := AL_mem (AL_2 (List.mem_of_getElem? (i := 127) rfl)) rfl
theorem ws_X3_tryToOpen : Cond.instanceMethod yX3_tryToOpen ∈ AL := AL_mem (AL_2 (List.mem_of_getElem? (i := 125) rfl)) rfl
theorem wv_X3_tryToOpen : Cond.selects yX3_tryToOpen.cls yX3_tryToOpen yX3_tryToOpen ∈ AL := AL_mem (AL_2 (List.mem_of_getElem? (i := 126) rfl)) rfl
theorem lk_X1_152 : xLV RX1 152 yX3_tryToOpen cX3_tryToOpen 2 none 1 := ⟨⟨AL_mem (AL_2 (List.mem_of_getElem? (i := 124) rfl)) rfl, ws_X3_tryToOpen, wv_X3_tryToOpen, wi_X3, wk_X3_tryToOpen⟩, by decide, by decide, by decide +kernel⟩
theorem lk_X1_35 : Cond.methodLink RX1 35 arraycopyName ∈ AL ∧ Cond.native arraycopyName ∈ AL ∧ Cond.static arraycopyName ∈ AL ∧ Cond.initialized "java/lang/System" ∈ AL := ⟨AL_mem (AL_2 (List.mem_of_getElem? (i := 55) rfl)) rfl, AL_mem (AL_2 (List.mem_of_getElem? (i := 57) rfl)) rfl, AL_mem (AL_2 (List.mem_of_getElem? (i := 56) rfl)) rfl, AL_mem (AL_1 (List.mem_of_getElem? (i := 9) rfl)) rfl⟩
theorem wk_X4_copyFrom : Cond.code yX4_copyFrom cX4_copyFrom 2 none ∈ AL := AL_mem (AL_2 (List.mem_of_getElem? (i := 61) rfl)) rfl
theorem ws_X4_copyFrom : Cond.instanceMethod yX4_copyFrom ∈ AL := AL_mem (AL_2 (List.mem_of_getElem? (i := 59) rfl)) rfl
theorem wv_X4_copyFrom : Cond.selects yX4_copyFrom.cls yX4_copyFrom yX4_copyFrom ∈ AL := AL_mem (AL_2 (List.mem_of_getElem? (i := 60) rfl)) rfl
theorem lk_X1_41 : xLV RX1 41 yX4_copyFrom cX4_copyFrom 2 none 1 := ⟨⟨AL_mem (AL_2 (List.mem_of_getElem? (i := 58) rfl)) rfl, ws_X4_copyFrom, wv_X4_copyFrom, wi_X4, wk_X4_copyFrom⟩, by decide, by decide, by decide +kernel⟩
theorem wk_X1_roomAt : Cond.code yX1_roomAt cX1_roomAt 2 (some (.object "ThermostatColony$Room")) ∈ AL := AL_mem (AL_1 (List.mem_of_getElem? (i := 235) rfl)) rfl
theorem ws_X1_roomAt : Cond.instanceMethod yX1_roomAt ∈ AL := AL_mem (AL_1 (List.mem_of_getElem? (i := 233) rfl)) rfl
theorem wv_X1_roomAt : Cond.selects yX1_roomAt.cls yX1_roomAt yX1_roomAt ∈ AL := AL_mem (AL_1 (List.mem_of_getElem? (i := 234) rfl)) rfl
theorem lk_X1_52 : xLV RX1 52 yX1_roomAt cX1_roomAt 2 (some (.object "ThermostatColony$Room")) 1 := ⟨⟨AL_mem (AL_2 (List.mem_of_getElem? (i := 37) rfl)) rfl, ws_X1_roomAt, wv_X1_roomAt, wi_X1, wk_X1_roomAt⟩, by decide, by decide, by decide +kernel⟩
theorem wk_X3_copyFrom : Cond.code yX3_copyFrom cX3_copyFrom 2 none ∈ AL := AL_mem (AL_2 (List.mem_of_getElem? (i := 66) rfl)) rfl
theorem ws_X3_copyFrom : Cond.instanceMethod yX3_copyFrom ∈ AL := AL_mem (AL_2 (List.mem_of_getElem? (i := 64) rfl)) rfl
theorem wv_X3_copyFrom : Cond.selects yX3_copyFrom.cls yX3_copyFrom yX3_copyFrom ∈ AL := AL_mem (AL_2 (List.mem_of_getElem? (i := 65) rfl)) rfl
theorem lk_X1_56 : xLV RX1 56 yX3_copyFrom cX3_copyFrom 2 none 1 := ⟨⟨AL_mem (AL_2 (List.mem_of_getElem? (i := 63) rfl)) rfl, ws_X3_copyFrom, wv_X3_copyFrom, wi_X3, wk_X3_copyFrom⟩, by decide, by decide, by decide +kernel⟩
theorem wk_X3_begin : Cond.code yX3_begin cX3_begin 5 none ∈ AL := AL_mem (AL_2 (List.mem_of_getElem? (i := 202) rfl)) rfl
theorem ws_X3_begin : Cond.instanceMethod yX3_begin ∈ AL := AL_mem (AL_2 (List.mem_of_getElem? (i := 200) rfl)) rfl
theorem wv_X3_begin : Cond.selects yX3_begin.cls yX3_begin yX3_begin ∈ AL := AL_mem (AL_2 (List.mem_of_getElem? (i := 201) rfl)) rfl
theorem lk_X1_59 : xLV RX1 59 yX3_begin cX3_begin 5 none 4 := ⟨⟨AL_mem (AL_2 (List.mem_of_getElem? (i := 199) rfl)) rfl, ws_X3_begin, wv_X3_begin, wi_X3, wk_X3_begin⟩, by decide, by decide, by decide +kernel⟩
theorem wk_X1_linkPlace : Cond.code yX1_linkPlace cX1_linkPlace 2 (some .int) ∈ AL := AL_mem (AL_2 (List.mem_of_getElem? (i := 102) rfl)) rfl
theorem ws_X1_linkPlace : Cond.static yX1_linkPlace ∈ AL := AL_mem (AL_2 (List.mem_of_getElem? (i := 101) rfl)) rfl
theorem lk_X1_63 : xLS RX1 63 yX1_linkPlace cX1_linkPlace 2 (some .int) 2 := ⟨⟨AL_mem (AL_2 (List.mem_of_getElem? (i := 100) rfl)) rfl, ws_X1_linkPlace, wi_X1, wk_X1_linkPlace⟩, by decide, by decide, by decide +kernel⟩
theorem wk_X1_putLinkAt : Cond.code yX1_putLinkAt cX1_putLinkAt 3 none ∈ AL := AL_mem (AL_2 (List.mem_of_getElem? (i := 223) rfl)) rfl
theorem ws_X1_putLinkAt : Cond.instanceMethod yX1_putLinkAt ∈ AL := AL_mem (AL_2 (List.mem_of_getElem? (i := 222) rfl)) rfl
theorem wv_X1_putLinkAt : Cond.selects yX1_putLinkAt.cls yX1_putLinkAt yX1_putLinkAt ∈ AL := AL_memP (List.mem_of_getElem? (i := 6) rfl) rfl
theorem lk_X1_67 : xLV RX1 67 yX1_putLinkAt cX1_putLinkAt 3 none 2 := ⟨⟨AL_mem (AL_2 (List.mem_of_getElem? (i := 220) rfl)) rfl, ws_X1_putLinkAt, wv_X1_putLinkAt, wi_X1, wk_X1_putLinkAt⟩, by decide, by decide, by decide +kernel⟩
theorem wk_X1_linkOf : Cond.code yX1_linkOf cX1_linkOf 4 (some .int) ∈ AL := AL_mem (AL_2 (List.mem_of_getElem? (i := 99) rfl)) rfl
theorem ws_X1_linkOf : Cond.instanceMethod yX1_linkOf ∈ AL := AL_mem (AL_2 (List.mem_of_getElem? (i := 97) rfl)) rfl
theorem wv_X1_linkOf : Cond.selects yX1_linkOf.cls yX1_linkOf yX1_linkOf ∈ AL := AL_mem (AL_2 (List.mem_of_getElem? (i := 98) rfl)) rfl
theorem lk_X1_74 : xLV RX1 74 yX1_linkOf cX1_linkOf 4 (some .int) 2 := ⟨⟨AL_mem (AL_2 (List.mem_of_getElem? (i := 96) rfl)) rfl, ws_X1_linkOf, wv_X1_linkOf, wi_X1, wk_X1_linkOf⟩, by decide, by decide, by decide +kernel⟩
theorem wk_X1_number : Cond.code yX1_number cX1_number 2 (some .int) ∈ AL := AL_mem (AL_2 (List.mem_of_getElem? (i := 32) rfl)) rfl
theorem ws_X1_number : Cond.instanceMethod yX1_number ∈ AL := AL_mem (AL_2 (List.mem_of_getElem? (i := 30) rfl)) rfl
theorem wv_X1_number : Cond.selects yX1_number.cls yX1_number yX1_number ∈ AL := AL_mem (AL_2 (List.mem_of_getElem? (i := 31) rfl)) rfl
theorem lk_X1_83 : xLV RX1 83 yX1_number cX1_number 2 (some .int) 1 := ⟨⟨AL_mem (AL_2 (List.mem_of_getElem? (i := 42) rfl)) rfl, ws_X1_number, wv_X1_number, wi_X1, wk_X1_number⟩, by decide, by decide, by decide +kernel⟩
theorem wk_X1_isSuspect : Cond.code yX1_isSuspect cX1_isSuspect 2 (some .boolean) ∈ AL := AL_mem (AL_2 (List.mem_of_getElem? (i := 41) rfl)) rfl
theorem ws_X1_isSuspect : Cond.instanceMethod yX1_isSuspect ∈ AL := AL_mem (AL_2 (List.mem_of_getElem? (i := 39) rfl)) rfl
theorem wv_X1_isSuspect : Cond.selects yX1_isSuspect.cls yX1_isSuspect yX1_isSuspect ∈ AL := AL_mem (AL_2 (List.mem_of_getElem? (i := 40) rfl)) rfl
theorem lk_X1_87 : xLV RX1 87 yX1_isSuspect cX1_isSuspect 2 (some .boolean) 1 := ⟨⟨AL_mem (AL_2 (List.mem_of_getElem? (i := 38) rfl)) rfl, ws_X1_isSuspect, wv_X1_isSuspect, wi_X1, wk_X1_isSuspect⟩, by decide, by decide, by decide +kernel⟩
theorem wk_X2_stateAt : Cond.code yX2_stateAt cX2_stateAt 2 (some (.object "ThermostatColony$Colony")) ∈ AL := AL_mem (AL_2 (List.mem_of_getElem? (i := 154) rfl)) rfl
theorem wi_X2 : Cond.initialized RX2 ∈ AL := AL_mem (AL_1 (List.mem_of_getElem? (i := 6) rfl)) rfl
theorem ws_X2_stateAt : Cond.instanceMethod yX2_stateAt ∈ AL := AL_mem (AL_2 (List.mem_of_getElem? (i := 153) rfl)) rfl
theorem wv_X2_stateAt : Cond.selects yX2_stateAt.cls yX2_stateAt yX2_stateAt ∈ AL := AL_memP (List.mem_of_getElem? (i := 5) rfl) rfl
theorem lk_X2_22 : xLV RX2 22 yX2_stateAt cX2_stateAt 2 (some (.object "ThermostatColony$Colony")) 1 := ⟨⟨AL_mem (AL_2 (List.mem_of_getElem? (i := 151) rfl)) rfl, ws_X2_stateAt, wv_X2_stateAt, wi_X2, wk_X2_stateAt⟩, by decide, by decide, by decide +kernel⟩
theorem wk_X1_copyFrom : Cond.code yX1_copyFrom cX1_copyFrom 5 none ∈ AL := AL_mem (AL_2 (List.mem_of_getElem? (i := 54) rfl)) rfl
theorem ws_X1_copyFrom : Cond.instanceMethod yX1_copyFrom ∈ AL := AL_mem (AL_2 (List.mem_of_getElem? (i := 52) rfl)) rfl
theorem wv_X1_copyFrom : Cond.selects yX1_copyFrom.cls yX1_copyFrom yX1_copyFrom ∈ AL := AL_mem (AL_2 (List.mem_of_getElem? (i := 53) rfl)) rfl
theorem lk_X2_26 : xLV RX2 26 yX1_copyFrom cX1_copyFrom 5 none 1 := ⟨⟨AL_mem (AL_2 (List.mem_of_getElem? (i := 155) rfl)) rfl, ws_X1_copyFrom, wv_X1_copyFrom, wi_X1, wk_X1_copyFrom⟩, by decide, by decide, by decide +kernel⟩
theorem wk_J9_min_7cf53 : Cond.code yJ9_min_7cf53 cJ9_min_7cf53 2 (some .int) ∈ AL := AL_mem (AL_2 (List.mem_of_getElem? (i := 194) rfl)) rfl
theorem wi_J9 : Cond.initialized RJ9 ∈ AL := AL_mem (AL_1 (List.mem_of_getElem? (i := 8) rfl)) rfl
theorem ws_J9_min_7cf53 : Cond.static yJ9_min_7cf53 ∈ AL := AL_mem (AL_2 (List.mem_of_getElem? (i := 193) rfl)) rfl
theorem lk_X2_33 : xLS RX2 33 yJ9_min_7cf53 cJ9_min_7cf53 2 (some .int) 2 := ⟨⟨AL_mem (AL_2 (List.mem_of_getElem? (i := 192) rfl)) rfl, ws_J9_min_7cf53, wi_J9, wk_J9_min_7cf53⟩, by decide, by decide, by decide +kernel⟩
theorem lk_X3_37 : xLV RX3 37 yX3_temperature cX3_temperature 1 (some .int) 0 := ⟨⟨AL_mem (AL_2 (List.mem_of_getElem? (i := 1) rfl)) rfl, ws_X3_temperature, wv_X3_temperature, wi_X3, wk_X3_temperature⟩, by decide, by decide, by decide +kernel⟩
theorem wk_X0_begin : Cond.code yX0_begin cX0_begin 2 none ∈ AL := AL_mem (AL_2 (List.mem_of_getElem? (i := 207) rfl)) rfl
theorem wi_X0 : Cond.initialized RX0 ∈ AL := AL_mem (AL_1 (List.mem_of_getElem? (i := 5) rfl)) rfl
theorem ws_X0_begin : Cond.instanceMethod yX0_begin ∈ AL := AL_mem (AL_2 (List.mem_of_getElem? (i := 205) rfl)) rfl
theorem wv_X0_begin : Cond.selects yX0_begin.cls yX0_begin yX0_begin ∈ AL := AL_mem (AL_2 (List.mem_of_getElem? (i := 206) rfl)) rfl
theorem lk_X3_76 : xLV RX3 76 yX0_begin cX0_begin 2 none 1 := ⟨⟨AL_mem (AL_2 (List.mem_of_getElem? (i := 204) rfl)) rfl, ws_X0_begin, wv_X0_begin, wi_X0, wk_X0_begin⟩, by decide, by decide, by decide +kernel⟩
theorem wk_X0_copyFrom : Cond.code yX0_copyFrom cX0_copyFrom 2 none ∈ AL := AL_mem (AL_2 (List.mem_of_getElem? (i := 70) rfl)) rfl
theorem ws_X0_copyFrom : Cond.instanceMethod yX0_copyFrom ∈ AL := AL_mem (AL_2 (List.mem_of_getElem? (i := 68) rfl)) rfl
theorem wv_X0_copyFrom : Cond.selects yX0_copyFrom.cls yX0_copyFrom yX0_copyFrom ∈ AL := AL_mem (AL_2 (List.mem_of_getElem? (i := 69) rfl)) rfl
theorem lk_X3_80 : xLV RX3 80 yX0_copyFrom cX0_copyFrom 2 none 1 := ⟨⟨AL_mem (AL_2 (List.mem_of_getElem? (i := 67) rfl)) rfl, ws_X0_copyFrom, wv_X0_copyFrom, wi_X0, wk_X0_copyFrom⟩, by decide, by decide, by decide +kernel⟩
theorem wk_X3_temperatureWith : Cond.code yX3_temperatureWith cX3_temperatureWith 2 (some .int) ∈ AL := AL_mem (AL_2 (List.mem_of_getElem? (i := 8) rfl)) rfl
theorem ws_X3_temperatureWith : Cond.instanceMethod yX3_temperatureWith ∈ AL := AL_mem (AL_2 (List.mem_of_getElem? (i := 6) rfl)) rfl
theorem wv_X3_temperatureWith : Cond.selects yX3_temperatureWith.cls yX3_temperatureWith yX3_temperatureWith ∈ AL := AL_mem (AL_2 (List.mem_of_getElem? (i := 7) rfl)) rfl
theorem lk_X3_84 : xLV RX3 84 yX3_temperatureWith cX3_temperatureWith 2 (some .int) 1 := ⟨⟨AL_mem (AL_2 (List.mem_of_getElem? (i := 5) rfl)) rfl, ws_X3_temperatureWith, wv_X3_temperatureWith, wi_X3, wk_X3_temperatureWith⟩, by decide, by decide, by decide +kernel⟩
theorem wk_J9_floorDiv_7cf53 : Cond.code yJ9_floorDiv_7cf53 cJ9_floorDiv_7cf53 3 (some .int) ∈ AL := AL_mem (AL_2 (List.mem_of_getElem? (i := 11) rfl)) rfl
theorem ws_J9_floorDiv_7cf53 : Cond.static yJ9_floorDiv_7cf53 ∈ AL := AL_mem (AL_2 (List.mem_of_getElem? (i := 10) rfl)) rfl
theorem lk_X3_88 : xLS RX3 88 yJ9_floorDiv_7cf53 cJ9_floorDiv_7cf53 3 (some .int) 2 := ⟨⟨AL_mem (AL_2 (List.mem_of_getElem? (i := 9) rfl)) rfl, ws_J9_floorDiv_7cf53, wi_J9, wk_J9_floorDiv_7cf53⟩, by decide, by decide, by decide +kernel⟩
theorem lk_X4_18 : Cond.methodLink RX4 18 arraycopyName ∈ AL ∧ Cond.native arraycopyName ∈ AL ∧ Cond.static arraycopyName ∈ AL ∧ Cond.initialized "java/lang/System" ∈ AL := ⟨AL_mem (AL_2 (List.mem_of_getElem? (i := 62) rfl)) rfl, AL_mem (AL_2 (List.mem_of_getElem? (i := 57) rfl)) rfl, AL_mem (AL_2 (List.mem_of_getElem? (i := 56) rfl)) rfl, AL_mem (AL_1 (List.mem_of_getElem? (i := 9) rfl)) rfl⟩
theorem wk_X4_temperatureBefore : Cond.code yX4_temperatureBefore cX4_temperatureBefore 6 (some .int) ∈ AL := AL_mem (AL_2 (List.mem_of_getElem? (i := 87) rfl)) rfl
theorem ws_X4_temperatureBefore : Cond.instanceMethod yX4_temperatureBefore ∈ AL := AL_mem (AL_2 (List.mem_of_getElem? (i := 86) rfl)) rfl
theorem wv_X4_temperatureBefore : Cond.selects yX4_temperatureBefore.cls yX4_temperatureBefore yX4_temperatureBefore ∈ AL := AL_memP (List.mem_of_getElem? (i := 1) rfl) rfl
theorem lk_X4_28 : xLV RX4 28 yX4_temperatureBefore cX4_temperatureBefore 6 (some .int) 2 := ⟨⟨AL_mem (AL_2 (List.mem_of_getElem? (i := 84) rfl)) rfl, ws_X4_temperatureBefore, wv_X4_temperatureBefore, wi_X4, wk_X4_temperatureBefore⟩, by decide, by decide, by decide +kernel⟩
theorem lk_X6_103 : xLV RX6 103 yX3_temperatureWith cX3_temperatureWith 2 (some .int) 1 := ⟨⟨AL_mem (AL_3 (List.mem_of_getElem? (i := 11) rfl)) rfl, ws_X3_temperatureWith, wv_X3_temperatureWith, wi_X3, wk_X3_temperatureWith⟩, by decide, by decide, by decide +kernel⟩
theorem wk_X3_bringIn : Cond.code yX3_bringIn cX3_bringIn 2 none ∈ AL := AL_mem (AL_3 (List.mem_of_getElem? (i := 17) rfl)) rfl
theorem ws_X3_bringIn : Cond.instanceMethod yX3_bringIn ∈ AL := AL_mem (AL_3 (List.mem_of_getElem? (i := 15) rfl)) rfl
theorem wv_X3_bringIn : Cond.selects yX3_bringIn.cls yX3_bringIn yX3_bringIn ∈ AL := AL_mem (AL_3 (List.mem_of_getElem? (i := 16) rfl)) rfl
theorem lk_X6_108 : xLV RX6 108 yX3_bringIn cX3_bringIn 2 none 1 := ⟨⟨AL_mem (AL_3 (List.mem_of_getElem? (i := 14) rfl)) rfl, ws_X3_bringIn, wv_X3_bringIn, wi_X3, wk_X3_bringIn⟩, by decide, by decide, by decide +kernel⟩
theorem wk_X3_renewContact : Cond.code yX3_renewContact cX3_renewContact 1 none ∈ AL := AL_mem (AL_3 (List.mem_of_getElem? (i := 25) rfl)) rfl
theorem ws_X3_renewContact : Cond.instanceMethod yX3_renewContact ∈ AL := AL_mem (AL_3 (List.mem_of_getElem? (i := 23) rfl)) rfl
theorem wv_X3_renewContact : Cond.selects yX3_renewContact.cls yX3_renewContact yX3_renewContact ∈ AL := AL_mem (AL_3 (List.mem_of_getElem? (i := 24) rfl)) rfl
theorem lk_X6_115 : xLV RX6 115 yX3_renewContact cX3_renewContact 1 none 0 := ⟨⟨AL_mem (AL_3 (List.mem_of_getElem? (i := 22) rfl)) rfl, ws_X3_renewContact, wv_X3_renewContact, wi_X3, wk_X3_renewContact⟩, by decide, by decide, by decide +kernel⟩
theorem lk_X6_118 : xLV RX6 118 yX3_temperature cX3_temperature 1 (some .int) 0 := ⟨⟨AL_mem (AL_3 (List.mem_of_getElem? (i := 30) rfl)) rfl, ws_X3_temperature, wv_X3_temperature, wi_X3, wk_X3_temperature⟩, by decide, by decide, by decide +kernel⟩
theorem wk_X3_property : Cond.code yX3_property cX3_property 2 (some .int) ∈ AL := AL_mem (AL_2 (List.mem_of_getElem? (i := 0) rfl)) rfl
theorem ws_X3_property : Cond.instanceMethod yX3_property ∈ AL := AL_mem (AL_1 (List.mem_of_getElem? (i := 238) rfl)) rfl
theorem wv_X3_property : Cond.selects yX3_property.cls yX3_property yX3_property ∈ AL := AL_mem (AL_1 (List.mem_of_getElem? (i := 239) rfl)) rfl
theorem lk_X6_126 : xLV RX6 126 yX3_property cX3_property 2 (some .int) 1 := ⟨⟨AL_mem (AL_1 (List.mem_of_getElem? (i := 237) rfl)) rfl, ws_X3_property, wv_X3_property, wi_X3, wk_X3_property⟩, by decide, by decide, by decide +kernel⟩
theorem wk_X0_sum : Cond.code yX0_sum cX0_sum 2 (some .int) ∈ AL := AL_mem (AL_2 (List.mem_of_getElem? (i := 20) rfl)) rfl
theorem ws_X0_sum : Cond.instanceMethod yX0_sum ∈ AL := AL_mem (AL_2 (List.mem_of_getElem? (i := 18) rfl)) rfl
theorem wv_X0_sum : Cond.selects yX0_sum.cls yX0_sum yX0_sum ∈ AL := AL_mem (AL_2 (List.mem_of_getElem? (i := 19) rfl)) rfl
theorem lk_X6_133 : xLV RX6 133 yX0_sum cX0_sum 2 (some .int) 1 := ⟨⟨AL_mem (AL_2 (List.mem_of_getElem? (i := 17) rfl)) rfl, ws_X0_sum, wv_X0_sum, wi_X0, wk_X0_sum⟩, by decide, by decide, by decide +kernel⟩
theorem wk_X1_suspectRooms : Cond.code yX1_suspectRooms cX1_suspectRooms 4 (some .int) ∈ AL := AL_mem (AL_2 (List.mem_of_getElem? (i := 36) rfl)) rfl
theorem ws_X1_suspectRooms : Cond.instanceMethod yX1_suspectRooms ∈ AL := AL_mem (AL_2 (List.mem_of_getElem? (i := 34) rfl)) rfl
theorem wv_X1_suspectRooms : Cond.selects yX1_suspectRooms.cls yX1_suspectRooms yX1_suspectRooms ∈ AL := AL_mem (AL_2 (List.mem_of_getElem? (i := 35) rfl)) rfl
theorem lk_X6_147 : xLV RX6 147 yX1_suspectRooms cX1_suspectRooms 4 (some .int) 0 := ⟨⟨AL_mem (AL_2 (List.mem_of_getElem? (i := 33) rfl)) rfl, ws_X1_suspectRooms, wv_X1_suspectRooms, wi_X1, wk_X1_suspectRooms⟩, by decide, by decide, by decide +kernel⟩
theorem wk_X1_allFines : Cond.code yX1_allFines cX1_allFines 4 (some .int) ∈ AL := AL_mem (AL_2 (List.mem_of_getElem? (i := 46) rfl)) rfl
theorem ws_X1_allFines : Cond.instanceMethod yX1_allFines ∈ AL := AL_mem (AL_2 (List.mem_of_getElem? (i := 44) rfl)) rfl
theorem wv_X1_allFines : Cond.selects yX1_allFines.cls yX1_allFines yX1_allFines ∈ AL := AL_mem (AL_2 (List.mem_of_getElem? (i := 45) rfl)) rfl
theorem lk_X6_150 : xLV RX6 150 yX1_allFines cX1_allFines 4 (some .int) 0 := ⟨⟨AL_mem (AL_2 (List.mem_of_getElem? (i := 43) rfl)) rfl, ws_X1_allFines, wv_X1_allFines, wi_X1, wk_X1_allFines⟩, by decide, by decide, by decide +kernel⟩
theorem wk_X1_passMinutes : Cond.code yX1_passMinutes cX1_passMinutes 4 (some .int) ∈ AL := AL_mem (AL_2 (List.mem_of_getElem? (i := 136) rfl)) rfl
theorem ws_X1_passMinutes : Cond.instanceMethod yX1_passMinutes ∈ AL := AL_mem (AL_2 (List.mem_of_getElem? (i := 134) rfl)) rfl
theorem wv_X1_passMinutes : Cond.selects yX1_passMinutes.cls yX1_passMinutes yX1_passMinutes ∈ AL := AL_mem (AL_2 (List.mem_of_getElem? (i := 135) rfl)) rfl
theorem lk_X6_172 : xLV RX6 172 yX1_passMinutes cX1_passMinutes 4 (some .int) 1 := ⟨⟨AL_mem (AL_2 (List.mem_of_getElem? (i := 133) rfl)) rfl, ws_X1_passMinutes, wv_X1_passMinutes, wi_X1, wk_X1_passMinutes⟩, by decide, by decide, by decide +kernel⟩
theorem lk_X6_175 : xLV RX6 175 yX1_copyFrom cX1_copyFrom 5 none 1 := ⟨⟨AL_mem (AL_2 (List.mem_of_getElem? (i := 51) rfl)) rfl, ws_X1_copyFrom, wv_X1_copyFrom, wi_X1, wk_X1_copyFrom⟩, by decide, by decide, by decide +kernel⟩
theorem lk_X6_177 : xLV RX6 177 yX1_isSuspect cX1_isSuspect 2 (some .boolean) 1 := ⟨⟨AL_mem (AL_2 (List.mem_of_getElem? (i := 71) rfl)) rfl, ws_X1_isSuspect, wv_X1_isSuspect, wi_X1, wk_X1_isSuspect⟩, by decide, by decide, by decide +kernel⟩
theorem lk_X6_181 : xLV RX6 181 yX1_passMinute cX1_passMinute 4 (some .int) 0 := ⟨⟨AL_mem (AL_2 (List.mem_of_getElem? (i := 72) rfl)) rfl, ws_X1_passMinute, wv_X1_passMinute, wi_X1, wk_X1_passMinute⟩, by decide, by decide, by decide +kernel⟩
theorem wk_X1_heatFromHeaters : Cond.code yX1_heatFromHeaters cX1_heatFromHeaters 4 (some .int) ∈ AL := AL_mem (AL_2 (List.mem_of_getElem? (i := 141) rfl)) rfl
theorem ws_X1_heatFromHeaters : Cond.instanceMethod yX1_heatFromHeaters ∈ AL := AL_mem (AL_2 (List.mem_of_getElem? (i := 139) rfl)) rfl
theorem wv_X1_heatFromHeaters : Cond.selects yX1_heatFromHeaters.cls yX1_heatFromHeaters yX1_heatFromHeaters ∈ AL := AL_mem (AL_2 (List.mem_of_getElem? (i := 140) rfl)) rfl
theorem lk_X6_185 : xLV RX6 185 yX1_heatFromHeaters cX1_heatFromHeaters 4 (some .int) 0 := ⟨⟨AL_mem (AL_2 (List.mem_of_getElem? (i := 138) rfl)) rfl, ws_X1_heatFromHeaters, wv_X1_heatFromHeaters, wi_X1, wk_X1_heatFromHeaters⟩, by decide, by decide, by decide +kernel⟩
theorem wk_X2_restore : Cond.code yX2_restore cX2_restore 4 none ∈ AL := AL_mem (AL_2 (List.mem_of_getElem? (i := 150) rfl)) rfl
theorem ws_X2_restore : Cond.instanceMethod yX2_restore ∈ AL := AL_mem (AL_2 (List.mem_of_getElem? (i := 148) rfl)) rfl
theorem wv_X2_restore : Cond.selects yX2_restore.cls yX2_restore yX2_restore ∈ AL := AL_mem (AL_2 (List.mem_of_getElem? (i := 149) rfl)) rfl
theorem lk_X6_199 : xLV RX6 199 yX2_restore cX2_restore 4 none 1 := ⟨⟨AL_mem (AL_2 (List.mem_of_getElem? (i := 147) rfl)) rfl, ws_X2_restore, wv_X2_restore, wi_X2, wk_X2_restore⟩, by decide, by decide, by decide +kernel⟩
theorem wk_X6_within : Cond.code yX6_within cX6_within 3 (some .boolean) ∈ AL := AL_mem (AL_2 (List.mem_of_getElem? (i := 28) rfl)) rfl
theorem ws_X6_within : Cond.static yX6_within ∈ AL := AL_mem (AL_2 (List.mem_of_getElem? (i := 27) rfl)) rfl
theorem lk_X6_40 : xLS RX6 40 yX6_within cX6_within 3 (some .boolean) 3 := ⟨⟨AL_mem (AL_2 (List.mem_of_getElem? (i := 26) rfl)) rfl, ws_X6_within, wi_X6, wk_X6_within⟩, by decide, by decide, by decide +kernel⟩
theorem wk_X2_save : Cond.code yX2_save cX2_save 3 none ∈ AL := AL_mem (AL_2 (List.mem_of_getElem? (i := 191) rfl)) rfl
theorem ws_X2_save : Cond.instanceMethod yX2_save ∈ AL := AL_mem (AL_2 (List.mem_of_getElem? (i := 189) rfl)) rfl
theorem wv_X2_save : Cond.selects yX2_save.cls yX2_save yX2_save ∈ AL := AL_mem (AL_2 (List.mem_of_getElem? (i := 190) rfl)) rfl
theorem lk_X6_50 : xLV RX6 50 yX2_save cX2_save 3 none 1 := ⟨⟨AL_mem (AL_2 (List.mem_of_getElem? (i := 188) rfl)) rfl, ws_X2_save, wv_X2_save, wi_X2, wk_X2_save⟩, by decide, by decide, by decide +kernel⟩
theorem wk_X1_beginRoom : Cond.code yX1_beginRoom cX1_beginRoom 7 (some .int) ∈ AL := AL_mem (AL_2 (List.mem_of_getElem? (i := 198) rfl)) rfl
theorem ws_X1_beginRoom : Cond.instanceMethod yX1_beginRoom ∈ AL := AL_mem (AL_2 (List.mem_of_getElem? (i := 196) rfl)) rfl
theorem wv_X1_beginRoom : Cond.selects yX1_beginRoom.cls yX1_beginRoom yX1_beginRoom ∈ AL := AL_mem (AL_2 (List.mem_of_getElem? (i := 197) rfl)) rfl
theorem lk_X6_54 : xLV RX6 54 yX1_beginRoom cX1_beginRoom 7 (some .int) 4 := ⟨⟨AL_mem (AL_2 (List.mem_of_getElem? (i := 195) rfl)) rfl, ws_X1_beginRoom, wv_X1_beginRoom, wi_X1, wk_X1_beginRoom⟩, by decide, by decide, by decide +kernel⟩
theorem wk_X1_hasPair : Cond.code yX1_hasPair cX1_hasPair 3 (some .boolean) ∈ AL := AL_mem (AL_2 (List.mem_of_getElem? (i := 174) rfl)) rfl
theorem ws_X1_hasPair : Cond.instanceMethod yX1_hasPair ∈ AL := AL_mem (AL_2 (List.mem_of_getElem? (i := 172) rfl)) rfl
theorem wv_X1_hasPair : Cond.selects yX1_hasPair.cls yX1_hasPair yX1_hasPair ∈ AL := AL_mem (AL_2 (List.mem_of_getElem? (i := 173) rfl)) rfl
theorem lk_X6_58 : xLV RX6 58 yX1_hasPair cX1_hasPair 3 (some .boolean) 2 := ⟨⟨AL_mem (AL_2 (List.mem_of_getElem? (i := 171) rfl)) rfl, ws_X1_hasPair, wv_X1_hasPair, wi_X1, wk_X1_hasPair⟩, by decide, by decide, by decide +kernel⟩
theorem lk_X6_62 : xLV RX6 62 yX1_linkOf cX1_linkOf 4 (some .int) 2 := ⟨⟨AL_mem (AL_2 (List.mem_of_getElem? (i := 175) rfl)) rfl, ws_X1_linkOf, wv_X1_linkOf, wi_X1, wk_X1_linkOf⟩, by decide, by decide, by decide +kernel⟩
theorem wk_X1_canCarry : Cond.code yX1_canCarry cX1_canCarry 6 (some .boolean) ∈ AL := AL_mem (AL_2 (List.mem_of_getElem? (i := 215) rfl)) rfl
theorem ws_X1_canCarry : Cond.instanceMethod yX1_canCarry ∈ AL := AL_mem (AL_2 (List.mem_of_getElem? (i := 213) rfl)) rfl
theorem wv_X1_canCarry : Cond.selects yX1_canCarry.cls yX1_canCarry yX1_canCarry ∈ AL := AL_mem (AL_2 (List.mem_of_getElem? (i := 214) rfl)) rfl
theorem lk_X6_66 : xLV RX6 66 yX1_canCarry cX1_canCarry 6 (some .boolean) 2 := ⟨⟨AL_mem (AL_2 (List.mem_of_getElem? (i := 212) rfl)) rfl, ws_X1_canCarry, wv_X1_canCarry, wi_X1, wk_X1_canCarry⟩, by decide, by decide, by decide +kernel⟩
theorem wk_X1_putLink : Cond.code yX1_putLink cX1_putLink 4 none ∈ AL := AL_mem (AL_2 (List.mem_of_getElem? (i := 219) rfl)) rfl
theorem ws_X1_putLink : Cond.instanceMethod yX1_putLink ∈ AL := AL_mem (AL_2 (List.mem_of_getElem? (i := 217) rfl)) rfl
theorem wv_X1_putLink : Cond.selects yX1_putLink.cls yX1_putLink yX1_putLink ∈ AL := AL_mem (AL_2 (List.mem_of_getElem? (i := 218) rfl)) rfl
theorem lk_X6_70 : xLV RX6 70 yX1_putLink cX1_putLink 4 none 3 := ⟨⟨AL_mem (AL_2 (List.mem_of_getElem? (i := 216) rfl)) rfl, ws_X1_putLink, wv_X1_putLink, wi_X1, wk_X1_putLink⟩, by decide, by decide, by decide +kernel⟩
theorem lk_X6_74 : xLV RX6 74 yX1_roomAt cX1_roomAt 2 (some (.object "ThermostatColony$Room")) 1 := ⟨⟨AL_mem (AL_1 (List.mem_of_getElem? (i := 232) rfl)) rfl, ws_X1_roomAt, wv_X1_roomAt, wi_X1, wk_X1_roomAt⟩, by decide, by decide, by decide +kernel⟩
theorem wk_X6_isNumberInRange : Cond.code yX6_isNumberInRange cX6_isNumberInRange 2 (some .boolean) ∈ AL := AL_mem (AL_2 (List.mem_of_getElem? (i := 235) rfl)) rfl
theorem ws_X6_isNumberInRange : Cond.static yX6_isNumberInRange ∈ AL := AL_mem (AL_2 (List.mem_of_getElem? (i := 234) rfl)) rfl
theorem lk_X6_87 : xLS RX6 87 yX6_isNumberInRange cX6_isNumberInRange 2 (some .boolean) 2 := ⟨⟨AL_mem (AL_2 (List.mem_of_getElem? (i := 233) rfl)) rfl, ws_X6_isNumberInRange, wi_X6, wk_X6_isNumberInRange⟩, by decide, by decide, by decide +kernel⟩
theorem lk_X6_90 : xLV RX6 90 yX1_number cX1_number 2 (some .int) 1 := ⟨⟨AL_mem (AL_2 (List.mem_of_getElem? (i := 29) rfl)) rfl, ws_X1_number, wv_X1_number, wi_X1, wk_X1_number⟩, by decide, by decide, by decide +kernel⟩
theorem wk_X1_putNumber : Cond.code yX1_putNumber cX1_putNumber 3 none ∈ AL := AL_mem (AL_3 (List.mem_of_getElem? (i := 3) rfl)) rfl
theorem ws_X1_putNumber : Cond.instanceMethod yX1_putNumber ∈ AL := AL_mem (AL_3 (List.mem_of_getElem? (i := 1) rfl)) rfl
theorem wv_X1_putNumber : Cond.selects yX1_putNumber.cls yX1_putNumber yX1_putNumber ∈ AL := AL_mem (AL_3 (List.mem_of_getElem? (i := 2) rfl)) rfl
theorem lk_X6_94 : xLV RX6 94 yX1_putNumber cX1_putNumber 3 none 2 := ⟨⟨AL_mem (AL_3 (List.mem_of_getElem? (i := 0) rfl)) rfl, ws_X1_putNumber, wv_X1_putNumber, wi_X1, wk_X1_putNumber⟩, by decide, by decide, by decide +kernel⟩
theorem wc_L_10 : Jvm.Cond.constantLong RL 10 (31) ∈ AL := AL_mem (AL_2 (List.mem_of_getElem? (i := 163) rfl)) rfl
theorem wc_L_18 : Jvm.Cond.constantLong RL 18 (37) ∈ AL := AL_mem (AL_2 (List.mem_of_getElem? (i := 164) rfl)) rfl
theorem wc_L_24 : Jvm.Cond.constantLong RL 24 (41) ∈ AL := AL_mem (AL_2 (List.mem_of_getElem? (i := 165) rfl)) rfl
theorem wc_L_29 : Jvm.Cond.constantLong RL 29 (43) ∈ AL := AL_mem (AL_2 (List.mem_of_getElem? (i := 166) rfl)) rfl
theorem wc_L_53 : Jvm.Cond.constant RL 53 (40001) ∈ AL := AL_mem (AL_3 (List.mem_of_getElem? (i := 4) rfl)) rfl
theorem wc_L_7 : Jvm.Cond.constant RL 7 (2147483647) ∈ AL := AL_mem (AL_2 (List.mem_of_getElem? (i := 182) rfl)) rfl
theorem wc_L_8 : Jvm.Cond.constantLong RL 8 (3) ∈ AL := AL_mem (AL_2 (List.mem_of_getElem? (i := 162) rfl)) rfl
theorem wc_X0_27 : Jvm.Cond.constant RX0 27 (-1000001) ∈ AL := AL_mem (AL_2 (List.mem_of_getElem? (i := 21) rfl)) rfl
theorem wc_X3_106 : Jvm.Cond.constant RX3 106 (-1000001) ∈ AL := AL_mem (AL_2 (List.mem_of_getElem? (i := 12) rfl)) rfl
theorem wc_X3_63 : Jvm.Cond.constant RX3 63 (-1000009) ∈ AL := AL_mem (AL_2 (List.mem_of_getElem? (i := 203) rfl)) rfl
theorem wc_X6_106 : Jvm.Cond.constant RX6 106 (-200000) ∈ AL := AL_mem (AL_3 (List.mem_of_getElem? (i := 12) rfl)) rfl
theorem wc_X6_107 : Jvm.Cond.constant RX6 107 (200000) ∈ AL := AL_mem (AL_3 (List.mem_of_getElem? (i := 13) rfl)) rfl
theorem wc_X6_184 : Jvm.Cond.constant RX6 184 (-1000009) ∈ AL := AL_mem (AL_2 (List.mem_of_getElem? (i := 128) rfl)) rfl
theorem wc_X6_44 : Jvm.Cond.constant RX6 44 (-1000001) ∈ AL := AL_mem (AL_1 (List.mem_of_getElem? (i := 236) rfl)) rfl
theorem wc_X6_49 : Jvm.Cond.constant RX6 49 (-1000003) ∈ AL := AL_mem (AL_2 (List.mem_of_getElem? (i := 187) rfl)) rfl
theorem wc_X6_69 : Jvm.Cond.constant RX6 69 (-1000002) ∈ AL := AL_mem (AL_2 (List.mem_of_getElem? (i := 146) rfl)) rfl
theorem wc_X6_78 : Jvm.Cond.constant RX6 78 (35000) ∈ AL := AL_mem (AL_2 (List.mem_of_getElem? (i := 228) rfl)) rfl
theorem wc_X6_98 : Jvm.Cond.constant RX6 98 (-50000) ∈ AL := AL_mem (AL_3 (List.mem_of_getElem? (i := 9) rfl)) rfl
theorem wc_X6_99 : Jvm.Cond.constant RX6 99 (50000) ∈ AL := AL_mem (AL_3 (List.mem_of_getElem? (i := 10) rfl)) rfl
theorem wf_X0_15 : Cond.fieldLink RX0 15 "ThermostatColony$Books" "fromHeater" "I" ∈ AL := AL_mem (AL_1 (List.mem_of_getElem? (i := 58) rfl)) rfl
theorem wf_X0_18 : Cond.fieldLink RX0 18 "ThermostatColony$Books" "toOutside" "I" ∈ AL := AL_mem (AL_1 (List.mem_of_getElem? (i := 61) rfl)) rfl
theorem wf_X0_21 : Cond.fieldLink RX0 21 "ThermostatColony$Books" "toOthers" "I" ∈ AL := AL_mem (AL_1 (List.mem_of_getElem? (i := 63) rfl)) rfl
theorem wf_X0_24 : Cond.fieldLink RX0 24 "ThermostatColony$Books" "byWarm" "I" ∈ AL := AL_mem (AL_1 (List.mem_of_getElem? (i := 65) rfl)) rfl
theorem wf_X0_9 : Cond.fieldLink RX0 9 "ThermostatColony$Books" "firstHeat" "I" ∈ AL := AL_mem (AL_1 (List.mem_of_getElem? (i := 57) rfl)) rfl
theorem wf_X1_123 : Cond.fieldLink RX1 123 "ThermostatColony$Room" "minuteTemperature" "I" ∈ AL := AL_mem (AL_1 (List.mem_of_getElem? (i := 115) rfl)) rfl
theorem wf_X1_129 : Cond.fieldLink RX1 129 "ThermostatColony$Room" "closed" "Z" ∈ AL := AL_mem (AL_1 (List.mem_of_getElem? (i := 96) rfl)) rfl
theorem wf_X1_136 : Cond.fieldLink RX1 136 "ThermostatColony$Room" "tripped" "Z" ∈ AL := AL_mem (AL_1 (List.mem_of_getElem? (i := 101) rfl)) rfl
theorem wf_X1_139 : Cond.fieldLink RX1 139 "ThermostatColony$Room" "blade" "I" ∈ AL := AL_mem (AL_1 (List.mem_of_getElem? (i := 94) rfl)) rfl
theorem wf_X1_155 : Cond.fieldLink RX1 155 "ThermostatColony$Room" "closings" "I" ∈ AL := AL_mem (AL_1 (List.mem_of_getElem? (i := 107) rfl)) rfl
theorem wf_X1_158 : Cond.fieldLink RX1 158 "ThermostatColony$Room" "latestClosing" "I" ∈ AL := AL_mem (AL_1 (List.mem_of_getElem? (i := 109) rfl)) rfl
theorem wf_X1_161 : Cond.fieldLink RX1 161 "ThermostatColony$Room" "wear" "I" ∈ AL := AL_mem (AL_1 (List.mem_of_getElem? (i := 104) rfl)) rfl
theorem wf_X1_164 : Cond.fieldLink RX1 164 "ThermostatColony$Room" "power" "I" ∈ AL := AL_mem (AL_1 (List.mem_of_getElem? (i := 84) rfl)) rfl
theorem wf_X1_167 : Cond.fieldLink RX1 167 "ThermostatColony$Room" "welded" "Z" ∈ AL := AL_mem (AL_1 (List.mem_of_getElem? (i := 98) rfl)) rfl
theorem wf_X1_17 : Cond.fieldLink RX1 17 "ThermostatColony$Colony" "rooms" "[LThermostatColony$Room;" ∈ AL := AL_mem (AL_1 (List.mem_of_getElem? (i := 154) rfl)) rfl
theorem wf_X1_21 : Cond.fieldLink RX1 21 "ThermostatColony$Colony" "links" "[I" ∈ AL := AL_mem (AL_1 (List.mem_of_getElem? (i := 155) rfl)) rfl
theorem wf_X1_27 : Cond.fieldLink RX1 27 "ThermostatColony$Colony" "weather" "LThermostatColony$Weather;" ∈ AL := AL_mem (AL_1 (List.mem_of_getElem? (i := 156) rfl)) rfl
theorem wf_X1_45 : Cond.fieldLink RX1 45 "ThermostatColony$Colony" "roomCount" "I" ∈ AL := AL_mem (AL_1 (List.mem_of_getElem? (i := 158) rfl)) rfl
theorem wf_X1_49 : Cond.fieldLink RX1 49 "ThermostatColony$Colony" "time" "I" ∈ AL := AL_mem (AL_1 (List.mem_of_getElem? (i := 160) rfl)) rfl
theorem wf_X1_71 : Cond.fieldLink RX1 71 "ThermostatColony$Room" "leak" "I" ∈ AL := AL_mem (AL_1 (List.mem_of_getElem? (i := 86) rfl)) rfl
theorem wf_X1_77 : Cond.fieldLink RX1 77 "ThermostatColony$Room" "capacity" "I" ∈ AL := AL_mem (AL_1 (List.mem_of_getElem? (i := 82) rfl)) rfl
theorem wf_X1_80 : Cond.fieldLink RX1 80 "ThermostatColony$Room" "suspectMinutes" "I" ∈ AL := AL_mem (AL_1 (List.mem_of_getElem? (i := 113) rfl)) rfl
theorem wf_X1_9 : Cond.fieldLink RX1 9 "ThermostatColony$Colony" "numbers" "[I" ∈ AL := AL_mem (AL_1 (List.mem_of_getElem? (i := 153) rfl)) rfl
theorem wf_X1_91 : Cond.fieldLink RX1 91 "ThermostatColony$Room" "fines" "I" ∈ AL := AL_mem (AL_1 (List.mem_of_getElem? (i := 111) rfl)) rfl
theorem wf_X1_94 : Cond.fieldLink RX1 94 "ThermostatColony$Room" "books" "LThermostatColony$Books;" ∈ AL := AL_mem (AL_1 (List.mem_of_getElem? (i := 80) rfl)) rfl
theorem wf_X1_98 : Cond.fieldLink RX1 98 "ThermostatColony$Books" "fromHeater" "I" ∈ AL := AL_mem (AL_1 (List.mem_of_getElem? (i := 60) rfl)) rfl
theorem wf_X2_11 : Cond.fieldLink RX2 11 "ThermostatColony$History" "states" "[LThermostatColony$Colony;" ∈ AL := AL_mem (AL_1 (List.mem_of_getElem? (i := 184) rfl)) rfl
theorem wf_X2_18 : Cond.fieldLink RX2 18 "ThermostatColony$History" "next" "I" ∈ AL := AL_mem (AL_1 (List.mem_of_getElem? (i := 185) rfl)) rfl
theorem wf_X2_30 : Cond.fieldLink RX2 30 "ThermostatColony$History" "size" "I" ∈ AL := AL_mem (AL_1 (List.mem_of_getElem? (i := 186) rfl)) rfl
theorem wf_X3_100 : Cond.fieldLink RX3 100 "ThermostatColony$Books" "toOutside" "I" ∈ AL := AL_mem (AL_1 (List.mem_of_getElem? (i := 62) rfl)) rfl
theorem wf_X3_103 : Cond.fieldLink RX3 103 "ThermostatColony$Books" "toOthers" "I" ∈ AL := AL_mem (AL_1 (List.mem_of_getElem? (i := 64) rfl)) rfl
theorem wf_X3_12 : Cond.fieldLink RX3 12 "ThermostatColony$Room" "books" "LThermostatColony$Books;" ∈ AL := AL_mem (AL_1 (List.mem_of_getElem? (i := 78) rfl)) rfl
theorem wf_X3_18 : Cond.fieldLink RX3 18 "ThermostatColony$Room" "capacity" "I" ∈ AL := AL_mem (AL_1 (List.mem_of_getElem? (i := 81) rfl)) rfl
theorem wf_X3_22 : Cond.fieldLink RX3 22 "ThermostatColony$Room" "power" "I" ∈ AL := AL_mem (AL_1 (List.mem_of_getElem? (i := 83) rfl)) rfl
theorem wf_X3_25 : Cond.fieldLink RX3 25 "ThermostatColony$Room" "leak" "I" ∈ AL := AL_mem (AL_1 (List.mem_of_getElem? (i := 85) rfl)) rfl
theorem wf_X3_28 : Cond.fieldLink RX3 28 "ThermostatColony$Room" "heat" "I" ∈ AL := AL_mem (AL_1 (List.mem_of_getElem? (i := 87) rfl)) rfl
theorem wf_X3_31 : Cond.fieldLink RX3 31 "ThermostatColony$Room" "point" "I" ∈ AL := AL_mem (AL_1 (List.mem_of_getElem? (i := 89) rfl)) rfl
theorem wf_X3_34 : Cond.fieldLink RX3 34 "ThermostatColony$Room" "band" "I" ∈ AL := AL_mem (AL_1 (List.mem_of_getElem? (i := 91) rfl)) rfl
theorem wf_X3_41 : Cond.fieldLink RX3 41 "ThermostatColony$Room" "blade" "I" ∈ AL := AL_mem (AL_1 (List.mem_of_getElem? (i := 93) rfl)) rfl
theorem wf_X3_44 : Cond.fieldLink RX3 44 "ThermostatColony$Room" "closed" "Z" ∈ AL := AL_mem (AL_1 (List.mem_of_getElem? (i := 95) rfl)) rfl
theorem wf_X3_48 : Cond.fieldLink RX3 48 "ThermostatColony$Room" "welded" "Z" ∈ AL := AL_mem (AL_1 (List.mem_of_getElem? (i := 97) rfl)) rfl
theorem wf_X3_51 : Cond.fieldLink RX3 51 "ThermostatColony$Room" "tripped" "Z" ∈ AL := AL_mem (AL_1 (List.mem_of_getElem? (i := 99) rfl)) rfl
theorem wf_X3_54 : Cond.fieldLink RX3 54 "ThermostatColony$Room" "wear" "I" ∈ AL := AL_mem (AL_1 (List.mem_of_getElem? (i := 102) rfl)) rfl
theorem wf_X3_57 : Cond.fieldLink RX3 57 "ThermostatColony$Room" "attempts" "I" ∈ AL := AL_mem (AL_1 (List.mem_of_getElem? (i := 105) rfl)) rfl
theorem wf_X3_60 : Cond.fieldLink RX3 60 "ThermostatColony$Room" "closings" "I" ∈ AL := AL_mem (AL_1 (List.mem_of_getElem? (i := 106) rfl)) rfl
theorem wf_X3_64 : Cond.fieldLink RX3 64 "ThermostatColony$Room" "latestClosing" "I" ∈ AL := AL_mem (AL_1 (List.mem_of_getElem? (i := 108) rfl)) rfl
theorem wf_X3_67 : Cond.fieldLink RX3 67 "ThermostatColony$Room" "fines" "I" ∈ AL := AL_mem (AL_1 (List.mem_of_getElem? (i := 110) rfl)) rfl
theorem wf_X3_70 : Cond.fieldLink RX3 70 "ThermostatColony$Room" "suspectMinutes" "I" ∈ AL := AL_mem (AL_1 (List.mem_of_getElem? (i := 112) rfl)) rfl
theorem wf_X3_73 : Cond.fieldLink RX3 73 "ThermostatColony$Room" "minuteTemperature" "I" ∈ AL := AL_mem (AL_1 (List.mem_of_getElem? (i := 114) rfl)) rfl
theorem wf_X3_94 : Cond.fieldLink RX3 94 "ThermostatColony$Books" "byWarm" "I" ∈ AL := AL_mem (AL_1 (List.mem_of_getElem? (i := 66) rfl)) rfl
theorem wf_X3_97 : Cond.fieldLink RX3 97 "ThermostatColony$Books" "fromHeater" "I" ∈ AL := AL_mem (AL_1 (List.mem_of_getElem? (i := 59) rfl)) rfl
theorem wf_X4_15 : Cond.fieldLink RX4 15 "ThermostatColony$Weather" "degrees" "[I" ∈ AL := AL_mem (AL_1 (List.mem_of_getElem? (i := 33) rfl)) rfl
theorem wf_X4_24 : Cond.fieldLink RX4 24 "ThermostatColony$Weather" "size" "I" ∈ AL := AL_mem (AL_1 (List.mem_of_getElem? (i := 34) rfl)) rfl
theorem wf_X4_9 : Cond.fieldLink RX4 9 "ThermostatColony$Weather" "minutes" "[I" ∈ AL := AL_mem (AL_1 (List.mem_of_getElem? (i := 32) rfl)) rfl
theorem wf_X6_10 : Cond.fieldLink RX6 10 "ThermostatColony" "now" "LThermostatColony$Colony;" ∈ AL := AL_mem (AL_1 (List.mem_of_getElem? (i := 212) rfl)) rfl
theorem wf_X6_100 : Cond.fieldLink RX6 100 "ThermostatColony$Room" "heat" "I" ∈ AL := AL_mem (AL_1 (List.mem_of_getElem? (i := 88) rfl)) rfl
theorem wf_X6_112 : Cond.fieldLink RX6 112 "ThermostatColony$Room" "wear" "I" ∈ AL := AL_mem (AL_1 (List.mem_of_getElem? (i := 103) rfl)) rfl
theorem wf_X6_122 : Cond.fieldLink RX6 122 "ThermostatColony$Room" "tripped" "Z" ∈ AL := AL_mem (AL_1 (List.mem_of_getElem? (i := 100) rfl)) rfl
theorem wf_X6_129 : Cond.fieldLink RX6 129 "ThermostatColony$Room" "books" "LThermostatColony$Books;" ∈ AL := AL_mem (AL_1 (List.mem_of_getElem? (i := 79) rfl)) rfl
theorem wf_X6_138 : Cond.fieldLink RX6 138 "ThermostatColony$Colony" "time" "I" ∈ AL := AL_mem (AL_1 (List.mem_of_getElem? (i := 161) rfl)) rfl
theorem wf_X6_141 : Cond.fieldLink RX6 141 "ThermostatColony$Colony" "weather" "LThermostatColony$Weather;" ∈ AL := AL_mem (AL_1 (List.mem_of_getElem? (i := 157) rfl)) rfl
theorem wf_X6_144 : Cond.fieldLink RX6 144 "ThermostatColony$Weather" "size" "I" ∈ AL := AL_mem (AL_1 (List.mem_of_getElem? (i := 35) rfl)) rfl
theorem wf_X6_153 : Cond.fieldLink RX6 153 "ThermostatColony$WeatherText" "length" "I" ∈ AL := AL_mem (AL_1 (List.mem_of_getElem? (i := 202) rfl)) rfl
theorem wf_X6_156 : Cond.fieldLink RX6 156 "ThermostatColony$History" "size" "I" ∈ AL := AL_mem (AL_1 (List.mem_of_getElem? (i := 187) rfl)) rfl
theorem wf_X6_16 : Cond.fieldLink RX6 16 "ThermostatColony" "forecast" "LThermostatColony$Colony;" ∈ AL := AL_mem (AL_1 (List.mem_of_getElem? (i := 213) rfl)) rfl
theorem wf_X6_202 : Cond.fieldLink RX6 202 "ThermostatColony" "LEAST_NUMBERS" "[I" ∈ AL := AL_mem (AL_2 (List.mem_of_getElem? (i := 236) rfl)) rfl
theorem wf_X6_206 : Cond.fieldLink RX6 206 "ThermostatColony" "MOST_NUMBERS" "[I" ∈ AL := AL_mem (AL_2 (List.mem_of_getElem? (i := 238) rfl)) rfl
theorem wf_X6_22 : Cond.fieldLink RX6 22 "ThermostatColony" "history" "LThermostatColony$History;" ∈ AL := AL_mem (AL_1 (List.mem_of_getElem? (i := 214) rfl)) rfl
theorem wf_X6_29 : Cond.fieldLink RX6 29 "ThermostatColony" "text" "LThermostatColony$WeatherText;" ∈ AL := AL_mem (AL_1 (List.mem_of_getElem? (i := 215) rfl)) rfl
theorem wf_X6_45 : Cond.fieldLink RX6 45 "ThermostatColony$Colony" "roomCount" "I" ∈ AL := AL_mem (AL_1 (List.mem_of_getElem? (i := 159) rfl)) rfl
theorem wf_X6_79 : Cond.fieldLink RX6 79 "ThermostatColony$Room" "point" "I" ∈ AL := AL_mem (AL_1 (List.mem_of_getElem? (i := 90) rfl)) rfl
theorem wf_X6_84 : Cond.fieldLink RX6 84 "ThermostatColony$Room" "band" "I" ∈ AL := AL_mem (AL_1 (List.mem_of_getElem? (i := 92) rfl)) rfl
theorem in_X0 : ∀ w ∈ u_ws RX0 TX0 5, w ∈ AL := AL_all _ [67, 69, 71, 73, 75] (by decide +kernel) (by decide +kernel)
theorem in_X1 : ∀ w ∈ u_ws RX1 TX1 6, w ∈ AL := AL_all _ [162, 164, 166, 168, 170, 172] (by decide +kernel) (by decide +kernel)
theorem in_X2 : ∀ w ∈ u_ws RX2 TX2 3, w ∈ AL := AL_all _ [188, 190, 192] (by decide +kernel) (by decide +kernel)
theorem in_X3 : ∀ w ∈ u_ws RX3 TX3 18, w ∈ AL := AL_all _ [116, 118, 120, 122, 124, 126, 128, 130, 132, 134, 136, 138, 140, 142, 144, 146, 148, 150] (by decide +kernel) (by decide +kernel)
theorem in_X4 : ∀ w ∈ u_ws RX4 TX4 3, w ∈ AL := AL_all _ [36, 38, 40] (by decide +kernel) (by decide +kernel)
theorem in_X5 : ∀ w ∈ u_ws RX5 TX5 3, w ∈ AL := AL_all _ [203, 205, 207] (by decide +kernel) (by decide +kernel)
theorem in_X6 : ∀ w ∈ u_ws RX6 TX6 5, w ∈ AL := AL_all _ [217, 219, 221, 223, 225] (by decide +kernel) (by decide +kernel)
section WRAP
variable {p : Program} {l : Launch} {e : Env} {R : Room} {s : State} {m : MethodId} {args : Array Value} {below : List Frame} {meth : Method} {c : Code} {H : Heap} {locs : List Loc} {Q : State → Prop}
variable {cc : ByteArray} {pc nL : Nat} {ls : Array Slot} {rest : List Value} {E : xE} {B n : Nat} {σ : xM} {x0 : Cond} {own : String} {k index : Nat}
theorem g0_0 (CX : xCX p m c cc nL s args x0 own E B 160) (hM : xS E B 160 (layX E B) s σ H locs) (hk : kd k = 0) (hlink : Cond.fieldLink own index "ThermostatColony$Books" "firstHeat" "I" ∈ AL) (hdg : decode cc pc = .ok (.getfield index, 3)) (kk : W p l e R s m args below meth c H locs 0 0 Q (F0 m (pc + 3) ls (.int (σ k 0) :: rest))) : W p l e R s m args below meth c H locs 0 0 Q (F0 m pc ls (.ref (B + k) :: rest)) :=
  x_get CX hM (kdl hk rfl) (ly0 hk _) in_X0 rfl 0 (by decide) hlink rfl hdg kk
theorem g0_1 (CX : xCX p m c cc nL s args x0 own E B 160) (hM : xS E B 160 (layX E B) s σ H locs) (hk : kd k = 0) (hlink : Cond.fieldLink own index "ThermostatColony$Books" "fromHeater" "I" ∈ AL) (hdg : decode cc pc = .ok (.getfield index, 3)) (kk : W p l e R s m args below meth c H locs 0 0 Q (F0 m (pc + 3) ls (.int (σ k 1) :: rest))) : W p l e R s m args below meth c H locs 0 0 Q (F0 m pc ls (.ref (B + k) :: rest)) :=
  x_get CX hM (kdl hk rfl) (ly0 hk _) in_X0 rfl 1 (by decide) hlink rfl hdg kk
theorem g0_2 (CX : xCX p m c cc nL s args x0 own E B 160) (hM : xS E B 160 (layX E B) s σ H locs) (hk : kd k = 0) (hlink : Cond.fieldLink own index "ThermostatColony$Books" "toOutside" "I" ∈ AL) (hdg : decode cc pc = .ok (.getfield index, 3)) (kk : W p l e R s m args below meth c H locs 0 0 Q (F0 m (pc + 3) ls (.int (σ k 2) :: rest))) : W p l e R s m args below meth c H locs 0 0 Q (F0 m pc ls (.ref (B + k) :: rest)) :=
  x_get CX hM (kdl hk rfl) (ly0 hk _) in_X0 rfl 2 (by decide) hlink rfl hdg kk
theorem g0_3 (CX : xCX p m c cc nL s args x0 own E B 160) (hM : xS E B 160 (layX E B) s σ H locs) (hk : kd k = 0) (hlink : Cond.fieldLink own index "ThermostatColony$Books" "toOthers" "I" ∈ AL) (hdg : decode cc pc = .ok (.getfield index, 3)) (kk : W p l e R s m args below meth c H locs 0 0 Q (F0 m (pc + 3) ls (.int (σ k 3) :: rest))) : W p l e R s m args below meth c H locs 0 0 Q (F0 m pc ls (.ref (B + k) :: rest)) :=
  x_get CX hM (kdl hk rfl) (ly0 hk _) in_X0 rfl 3 (by decide) hlink rfl hdg kk
theorem g0_4 (CX : xCX p m c cc nL s args x0 own E B 160) (hM : xS E B 160 (layX E B) s σ H locs) (hk : kd k = 0) (hlink : Cond.fieldLink own index "ThermostatColony$Books" "byWarm" "I" ∈ AL) (hdg : decode cc pc = .ok (.getfield index, 3)) (kk : W p l e R s m args below meth c H locs 0 0 Q (F0 m (pc + 3) ls (.int (σ k 4) :: rest))) : W p l e R s m args below meth c H locs 0 0 Q (F0 m pc ls (.ref (B + k) :: rest)) :=
  x_get CX hM (kdl hk rfl) (ly0 hk _) in_X0 rfl 4 (by decide) hlink rfl hdg kk
theorem g1_0 (CX : xCX p m c cc nL s args x0 own E B 160) (hM : xS E B 160 (layX E B) s σ H locs) (hk : kd k = 1) (hlink : Cond.fieldLink own index "ThermostatColony$Colony" "numbers" "[I" ∈ AL) (hdg : decode cc pc = .ok (.getfield index, 3)) (kk : W p l e R s m args below meth c H locs 0 0 Q (F0 m (pc + 3) ls (.ref (B + (k + 1)) :: rest))) : W p l e R s m args below meth c H locs 0 0 Q (F0 m pc ls (.ref (B + k) :: rest)) :=
  x_get CX hM (kdl hk rfl) (ly1 hk _) in_X1 rfl 0 (by decide) hlink rfl hdg kk
theorem g1_1 (CX : xCX p m c cc nL s args x0 own E B 160) (hM : xS E B 160 (layX E B) s σ H locs) (hk : kd k = 1) (hlink : Cond.fieldLink own index "ThermostatColony$Colony" "rooms" "[LThermostatColony$Room;" ∈ AL) (hdg : decode cc pc = .ok (.getfield index, 3)) (kk : W p l e R s m args below meth c H locs 0 0 Q (F0 m (pc + 3) ls (.ref (B + (k + 2)) :: rest))) : W p l e R s m args below meth c H locs 0 0 Q (F0 m pc ls (.ref (B + k) :: rest)) :=
  x_get CX hM (kdl hk rfl) (ly1 hk _) in_X1 rfl 1 (by decide) hlink rfl hdg kk
theorem g1_2 (CX : xCX p m c cc nL s args x0 own E B 160) (hM : xS E B 160 (layX E B) s σ H locs) (hk : kd k = 1) (hlink : Cond.fieldLink own index "ThermostatColony$Colony" "links" "[I" ∈ AL) (hdg : decode cc pc = .ok (.getfield index, 3)) (kk : W p l e R s m args below meth c H locs 0 0 Q (F0 m (pc + 3) ls (.ref (B + (k + 3)) :: rest))) : W p l e R s m args below meth c H locs 0 0 Q (F0 m pc ls (.ref (B + k) :: rest)) :=
  x_get CX hM (kdl hk rfl) (ly1 hk _) in_X1 rfl 2 (by decide) hlink rfl hdg kk
theorem g1_3 (CX : xCX p m c cc nL s args x0 own E B 160) (hM : xS E B 160 (layX E B) s σ H locs) (hk : kd k = 1) (hlink : Cond.fieldLink own index "ThermostatColony$Colony" "weather" "LThermostatColony$Weather;" ∈ AL) (hdg : decode cc pc = .ok (.getfield index, 3)) (kk : W p l e R s m args below meth c H locs 0 0 Q (F0 m (pc + 3) ls (.ref (B + (k + 4)) :: rest))) : W p l e R s m args below meth c H locs 0 0 Q (F0 m pc ls (.ref (B + k) :: rest)) :=
  x_get CX hM (kdl hk rfl) (ly1 hk _) in_X1 rfl 3 (by decide) hlink rfl hdg kk
theorem g1_4 (CX : xCX p m c cc nL s args x0 own E B 160) (hM : xS E B 160 (layX E B) s σ H locs) (hk : kd k = 1) (hlink : Cond.fieldLink own index "ThermostatColony$Colony" "roomCount" "I" ∈ AL) (hdg : decode cc pc = .ok (.getfield index, 3)) (kk : W p l e R s m args below meth c H locs 0 0 Q (F0 m (pc + 3) ls (.int (σ k 4) :: rest))) : W p l e R s m args below meth c H locs 0 0 Q (F0 m pc ls (.ref (B + k) :: rest)) :=
  x_get CX hM (kdl hk rfl) (ly1 hk _) in_X1 rfl 4 (by decide) hlink rfl hdg kk
theorem g1_5 (CX : xCX p m c cc nL s args x0 own E B 160) (hM : xS E B 160 (layX E B) s σ H locs) (hk : kd k = 1) (hlink : Cond.fieldLink own index "ThermostatColony$Colony" "time" "I" ∈ AL) (hdg : decode cc pc = .ok (.getfield index, 3)) (kk : W p l e R s m args below meth c H locs 0 0 Q (F0 m (pc + 3) ls (.int (σ k 5) :: rest))) : W p l e R s m args below meth c H locs 0 0 Q (F0 m pc ls (.ref (B + k) :: rest)) :=
  x_get CX hM (kdl hk rfl) (ly1 hk _) in_X1 rfl 5 (by decide) hlink rfl hdg kk
theorem g2_0 (CX : xCX p m c cc nL s args x0 own E B 160) (hM : xS E B 160 (layX E B) s σ H locs) (hk : kd k = 2) (hlink : Cond.fieldLink own index "ThermostatColony$History" "states" "[LThermostatColony$Colony;" ∈ AL) (hdg : decode cc pc = .ok (.getfield index, 3)) (kk : W p l e R s m args below meth c H locs 0 0 Q (F0 m (pc + 3) ls (.ref (B + (k + 1)) :: rest))) : W p l e R s m args below meth c H locs 0 0 Q (F0 m pc ls (.ref (B + k) :: rest)) :=
  x_get CX hM (kdl hk rfl) (ly2 hk _) in_X2 rfl 0 (by decide) hlink rfl hdg kk
theorem g2_1 (CX : xCX p m c cc nL s args x0 own E B 160) (hM : xS E B 160 (layX E B) s σ H locs) (hk : kd k = 2) (hlink : Cond.fieldLink own index "ThermostatColony$History" "next" "I" ∈ AL) (hdg : decode cc pc = .ok (.getfield index, 3)) (kk : W p l e R s m args below meth c H locs 0 0 Q (F0 m (pc + 3) ls (.int (σ k 1) :: rest))) : W p l e R s m args below meth c H locs 0 0 Q (F0 m pc ls (.ref (B + k) :: rest)) :=
  x_get CX hM (kdl hk rfl) (ly2 hk _) in_X2 rfl 1 (by decide) hlink rfl hdg kk
theorem g2_2 (CX : xCX p m c cc nL s args x0 own E B 160) (hM : xS E B 160 (layX E B) s σ H locs) (hk : kd k = 2) (hlink : Cond.fieldLink own index "ThermostatColony$History" "size" "I" ∈ AL) (hdg : decode cc pc = .ok (.getfield index, 3)) (kk : W p l e R s m args below meth c H locs 0 0 Q (F0 m (pc + 3) ls (.int (σ k 2) :: rest))) : W p l e R s m args below meth c H locs 0 0 Q (F0 m pc ls (.ref (B + k) :: rest)) :=
  x_get CX hM (kdl hk rfl) (ly2 hk _) in_X2 rfl 2 (by decide) hlink rfl hdg kk
theorem g3_0 (CX : xCX p m c cc nL s args x0 own E B 160) (hM : xS E B 160 (layX E B) s σ H locs) (hk : kd k = 3) (hlink : Cond.fieldLink own index "ThermostatColony$Room" "books" "LThermostatColony$Books;" ∈ AL) (hdg : decode cc pc = .ok (.getfield index, 3)) (kk : W p l e R s m args below meth c H locs 0 0 Q (F0 m (pc + 3) ls (.ref (B + (k + 1)) :: rest))) : W p l e R s m args below meth c H locs 0 0 Q (F0 m pc ls (.ref (B + k) :: rest)) :=
  x_get CX hM (kdl hk rfl) (ly3 hk _) in_X3 rfl 0 (by decide) hlink rfl hdg kk
theorem g3_1 (CX : xCX p m c cc nL s args x0 own E B 160) (hM : xS E B 160 (layX E B) s σ H locs) (hk : kd k = 3) (hlink : Cond.fieldLink own index "ThermostatColony$Room" "capacity" "I" ∈ AL) (hdg : decode cc pc = .ok (.getfield index, 3)) (kk : W p l e R s m args below meth c H locs 0 0 Q (F0 m (pc + 3) ls (.int (σ k 1) :: rest))) : W p l e R s m args below meth c H locs 0 0 Q (F0 m pc ls (.ref (B + k) :: rest)) :=
  x_get CX hM (kdl hk rfl) (ly3 hk _) in_X3 rfl 1 (by decide) hlink rfl hdg kk
theorem g3_2 (CX : xCX p m c cc nL s args x0 own E B 160) (hM : xS E B 160 (layX E B) s σ H locs) (hk : kd k = 3) (hlink : Cond.fieldLink own index "ThermostatColony$Room" "power" "I" ∈ AL) (hdg : decode cc pc = .ok (.getfield index, 3)) (kk : W p l e R s m args below meth c H locs 0 0 Q (F0 m (pc + 3) ls (.int (σ k 2) :: rest))) : W p l e R s m args below meth c H locs 0 0 Q (F0 m pc ls (.ref (B + k) :: rest)) :=
  x_get CX hM (kdl hk rfl) (ly3 hk _) in_X3 rfl 2 (by decide) hlink rfl hdg kk
theorem g3_3 (CX : xCX p m c cc nL s args x0 own E B 160) (hM : xS E B 160 (layX E B) s σ H locs) (hk : kd k = 3) (hlink : Cond.fieldLink own index "ThermostatColony$Room" "leak" "I" ∈ AL) (hdg : decode cc pc = .ok (.getfield index, 3)) (kk : W p l e R s m args below meth c H locs 0 0 Q (F0 m (pc + 3) ls (.int (σ k 3) :: rest))) : W p l e R s m args below meth c H locs 0 0 Q (F0 m pc ls (.ref (B + k) :: rest)) :=
  x_get CX hM (kdl hk rfl) (ly3 hk _) in_X3 rfl 3 (by decide) hlink rfl hdg kk
theorem g3_4 (CX : xCX p m c cc nL s args x0 own E B 160) (hM : xS E B 160 (layX E B) s σ H locs) (hk : kd k = 3) (hlink : Cond.fieldLink own index "ThermostatColony$Room" "heat" "I" ∈ AL) (hdg : decode cc pc = .ok (.getfield index, 3)) (kk : W p l e R s m args below meth c H locs 0 0 Q (F0 m (pc + 3) ls (.int (σ k 4) :: rest))) : W p l e R s m args below meth c H locs 0 0 Q (F0 m pc ls (.ref (B + k) :: rest)) :=
  x_get CX hM (kdl hk rfl) (ly3 hk _) in_X3 rfl 4 (by decide) hlink rfl hdg kk
theorem g3_5 (CX : xCX p m c cc nL s args x0 own E B 160) (hM : xS E B 160 (layX E B) s σ H locs) (hk : kd k = 3) (hlink : Cond.fieldLink own index "ThermostatColony$Room" "point" "I" ∈ AL) (hdg : decode cc pc = .ok (.getfield index, 3)) (kk : W p l e R s m args below meth c H locs 0 0 Q (F0 m (pc + 3) ls (.int (σ k 5) :: rest))) : W p l e R s m args below meth c H locs 0 0 Q (F0 m pc ls (.ref (B + k) :: rest)) :=
  x_get CX hM (kdl hk rfl) (ly3 hk _) in_X3 rfl 5 (by decide) hlink rfl hdg kk
theorem g3_6 (CX : xCX p m c cc nL s args x0 own E B 160) (hM : xS E B 160 (layX E B) s σ H locs) (hk : kd k = 3) (hlink : Cond.fieldLink own index "ThermostatColony$Room" "band" "I" ∈ AL) (hdg : decode cc pc = .ok (.getfield index, 3)) (kk : W p l e R s m args below meth c H locs 0 0 Q (F0 m (pc + 3) ls (.int (σ k 6) :: rest))) : W p l e R s m args below meth c H locs 0 0 Q (F0 m pc ls (.ref (B + k) :: rest)) :=
  x_get CX hM (kdl hk rfl) (ly3 hk _) in_X3 rfl 6 (by decide) hlink rfl hdg kk
theorem g3_7 (CX : xCX p m c cc nL s args x0 own E B 160) (hM : xS E B 160 (layX E B) s σ H locs) (hk : kd k = 3) (hlink : Cond.fieldLink own index "ThermostatColony$Room" "blade" "I" ∈ AL) (hdg : decode cc pc = .ok (.getfield index, 3)) (kk : W p l e R s m args below meth c H locs 0 0 Q (F0 m (pc + 3) ls (.int (σ k 7) :: rest))) : W p l e R s m args below meth c H locs 0 0 Q (F0 m pc ls (.ref (B + k) :: rest)) :=
  x_get CX hM (kdl hk rfl) (ly3 hk _) in_X3 rfl 7 (by decide) hlink rfl hdg kk
theorem g3_8 (CX : xCX p m c cc nL s args x0 own E B 160) (hM : xS E B 160 (layX E B) s σ H locs) (hk : kd k = 3) (hlink : Cond.fieldLink own index "ThermostatColony$Room" "closed" "Z" ∈ AL) (hdg : decode cc pc = .ok (.getfield index, 3)) (kk : W p l e R s m args below meth c H locs 0 0 Q (F0 m (pc + 3) ls (.int (bz (σ k 8)) :: rest))) : W p l e R s m args below meth c H locs 0 0 Q (F0 m pc ls (.ref (B + k) :: rest)) :=
  x_get CX hM (kdl hk rfl) (ly3 hk _) in_X3 rfl 8 (by decide) hlink rfl hdg kk
theorem g3_9 (CX : xCX p m c cc nL s args x0 own E B 160) (hM : xS E B 160 (layX E B) s σ H locs) (hk : kd k = 3) (hlink : Cond.fieldLink own index "ThermostatColony$Room" "welded" "Z" ∈ AL) (hdg : decode cc pc = .ok (.getfield index, 3)) (kk : W p l e R s m args below meth c H locs 0 0 Q (F0 m (pc + 3) ls (.int (bz (σ k 9)) :: rest))) : W p l e R s m args below meth c H locs 0 0 Q (F0 m pc ls (.ref (B + k) :: rest)) :=
  x_get CX hM (kdl hk rfl) (ly3 hk _) in_X3 rfl 9 (by decide) hlink rfl hdg kk
theorem g3_10 (CX : xCX p m c cc nL s args x0 own E B 160) (hM : xS E B 160 (layX E B) s σ H locs) (hk : kd k = 3) (hlink : Cond.fieldLink own index "ThermostatColony$Room" "tripped" "Z" ∈ AL) (hdg : decode cc pc = .ok (.getfield index, 3)) (kk : W p l e R s m args below meth c H locs 0 0 Q (F0 m (pc + 3) ls (.int (bz (σ k 10)) :: rest))) : W p l e R s m args below meth c H locs 0 0 Q (F0 m pc ls (.ref (B + k) :: rest)) :=
  x_get CX hM (kdl hk rfl) (ly3 hk _) in_X3 rfl 10 (by decide) hlink rfl hdg kk
theorem g3_11 (CX : xCX p m c cc nL s args x0 own E B 160) (hM : xS E B 160 (layX E B) s σ H locs) (hk : kd k = 3) (hlink : Cond.fieldLink own index "ThermostatColony$Room" "wear" "I" ∈ AL) (hdg : decode cc pc = .ok (.getfield index, 3)) (kk : W p l e R s m args below meth c H locs 0 0 Q (F0 m (pc + 3) ls (.int (σ k 11) :: rest))) : W p l e R s m args below meth c H locs 0 0 Q (F0 m pc ls (.ref (B + k) :: rest)) :=
  x_get CX hM (kdl hk rfl) (ly3 hk _) in_X3 rfl 11 (by decide) hlink rfl hdg kk
theorem g3_12 (CX : xCX p m c cc nL s args x0 own E B 160) (hM : xS E B 160 (layX E B) s σ H locs) (hk : kd k = 3) (hlink : Cond.fieldLink own index "ThermostatColony$Room" "attempts" "I" ∈ AL) (hdg : decode cc pc = .ok (.getfield index, 3)) (kk : W p l e R s m args below meth c H locs 0 0 Q (F0 m (pc + 3) ls (.int (σ k 12) :: rest))) : W p l e R s m args below meth c H locs 0 0 Q (F0 m pc ls (.ref (B + k) :: rest)) :=
  x_get CX hM (kdl hk rfl) (ly3 hk _) in_X3 rfl 12 (by decide) hlink rfl hdg kk
theorem g3_13 (CX : xCX p m c cc nL s args x0 own E B 160) (hM : xS E B 160 (layX E B) s σ H locs) (hk : kd k = 3) (hlink : Cond.fieldLink own index "ThermostatColony$Room" "closings" "I" ∈ AL) (hdg : decode cc pc = .ok (.getfield index, 3)) (kk : W p l e R s m args below meth c H locs 0 0 Q (F0 m (pc + 3) ls (.int (σ k 13) :: rest))) : W p l e R s m args below meth c H locs 0 0 Q (F0 m pc ls (.ref (B + k) :: rest)) :=
  x_get CX hM (kdl hk rfl) (ly3 hk _) in_X3 rfl 13 (by decide) hlink rfl hdg kk
theorem g3_14 (CX : xCX p m c cc nL s args x0 own E B 160) (hM : xS E B 160 (layX E B) s σ H locs) (hk : kd k = 3) (hlink : Cond.fieldLink own index "ThermostatColony$Room" "latestClosing" "I" ∈ AL) (hdg : decode cc pc = .ok (.getfield index, 3)) (kk : W p l e R s m args below meth c H locs 0 0 Q (F0 m (pc + 3) ls (.int (σ k 14) :: rest))) : W p l e R s m args below meth c H locs 0 0 Q (F0 m pc ls (.ref (B + k) :: rest)) :=
  x_get CX hM (kdl hk rfl) (ly3 hk _) in_X3 rfl 14 (by decide) hlink rfl hdg kk
theorem g3_15 (CX : xCX p m c cc nL s args x0 own E B 160) (hM : xS E B 160 (layX E B) s σ H locs) (hk : kd k = 3) (hlink : Cond.fieldLink own index "ThermostatColony$Room" "fines" "I" ∈ AL) (hdg : decode cc pc = .ok (.getfield index, 3)) (kk : W p l e R s m args below meth c H locs 0 0 Q (F0 m (pc + 3) ls (.int (σ k 15) :: rest))) : W p l e R s m args below meth c H locs 0 0 Q (F0 m pc ls (.ref (B + k) :: rest)) :=
  x_get CX hM (kdl hk rfl) (ly3 hk _) in_X3 rfl 15 (by decide) hlink rfl hdg kk
theorem g3_16 (CX : xCX p m c cc nL s args x0 own E B 160) (hM : xS E B 160 (layX E B) s σ H locs) (hk : kd k = 3) (hlink : Cond.fieldLink own index "ThermostatColony$Room" "suspectMinutes" "I" ∈ AL) (hdg : decode cc pc = .ok (.getfield index, 3)) (kk : W p l e R s m args below meth c H locs 0 0 Q (F0 m (pc + 3) ls (.int (σ k 16) :: rest))) : W p l e R s m args below meth c H locs 0 0 Q (F0 m pc ls (.ref (B + k) :: rest)) :=
  x_get CX hM (kdl hk rfl) (ly3 hk _) in_X3 rfl 16 (by decide) hlink rfl hdg kk
theorem g3_17 (CX : xCX p m c cc nL s args x0 own E B 160) (hM : xS E B 160 (layX E B) s σ H locs) (hk : kd k = 3) (hlink : Cond.fieldLink own index "ThermostatColony$Room" "minuteTemperature" "I" ∈ AL) (hdg : decode cc pc = .ok (.getfield index, 3)) (kk : W p l e R s m args below meth c H locs 0 0 Q (F0 m (pc + 3) ls (.int (σ k 17) :: rest))) : W p l e R s m args below meth c H locs 0 0 Q (F0 m pc ls (.ref (B + k) :: rest)) :=
  x_get CX hM (kdl hk rfl) (ly3 hk _) in_X3 rfl 17 (by decide) hlink rfl hdg kk
theorem g4_0 (CX : xCX p m c cc nL s args x0 own E B 160) (hM : xS E B 160 (layX E B) s σ H locs) (hk : kd k = 4) (hlink : Cond.fieldLink own index "ThermostatColony$Weather" "minutes" "[I" ∈ AL) (hdg : decode cc pc = .ok (.getfield index, 3)) (kk : W p l e R s m args below meth c H locs 0 0 Q (F0 m (pc + 3) ls (.ref (B + (k + 1)) :: rest))) : W p l e R s m args below meth c H locs 0 0 Q (F0 m pc ls (.ref (B + k) :: rest)) :=
  x_get CX hM (kdl hk rfl) (ly4 hk _) in_X4 rfl 0 (by decide) hlink rfl hdg kk
theorem g4_1 (CX : xCX p m c cc nL s args x0 own E B 160) (hM : xS E B 160 (layX E B) s σ H locs) (hk : kd k = 4) (hlink : Cond.fieldLink own index "ThermostatColony$Weather" "degrees" "[I" ∈ AL) (hdg : decode cc pc = .ok (.getfield index, 3)) (kk : W p l e R s m args below meth c H locs 0 0 Q (F0 m (pc + 3) ls (.ref (B + (k + 2)) :: rest))) : W p l e R s m args below meth c H locs 0 0 Q (F0 m pc ls (.ref (B + k) :: rest)) :=
  x_get CX hM (kdl hk rfl) (ly4 hk _) in_X4 rfl 1 (by decide) hlink rfl hdg kk
theorem g4_2 (CX : xCX p m c cc nL s args x0 own E B 160) (hM : xS E B 160 (layX E B) s σ H locs) (hk : kd k = 4) (hlink : Cond.fieldLink own index "ThermostatColony$Weather" "size" "I" ∈ AL) (hdg : decode cc pc = .ok (.getfield index, 3)) (kk : W p l e R s m args below meth c H locs 0 0 Q (F0 m (pc + 3) ls (.int (σ k 2) :: rest))) : W p l e R s m args below meth c H locs 0 0 Q (F0 m pc ls (.ref (B + k) :: rest)) :=
  x_get CX hM (kdl hk rfl) (ly4 hk _) in_X4 rfl 2 (by decide) hlink rfl hdg kk
theorem g5_1 (CX : xCX p m c cc nL s args x0 own E B 160) (hM : xS E B 160 (layX E B) s σ H locs) (hk : kd k = 5) (hlink : Cond.fieldLink own index "ThermostatColony$WeatherText" "length" "I" ∈ AL) (hdg : decode cc pc = .ok (.getfield index, 3)) (kk : W p l e R s m args below meth c H locs 0 0 Q (F0 m (pc + 3) ls (.int (σ k 1) :: rest))) : W p l e R s m args below meth c H locs 0 0 Q (F0 m pc ls (.ref (B + k) :: rest)) :=
  x_get CX hM (kdl hk rfl) (ly5 hk _) in_X5 rfl 1 (by decide) hlink rfl hdg kk
theorem g6_0 (CX : xCX p m c cc nL s args x0 own E B 160) (hM : xS E B 160 (layX E B) s σ H locs) (hk : kd k = 6) (hlink : Cond.fieldLink own index "ThermostatColony" "now" "LThermostatColony$Colony;" ∈ AL) (hdg : decode cc pc = .ok (.getfield index, 3)) (kk : W p l e R s m args below meth c H locs 0 0 Q (F0 m (pc + 3) ls (.ref (B + (k + 1)) :: rest))) : W p l e R s m args below meth c H locs 0 0 Q (F0 m pc ls (.ref (B + k) :: rest)) :=
  x_get CX hM (kdl hk rfl) (ly6 hk _) in_X6 rfl 0 (by decide) hlink rfl hdg kk
theorem g6_1 (CX : xCX p m c cc nL s args x0 own E B 160) (hM : xS E B 160 (layX E B) s σ H locs) (hk : kd k = 6) (hlink : Cond.fieldLink own index "ThermostatColony" "forecast" "LThermostatColony$Colony;" ∈ AL) (hdg : decode cc pc = .ok (.getfield index, 3)) (kk : W p l e R s m args below meth c H locs 0 0 Q (F0 m (pc + 3) ls (.ref (B + (k + 20)) :: rest))) : W p l e R s m args below meth c H locs 0 0 Q (F0 m pc ls (.ref (B + k) :: rest)) :=
  x_get CX hM (kdl hk rfl) (ly6 hk _) in_X6 rfl 1 (by decide) hlink rfl hdg kk
theorem g6_2 (CX : xCX p m c cc nL s args x0 own E B 160) (hM : xS E B 160 (layX E B) s σ H locs) (hk : kd k = 6) (hlink : Cond.fieldLink own index "ThermostatColony" "history" "LThermostatColony$History;" ∈ AL) (hdg : decode cc pc = .ok (.getfield index, 3)) (kk : W p l e R s m args below meth c H locs 0 0 Q (F0 m (pc + 3) ls (.ref (B + (k + 39)) :: rest))) : W p l e R s m args below meth c H locs 0 0 Q (F0 m pc ls (.ref (B + k) :: rest)) :=
  x_get CX hM (kdl hk rfl) (ly6 hk _) in_X6 rfl 2 (by decide) hlink rfl hdg kk
theorem g6_3 (CX : xCX p m c cc nL s args x0 own E B 160) (hM : xS E B 160 (layX E B) s σ H locs) (hk : kd k = 6) (hlink : Cond.fieldLink own index "ThermostatColony" "text" "LThermostatColony$WeatherText;" ∈ AL) (hdg : decode cc pc = .ok (.getfield index, 3)) (kk : W p l e R s m args below meth c H locs 0 0 Q (F0 m (pc + 3) ls (.ref (B + (k + 155)) :: rest))) : W p l e R s m args below meth c H locs 0 0 Q (F0 m pc ls (.ref (B + k) :: rest)) :=
  x_get CX hM (kdl hk rfl) (ly6 hk _) in_X6 rfl 3 (by decide) hlink rfl hdg kk
theorem p0_0 {y : Int32} (CX : xCX p m c cc nL s args x0 own E B 160) (hM : xS E B 160 (layX E B) s σ H locs) (hk : kd k = 0) (hlink : Cond.fieldLink own index "ThermostatColony$Books" "firstHeat" "I" ∈ AL) (hdg : decode cc pc = .ok (.putfield index, 3)) (kk : ∀ (H1 : Heap) (locs1 : List Loc) (σ1 : xM), σ1 = xup σ k 0 y → xS E B 160 (layX E B) s σ1 H1 locs1 → W p l e R s m args below meth c H1 locs1 0 0 Q (F0 m (pc + 3) ls rest)) : W p l e R s m args below meth c H locs 0 0 Q (F0 m pc ls (.int (y) :: .ref (B + k) :: rest)) :=
  x_put (ty := .int) CX hM (y) y (kdl hk rfl) (ly0 hk _) in_X0 tyX0 tyX0_ok nmX0 rfl 0 (by decide) hlink rfl rfl rfl rfl (show 0 < 5 by decide) (by rw [ly0 hk]; rfl) hdg kk
theorem p0_1 {y : Int32} (CX : xCX p m c cc nL s args x0 own E B 160) (hM : xS E B 160 (layX E B) s σ H locs) (hk : kd k = 0) (hlink : Cond.fieldLink own index "ThermostatColony$Books" "fromHeater" "I" ∈ AL) (hdg : decode cc pc = .ok (.putfield index, 3)) (kk : ∀ (H1 : Heap) (locs1 : List Loc) (σ1 : xM), σ1 = xup σ k 1 y → xS E B 160 (layX E B) s σ1 H1 locs1 → W p l e R s m args below meth c H1 locs1 0 0 Q (F0 m (pc + 3) ls rest)) : W p l e R s m args below meth c H locs 0 0 Q (F0 m pc ls (.int (y) :: .ref (B + k) :: rest)) :=
  x_put (ty := .int) CX hM (y) y (kdl hk rfl) (ly0 hk _) in_X0 tyX0 tyX0_ok nmX0 rfl 1 (by decide) hlink rfl rfl rfl rfl (show 1 < 5 by decide) (by rw [ly0 hk]; rfl) hdg kk
theorem p0_2 {y : Int32} (CX : xCX p m c cc nL s args x0 own E B 160) (hM : xS E B 160 (layX E B) s σ H locs) (hk : kd k = 0) (hlink : Cond.fieldLink own index "ThermostatColony$Books" "toOutside" "I" ∈ AL) (hdg : decode cc pc = .ok (.putfield index, 3)) (kk : ∀ (H1 : Heap) (locs1 : List Loc) (σ1 : xM), σ1 = xup σ k 2 y → xS E B 160 (layX E B) s σ1 H1 locs1 → W p l e R s m args below meth c H1 locs1 0 0 Q (F0 m (pc + 3) ls rest)) : W p l e R s m args below meth c H locs 0 0 Q (F0 m pc ls (.int (y) :: .ref (B + k) :: rest)) :=
  x_put (ty := .int) CX hM (y) y (kdl hk rfl) (ly0 hk _) in_X0 tyX0 tyX0_ok nmX0 rfl 2 (by decide) hlink rfl rfl rfl rfl (show 2 < 5 by decide) (by rw [ly0 hk]; rfl) hdg kk
theorem p0_3 {y : Int32} (CX : xCX p m c cc nL s args x0 own E B 160) (hM : xS E B 160 (layX E B) s σ H locs) (hk : kd k = 0) (hlink : Cond.fieldLink own index "ThermostatColony$Books" "toOthers" "I" ∈ AL) (hdg : decode cc pc = .ok (.putfield index, 3)) (kk : ∀ (H1 : Heap) (locs1 : List Loc) (σ1 : xM), σ1 = xup σ k 3 y → xS E B 160 (layX E B) s σ1 H1 locs1 → W p l e R s m args below meth c H1 locs1 0 0 Q (F0 m (pc + 3) ls rest)) : W p l e R s m args below meth c H locs 0 0 Q (F0 m pc ls (.int (y) :: .ref (B + k) :: rest)) :=
  x_put (ty := .int) CX hM (y) y (kdl hk rfl) (ly0 hk _) in_X0 tyX0 tyX0_ok nmX0 rfl 3 (by decide) hlink rfl rfl rfl rfl (show 3 < 5 by decide) (by rw [ly0 hk]; rfl) hdg kk
theorem p0_4 {y : Int32} (CX : xCX p m c cc nL s args x0 own E B 160) (hM : xS E B 160 (layX E B) s σ H locs) (hk : kd k = 0) (hlink : Cond.fieldLink own index "ThermostatColony$Books" "byWarm" "I" ∈ AL) (hdg : decode cc pc = .ok (.putfield index, 3)) (kk : ∀ (H1 : Heap) (locs1 : List Loc) (σ1 : xM), σ1 = xup σ k 4 y → xS E B 160 (layX E B) s σ1 H1 locs1 → W p l e R s m args below meth c H1 locs1 0 0 Q (F0 m (pc + 3) ls rest)) : W p l e R s m args below meth c H locs 0 0 Q (F0 m pc ls (.int (y) :: .ref (B + k) :: rest)) :=
  x_put (ty := .int) CX hM (y) y (kdl hk rfl) (ly0 hk _) in_X0 tyX0 tyX0_ok nmX0 rfl 4 (by decide) hlink rfl rfl rfl rfl (show 4 < 5 by decide) (by rw [ly0 hk]; rfl) hdg kk
theorem p1_4 {y : Int32} (CX : xCX p m c cc nL s args x0 own E B 160) (hM : xS E B 160 (layX E B) s σ H locs) (hk : kd k = 1) (hlink : Cond.fieldLink own index "ThermostatColony$Colony" "roomCount" "I" ∈ AL) (hdg : decode cc pc = .ok (.putfield index, 3)) (kk : ∀ (H1 : Heap) (locs1 : List Loc) (σ1 : xM), σ1 = xup σ k 4 y → xS E B 160 (layX E B) s σ1 H1 locs1 → W p l e R s m args below meth c H1 locs1 0 0 Q (F0 m (pc + 3) ls rest)) : W p l e R s m args below meth c H locs 0 0 Q (F0 m pc ls (.int (y) :: .ref (B + k) :: rest)) :=
  x_put (ty := .int) CX hM (y) y (kdl hk rfl) (ly1 hk _) in_X1 tyX1 tyX1_ok nmX1 rfl 4 (by decide) hlink rfl rfl rfl rfl (show 4 < 6 by decide) (by rw [ly1 hk]; rfl) hdg kk
theorem p1_5 {y : Int32} (CX : xCX p m c cc nL s args x0 own E B 160) (hM : xS E B 160 (layX E B) s σ H locs) (hk : kd k = 1) (hlink : Cond.fieldLink own index "ThermostatColony$Colony" "time" "I" ∈ AL) (hdg : decode cc pc = .ok (.putfield index, 3)) (kk : ∀ (H1 : Heap) (locs1 : List Loc) (σ1 : xM), σ1 = xup σ k 5 y → xS E B 160 (layX E B) s σ1 H1 locs1 → W p l e R s m args below meth c H1 locs1 0 0 Q (F0 m (pc + 3) ls rest)) : W p l e R s m args below meth c H locs 0 0 Q (F0 m pc ls (.int (y) :: .ref (B + k) :: rest)) :=
  x_put (ty := .int) CX hM (y) y (kdl hk rfl) (ly1 hk _) in_X1 tyX1 tyX1_ok nmX1 rfl 5 (by decide) hlink rfl rfl rfl rfl (show 5 < 6 by decide) (by rw [ly1 hk]; rfl) hdg kk
theorem p2_1 {y : Int32} (CX : xCX p m c cc nL s args x0 own E B 160) (hM : xS E B 160 (layX E B) s σ H locs) (hk : kd k = 2) (hlink : Cond.fieldLink own index "ThermostatColony$History" "next" "I" ∈ AL) (hdg : decode cc pc = .ok (.putfield index, 3)) (kk : ∀ (H1 : Heap) (locs1 : List Loc) (σ1 : xM), σ1 = xup σ k 1 y → xS E B 160 (layX E B) s σ1 H1 locs1 → W p l e R s m args below meth c H1 locs1 0 0 Q (F0 m (pc + 3) ls rest)) : W p l e R s m args below meth c H locs 0 0 Q (F0 m pc ls (.int (y) :: .ref (B + k) :: rest)) :=
  x_put (ty := .int) CX hM (y) y (kdl hk rfl) (ly2 hk _) in_X2 tyX2 tyX2_ok nmX2 rfl 1 (by decide) hlink rfl rfl rfl rfl (show 1 < 3 by decide) (by rw [ly2 hk]; rfl) hdg kk
theorem p2_2 {y : Int32} (CX : xCX p m c cc nL s args x0 own E B 160) (hM : xS E B 160 (layX E B) s σ H locs) (hk : kd k = 2) (hlink : Cond.fieldLink own index "ThermostatColony$History" "size" "I" ∈ AL) (hdg : decode cc pc = .ok (.putfield index, 3)) (kk : ∀ (H1 : Heap) (locs1 : List Loc) (σ1 : xM), σ1 = xup σ k 2 y → xS E B 160 (layX E B) s σ1 H1 locs1 → W p l e R s m args below meth c H1 locs1 0 0 Q (F0 m (pc + 3) ls rest)) : W p l e R s m args below meth c H locs 0 0 Q (F0 m pc ls (.int (y) :: .ref (B + k) :: rest)) :=
  x_put (ty := .int) CX hM (y) y (kdl hk rfl) (ly2 hk _) in_X2 tyX2 tyX2_ok nmX2 rfl 2 (by decide) hlink rfl rfl rfl rfl (show 2 < 3 by decide) (by rw [ly2 hk]; rfl) hdg kk
theorem p3_1 {y : Int32} (CX : xCX p m c cc nL s args x0 own E B 160) (hM : xS E B 160 (layX E B) s σ H locs) (hk : kd k = 3) (hlink : Cond.fieldLink own index "ThermostatColony$Room" "capacity" "I" ∈ AL) (hdg : decode cc pc = .ok (.putfield index, 3)) (kk : ∀ (H1 : Heap) (locs1 : List Loc) (σ1 : xM), σ1 = xup σ k 1 y → xS E B 160 (layX E B) s σ1 H1 locs1 → W p l e R s m args below meth c H1 locs1 0 0 Q (F0 m (pc + 3) ls rest)) : W p l e R s m args below meth c H locs 0 0 Q (F0 m pc ls (.int (y) :: .ref (B + k) :: rest)) :=
  x_put (ty := .int) CX hM (y) y (kdl hk rfl) (ly3 hk _) in_X3 tyX3 tyX3_ok nmX3 rfl 1 (by decide) hlink rfl rfl rfl rfl (show 1 < 18 by decide) (by rw [ly3 hk]; rfl) hdg kk
theorem p3_2 {y : Int32} (CX : xCX p m c cc nL s args x0 own E B 160) (hM : xS E B 160 (layX E B) s σ H locs) (hk : kd k = 3) (hlink : Cond.fieldLink own index "ThermostatColony$Room" "power" "I" ∈ AL) (hdg : decode cc pc = .ok (.putfield index, 3)) (kk : ∀ (H1 : Heap) (locs1 : List Loc) (σ1 : xM), σ1 = xup σ k 2 y → xS E B 160 (layX E B) s σ1 H1 locs1 → W p l e R s m args below meth c H1 locs1 0 0 Q (F0 m (pc + 3) ls rest)) : W p l e R s m args below meth c H locs 0 0 Q (F0 m pc ls (.int (y) :: .ref (B + k) :: rest)) :=
  x_put (ty := .int) CX hM (y) y (kdl hk rfl) (ly3 hk _) in_X3 tyX3 tyX3_ok nmX3 rfl 2 (by decide) hlink rfl rfl rfl rfl (show 2 < 18 by decide) (by rw [ly3 hk]; rfl) hdg kk
theorem p3_3 {y : Int32} (CX : xCX p m c cc nL s args x0 own E B 160) (hM : xS E B 160 (layX E B) s σ H locs) (hk : kd k = 3) (hlink : Cond.fieldLink own index "ThermostatColony$Room" "leak" "I" ∈ AL) (hdg : decode cc pc = .ok (.putfield index, 3)) (kk : ∀ (H1 : Heap) (locs1 : List Loc) (σ1 : xM), σ1 = xup σ k 3 y → xS E B 160 (layX E B) s σ1 H1 locs1 → W p l e R s m args below meth c H1 locs1 0 0 Q (F0 m (pc + 3) ls rest)) : W p l e R s m args below meth c H locs 0 0 Q (F0 m pc ls (.int (y) :: .ref (B + k) :: rest)) :=
  x_put (ty := .int) CX hM (y) y (kdl hk rfl) (ly3 hk _) in_X3 tyX3 tyX3_ok nmX3 rfl 3 (by decide) hlink rfl rfl rfl rfl (show 3 < 18 by decide) (by rw [ly3 hk]; rfl) hdg kk
theorem p3_4 {y : Int32} (CX : xCX p m c cc nL s args x0 own E B 160) (hM : xS E B 160 (layX E B) s σ H locs) (hk : kd k = 3) (hlink : Cond.fieldLink own index "ThermostatColony$Room" "heat" "I" ∈ AL) (hdg : decode cc pc = .ok (.putfield index, 3)) (kk : ∀ (H1 : Heap) (locs1 : List Loc) (σ1 : xM), σ1 = xup σ k 4 y → xS E B 160 (layX E B) s σ1 H1 locs1 → W p l e R s m args below meth c H1 locs1 0 0 Q (F0 m (pc + 3) ls rest)) : W p l e R s m args below meth c H locs 0 0 Q (F0 m pc ls (.int (y) :: .ref (B + k) :: rest)) :=
  x_put (ty := .int) CX hM (y) y (kdl hk rfl) (ly3 hk _) in_X3 tyX3 tyX3_ok nmX3 rfl 4 (by decide) hlink rfl rfl rfl rfl (show 4 < 18 by decide) (by rw [ly3 hk]; rfl) hdg kk
theorem p3_5 {y : Int32} (CX : xCX p m c cc nL s args x0 own E B 160) (hM : xS E B 160 (layX E B) s σ H locs) (hk : kd k = 3) (hlink : Cond.fieldLink own index "ThermostatColony$Room" "point" "I" ∈ AL) (hdg : decode cc pc = .ok (.putfield index, 3)) (kk : ∀ (H1 : Heap) (locs1 : List Loc) (σ1 : xM), σ1 = xup σ k 5 y → xS E B 160 (layX E B) s σ1 H1 locs1 → W p l e R s m args below meth c H1 locs1 0 0 Q (F0 m (pc + 3) ls rest)) : W p l e R s m args below meth c H locs 0 0 Q (F0 m pc ls (.int (y) :: .ref (B + k) :: rest)) :=
  x_put (ty := .int) CX hM (y) y (kdl hk rfl) (ly3 hk _) in_X3 tyX3 tyX3_ok nmX3 rfl 5 (by decide) hlink rfl rfl rfl rfl (show 5 < 18 by decide) (by rw [ly3 hk]; rfl) hdg kk
theorem p3_6 {y : Int32} (CX : xCX p m c cc nL s args x0 own E B 160) (hM : xS E B 160 (layX E B) s σ H locs) (hk : kd k = 3) (hlink : Cond.fieldLink own index "ThermostatColony$Room" "band" "I" ∈ AL) (hdg : decode cc pc = .ok (.putfield index, 3)) (kk : ∀ (H1 : Heap) (locs1 : List Loc) (σ1 : xM), σ1 = xup σ k 6 y → xS E B 160 (layX E B) s σ1 H1 locs1 → W p l e R s m args below meth c H1 locs1 0 0 Q (F0 m (pc + 3) ls rest)) : W p l e R s m args below meth c H locs 0 0 Q (F0 m pc ls (.int (y) :: .ref (B + k) :: rest)) :=
  x_put (ty := .int) CX hM (y) y (kdl hk rfl) (ly3 hk _) in_X3 tyX3 tyX3_ok nmX3 rfl 6 (by decide) hlink rfl rfl rfl rfl (show 6 < 18 by decide) (by rw [ly3 hk]; rfl) hdg kk
theorem p3_7 {y : Int32} (CX : xCX p m c cc nL s args x0 own E B 160) (hM : xS E B 160 (layX E B) s σ H locs) (hk : kd k = 3) (hlink : Cond.fieldLink own index "ThermostatColony$Room" "blade" "I" ∈ AL) (hdg : decode cc pc = .ok (.putfield index, 3)) (kk : ∀ (H1 : Heap) (locs1 : List Loc) (σ1 : xM), σ1 = xup σ k 7 y → xS E B 160 (layX E B) s σ1 H1 locs1 → W p l e R s m args below meth c H1 locs1 0 0 Q (F0 m (pc + 3) ls rest)) : W p l e R s m args below meth c H locs 0 0 Q (F0 m pc ls (.int (y) :: .ref (B + k) :: rest)) :=
  x_put (ty := .int) CX hM (y) y (kdl hk rfl) (ly3 hk _) in_X3 tyX3 tyX3_ok nmX3 rfl 7 (by decide) hlink rfl rfl rfl rfl (show 7 < 18 by decide) (by rw [ly3 hk]; rfl) hdg kk
theorem p3_8 {y : Int32} (CX : xCX p m c cc nL s args x0 own E B 160) (hM : xS E B 160 (layX E B) s σ H locs) (hk : kd k = 3) (hlink : Cond.fieldLink own index "ThermostatColony$Room" "closed" "Z" ∈ AL) (hdg : decode cc pc = .ok (.putfield index, 3)) (kk : ∀ (H1 : Heap) (locs1 : List Loc) (σ1 : xM), σ1 = xup σ k 8 y → xS E B 160 (layX E B) s σ1 H1 locs1 → W p l e R s m args below meth c H1 locs1 0 0 Q (F0 m (pc + 3) ls rest)) : W p l e R s m args below meth c H locs 0 0 Q (F0 m pc ls (.int (bz y) :: .ref (B + k) :: rest)) :=
  x_put (ty := .boolean) CX hM (bz y) y (kdl hk rfl) (ly3 hk _) in_X3 tyX3 tyX3_ok nmX3 rfl 8 (by decide) hlink rfl rfl (bz_nar y) (bz_fit y) (show 8 < 18 by decide) (by rw [ly3 hk]; rfl) hdg kk
theorem p3_9 {y : Int32} (CX : xCX p m c cc nL s args x0 own E B 160) (hM : xS E B 160 (layX E B) s σ H locs) (hk : kd k = 3) (hlink : Cond.fieldLink own index "ThermostatColony$Room" "welded" "Z" ∈ AL) (hdg : decode cc pc = .ok (.putfield index, 3)) (kk : ∀ (H1 : Heap) (locs1 : List Loc) (σ1 : xM), σ1 = xup σ k 9 y → xS E B 160 (layX E B) s σ1 H1 locs1 → W p l e R s m args below meth c H1 locs1 0 0 Q (F0 m (pc + 3) ls rest)) : W p l e R s m args below meth c H locs 0 0 Q (F0 m pc ls (.int (bz y) :: .ref (B + k) :: rest)) :=
  x_put (ty := .boolean) CX hM (bz y) y (kdl hk rfl) (ly3 hk _) in_X3 tyX3 tyX3_ok nmX3 rfl 9 (by decide) hlink rfl rfl (bz_nar y) (bz_fit y) (show 9 < 18 by decide) (by rw [ly3 hk]; rfl) hdg kk
theorem p3_10 {y : Int32} (CX : xCX p m c cc nL s args x0 own E B 160) (hM : xS E B 160 (layX E B) s σ H locs) (hk : kd k = 3) (hlink : Cond.fieldLink own index "ThermostatColony$Room" "tripped" "Z" ∈ AL) (hdg : decode cc pc = .ok (.putfield index, 3)) (kk : ∀ (H1 : Heap) (locs1 : List Loc) (σ1 : xM), σ1 = xup σ k 10 y → xS E B 160 (layX E B) s σ1 H1 locs1 → W p l e R s m args below meth c H1 locs1 0 0 Q (F0 m (pc + 3) ls rest)) : W p l e R s m args below meth c H locs 0 0 Q (F0 m pc ls (.int (bz y) :: .ref (B + k) :: rest)) :=
  x_put (ty := .boolean) CX hM (bz y) y (kdl hk rfl) (ly3 hk _) in_X3 tyX3 tyX3_ok nmX3 rfl 10 (by decide) hlink rfl rfl (bz_nar y) (bz_fit y) (show 10 < 18 by decide) (by rw [ly3 hk]; rfl) hdg kk
theorem p3_11 {y : Int32} (CX : xCX p m c cc nL s args x0 own E B 160) (hM : xS E B 160 (layX E B) s σ H locs) (hk : kd k = 3) (hlink : Cond.fieldLink own index "ThermostatColony$Room" "wear" "I" ∈ AL) (hdg : decode cc pc = .ok (.putfield index, 3)) (kk : ∀ (H1 : Heap) (locs1 : List Loc) (σ1 : xM), σ1 = xup σ k 11 y → xS E B 160 (layX E B) s σ1 H1 locs1 → W p l e R s m args below meth c H1 locs1 0 0 Q (F0 m (pc + 3) ls rest)) : W p l e R s m args below meth c H locs 0 0 Q (F0 m pc ls (.int (y) :: .ref (B + k) :: rest)) :=
  x_put (ty := .int) CX hM (y) y (kdl hk rfl) (ly3 hk _) in_X3 tyX3 tyX3_ok nmX3 rfl 11 (by decide) hlink rfl rfl rfl rfl (show 11 < 18 by decide) (by rw [ly3 hk]; rfl) hdg kk
theorem p3_12 {y : Int32} (CX : xCX p m c cc nL s args x0 own E B 160) (hM : xS E B 160 (layX E B) s σ H locs) (hk : kd k = 3) (hlink : Cond.fieldLink own index "ThermostatColony$Room" "attempts" "I" ∈ AL) (hdg : decode cc pc = .ok (.putfield index, 3)) (kk : ∀ (H1 : Heap) (locs1 : List Loc) (σ1 : xM), σ1 = xup σ k 12 y → xS E B 160 (layX E B) s σ1 H1 locs1 → W p l e R s m args below meth c H1 locs1 0 0 Q (F0 m (pc + 3) ls rest)) : W p l e R s m args below meth c H locs 0 0 Q (F0 m pc ls (.int (y) :: .ref (B + k) :: rest)) :=
  x_put (ty := .int) CX hM (y) y (kdl hk rfl) (ly3 hk _) in_X3 tyX3 tyX3_ok nmX3 rfl 12 (by decide) hlink rfl rfl rfl rfl (show 12 < 18 by decide) (by rw [ly3 hk]; rfl) hdg kk
theorem p3_13 {y : Int32} (CX : xCX p m c cc nL s args x0 own E B 160) (hM : xS E B 160 (layX E B) s σ H locs) (hk : kd k = 3) (hlink : Cond.fieldLink own index "ThermostatColony$Room" "closings" "I" ∈ AL) (hdg : decode cc pc = .ok (.putfield index, 3)) (kk : ∀ (H1 : Heap) (locs1 : List Loc) (σ1 : xM), σ1 = xup σ k 13 y → xS E B 160 (layX E B) s σ1 H1 locs1 → W p l e R s m args below meth c H1 locs1 0 0 Q (F0 m (pc + 3) ls rest)) : W p l e R s m args below meth c H locs 0 0 Q (F0 m pc ls (.int (y) :: .ref (B + k) :: rest)) :=
  x_put (ty := .int) CX hM (y) y (kdl hk rfl) (ly3 hk _) in_X3 tyX3 tyX3_ok nmX3 rfl 13 (by decide) hlink rfl rfl rfl rfl (show 13 < 18 by decide) (by rw [ly3 hk]; rfl) hdg kk
theorem p3_14 {y : Int32} (CX : xCX p m c cc nL s args x0 own E B 160) (hM : xS E B 160 (layX E B) s σ H locs) (hk : kd k = 3) (hlink : Cond.fieldLink own index "ThermostatColony$Room" "latestClosing" "I" ∈ AL) (hdg : decode cc pc = .ok (.putfield index, 3)) (kk : ∀ (H1 : Heap) (locs1 : List Loc) (σ1 : xM), σ1 = xup σ k 14 y → xS E B 160 (layX E B) s σ1 H1 locs1 → W p l e R s m args below meth c H1 locs1 0 0 Q (F0 m (pc + 3) ls rest)) : W p l e R s m args below meth c H locs 0 0 Q (F0 m pc ls (.int (y) :: .ref (B + k) :: rest)) :=
  x_put (ty := .int) CX hM (y) y (kdl hk rfl) (ly3 hk _) in_X3 tyX3 tyX3_ok nmX3 rfl 14 (by decide) hlink rfl rfl rfl rfl (show 14 < 18 by decide) (by rw [ly3 hk]; rfl) hdg kk
theorem p3_15 {y : Int32} (CX : xCX p m c cc nL s args x0 own E B 160) (hM : xS E B 160 (layX E B) s σ H locs) (hk : kd k = 3) (hlink : Cond.fieldLink own index "ThermostatColony$Room" "fines" "I" ∈ AL) (hdg : decode cc pc = .ok (.putfield index, 3)) (kk : ∀ (H1 : Heap) (locs1 : List Loc) (σ1 : xM), σ1 = xup σ k 15 y → xS E B 160 (layX E B) s σ1 H1 locs1 → W p l e R s m args below meth c H1 locs1 0 0 Q (F0 m (pc + 3) ls rest)) : W p l e R s m args below meth c H locs 0 0 Q (F0 m pc ls (.int (y) :: .ref (B + k) :: rest)) :=
  x_put (ty := .int) CX hM (y) y (kdl hk rfl) (ly3 hk _) in_X3 tyX3 tyX3_ok nmX3 rfl 15 (by decide) hlink rfl rfl rfl rfl (show 15 < 18 by decide) (by rw [ly3 hk]; rfl) hdg kk
theorem p3_16 {y : Int32} (CX : xCX p m c cc nL s args x0 own E B 160) (hM : xS E B 160 (layX E B) s σ H locs) (hk : kd k = 3) (hlink : Cond.fieldLink own index "ThermostatColony$Room" "suspectMinutes" "I" ∈ AL) (hdg : decode cc pc = .ok (.putfield index, 3)) (kk : ∀ (H1 : Heap) (locs1 : List Loc) (σ1 : xM), σ1 = xup σ k 16 y → xS E B 160 (layX E B) s σ1 H1 locs1 → W p l e R s m args below meth c H1 locs1 0 0 Q (F0 m (pc + 3) ls rest)) : W p l e R s m args below meth c H locs 0 0 Q (F0 m pc ls (.int (y) :: .ref (B + k) :: rest)) :=
  x_put (ty := .int) CX hM (y) y (kdl hk rfl) (ly3 hk _) in_X3 tyX3 tyX3_ok nmX3 rfl 16 (by decide) hlink rfl rfl rfl rfl (show 16 < 18 by decide) (by rw [ly3 hk]; rfl) hdg kk
theorem p3_17 {y : Int32} (CX : xCX p m c cc nL s args x0 own E B 160) (hM : xS E B 160 (layX E B) s σ H locs) (hk : kd k = 3) (hlink : Cond.fieldLink own index "ThermostatColony$Room" "minuteTemperature" "I" ∈ AL) (hdg : decode cc pc = .ok (.putfield index, 3)) (kk : ∀ (H1 : Heap) (locs1 : List Loc) (σ1 : xM), σ1 = xup σ k 17 y → xS E B 160 (layX E B) s σ1 H1 locs1 → W p l e R s m args below meth c H1 locs1 0 0 Q (F0 m (pc + 3) ls rest)) : W p l e R s m args below meth c H locs 0 0 Q (F0 m pc ls (.int (y) :: .ref (B + k) :: rest)) :=
  x_put (ty := .int) CX hM (y) y (kdl hk rfl) (ly3 hk _) in_X3 tyX3 tyX3_ok nmX3 rfl 17 (by decide) hlink rfl rfl rfl rfl (show 17 < 18 by decide) (by rw [ly3 hk]; rfl) hdg kk
theorem p4_2 {y : Int32} (CX : xCX p m c cc nL s args x0 own E B 160) (hM : xS E B 160 (layX E B) s σ H locs) (hk : kd k = 4) (hlink : Cond.fieldLink own index "ThermostatColony$Weather" "size" "I" ∈ AL) (hdg : decode cc pc = .ok (.putfield index, 3)) (kk : ∀ (H1 : Heap) (locs1 : List Loc) (σ1 : xM), σ1 = xup σ k 2 y → xS E B 160 (layX E B) s σ1 H1 locs1 → W p l e R s m args below meth c H1 locs1 0 0 Q (F0 m (pc + 3) ls rest)) : W p l e R s m args below meth c H locs 0 0 Q (F0 m pc ls (.int (y) :: .ref (B + k) :: rest)) :=
  x_put (ty := .int) CX hM (y) y (kdl hk rfl) (ly4 hk _) in_X4 tyX4 tyX4_ok nmX4 rfl 2 (by decide) hlink rfl rfl rfl rfl (show 2 < 3 by decide) (by rw [ly4 hk]; rfl) hdg kk
end WRAP
theorem lsw_out {x : Int32} {d : Int} (cs : List Int32) (ps : List (Int × Int)) (hcs : ps.map (fun q => q.1) = cs.map Int32.toInt) (h : ∀ c ∈ cs, ¬ x = c) : Op.lookupswitch.offset ps d x.toInt = d := by
  refine Op.lookupswitch.offset_none ?_
  rw [List.find?_eq_none]
  intro q hq
  have h1 : q.1 ∈ cs.map Int32.toInt := by rw [← hcs]; exact List.mem_map.mpr ⟨q, hq, rfl⟩
  obtain ⟨c, hc, e⟩ := List.mem_map.mp h1
  intro hx
  exact h c hc (Int32.toInt_inj.mp ((eq_of_beq hx).symm.trans e.symm))
end
section
noncomputable section
def F_X0_begin (k : Nat) (x1 : Int32) (σ : xM) : Option (Unit × xM) :=
  nm (xup σ k 0 x1) (fun σ1 =>
  nm (xup σ1 k 1 0) (fun σ2 =>
  nm (xup σ2 k 2 0) (fun σ3 =>
  nm (xup σ3 k 3 0) (fun σ4 =>
  nm (xup σ4 k 4 0) (fun σ5 =>
  some ((), σ5))))))
def F_X0_copyFrom (k : Nat) (r1 : Nat) (σ : xM) : Option (Unit × xM) :=
  nm (xup σ k 0 (σ r1 0)) (fun σ1 =>
  nm (xup σ1 k 1 (σ1 r1 1)) (fun σ2 =>
  nm (xup σ2 k 2 (σ2 r1 2)) (fun σ3 =>
  nm (xup σ3 k 3 (σ3 r1 3)) (fun σ4 =>
  nm (xup σ4 k 4 (σ4 r1 4)) (fun σ5 =>
  some ((), σ5))))))
def F_X0_sum (k : Nat) (x1 : Int32) (σ : xM) : Option (Int32 × xM) :=
  if x1 = 0 then
  some ((σ k 0), σ)
  else if x1 = 1 then
  some ((σ k 1), σ)
  else if x1 = 2 then
  some ((σ k 2), σ)
  else if x1 = 3 then
  some ((σ k 3), σ)
  else if x1 = 4 then
  some ((σ k 4), σ)
  else 
  some ((-1000001), σ)
def F_X4_copyFrom (k : Nat) (r1 : Nat) (σ : xM) : Option (Unit × xM) :=
  nm (xcp σ (r1 + 1) (k + 1) 12) (fun σ1 =>
  nm (xcp σ1 (r1 + 2) (k + 2) 12) (fun σ2 =>
  nm (xup σ2 k 2 (σ2 r1 2)) (fun σ3 =>
  some ((), σ3))))
def F_X1_roomAt (k : Nat) (x1 : Int32) (σ : xM) : Option (Option Nat × xM) :=
  if x1 < 0 then
  some (none, σ)
  else
  if (σ k 4) ≤ x1 then
  some (none, σ)
  else
  if 6 ≤ x1 then
  some (none, σ)
  else
  if inb x1 6 then
  some (some ((k + 2) + 5 + 2 * Int32.toNatClampNeg x1), σ)
  else none
def F_X3_copyFrom (k : Nat) (r1 : Nat) (σ : xM) : Option (Unit × xM) :=
  (F_X0_copyFrom (k + 1) (r1 + 1) σ).bind (fun q1 =>
  nm (xup q1.2 k 1 (q1.2 r1 1)) (fun σ2 =>
  nm (xup σ2 k 2 (σ2 r1 2)) (fun σ3 =>
  nm (xup σ3 k 3 (σ3 r1 3)) (fun σ4 =>
  nm (xup σ4 k 4 (σ4 r1 4)) (fun σ5 =>
  nm (xup σ5 k 5 (σ5 r1 5)) (fun σ6 =>
  nm (xup σ6 k 6 (σ6 r1 6)) (fun σ7 =>
  nm (xup σ7 k 7 (σ7 r1 7)) (fun σ8 =>
  nm (xup σ8 k 8 (σ8 r1 8)) (fun σ9 =>
  nm (xup σ9 k 9 (σ9 r1 9)) (fun σ10 =>
  nm (xup σ10 k 10 (σ10 r1 10)) (fun σ11 =>
  nm (xup σ11 k 11 (σ11 r1 11)) (fun σ12 =>
  nm (xup σ12 k 12 (σ12 r1 12)) (fun σ13 =>
  nm (xup σ13 k 13 (σ13 r1 13)) (fun σ14 =>
  nm (xup σ14 k 14 (σ14 r1 14)) (fun σ15 =>
  nm (xup σ15 k 15 (σ15 r1 15)) (fun σ16 =>
  nm (xup σ16 k 16 (σ16 r1 16)) (fun σ17 =>
  nm (xup σ17 k 17 (σ17 r1 17)) (fun σ18 =>
  some ((), σ18)))))))))))))))))))
def F_X1_copyFrom_L59 (k : Nat) (r1 : Nat) : Nat → Int32 → xM → Option (Unit × xM)
  | 0, _, _ => none
  | N + 1, v2, σ =>
    if (σ k 4) ≤ v2 then
    some ((), σ)
    else
    (F_X1_roomAt k v2 σ).bind (fun q7 =>
    oc q7.1 (
    (F_X1_roomAt r1 v2 q7.2).bind (fun q9 =>
    oc q9.1 (
    F_X1_copyFrom_L59 k r1 N (v2 + 1) q9.2)
    (fun r10 =>
    if kd r10 = 3 then
    F_X1_copyFrom_L59 k r1 N (v2 + 1) q9.2
    else none)))
    (fun r8 =>
    if kd r8 = 3 then
    (F_X1_roomAt r1 v2 q7.2).bind (fun q11 =>
    oc q11.1 (
    F_X1_copyFrom_L59 k r1 N (v2 + 1) q11.2)
    (fun r12 =>
    if kd r12 = 3 then
    (F_X3_copyFrom r8 r12 q11.2).bind (fun q13 =>
    F_X1_copyFrom_L59 k r1 N (v2 + 1) q13.2)
    else none))
    else none))
def F_X1_copyFrom (k : Nat) (r1 : Nat) (σ : xM) : Option (Unit × xM) :=
  nm (xcp σ (r1 + 1) (k + 1) 7) (fun σ1 =>
  nm (xcp σ1 (r1 + 3) (k + 3) 36) (fun σ2 =>
  (F_X4_copyFrom (k + 4) (r1 + 4) σ2).bind (fun q3 =>
  nm (xup q3.2 k 4 (q3.2 r1 4)) (fun σ4 =>
  nm (xup σ4 k 5 (σ4 r1 5)) (fun σ5 =>
  F_X1_copyFrom_L59 k r1 FU 0 σ5)))))
def F_X1_number (k : Nat) (x1 : Int32) (σ : xM) : Option (Int32 × xM) :=
  if x1 < 0 then
  some (0, σ)
  else
  if 7 ≤ x1 then
  some (0, σ)
  else
  if inb x1 7 then
  some ((σ (k + 1) (Int32.toNatClampNeg x1)), σ)
  else none
def F_X1_putNumber (k : Nat) (x1 : Int32) (x2 : Int32) (σ : xM) : Option (Unit × xM) :=
  if x1 < 0 then
  some ((), σ)
  else
  if 7 ≤ x1 then
  some ((), σ)
  else
  if inb x1 7 then
  nm (xup σ (k + 1) (Int32.toNatClampNeg x1) x2) (fun σ4 =>
  some ((), σ4))
  else none
def F_J9_floorDiv_7cf53 (x0 : Int32) (x1 : Int32) (σ : xM) : Option (Int32 × xM) :=
  if x1 = 0 then none else
  nm (x0 / x1) (fun x2_1 =>
  if 0 ≤ (x0 ^^^ x1) then
  some (x2_1, σ)
  else
  if (x2_1 * x1) = x0 then
  some (x2_1, σ)
  else
  some ((x2_1 - 1), σ))
def F_X3_temperatureWith (k : Nat) (x1 : Int32) (σ : xM) : Option (Int32 × xM) :=
  if (σ k 1) ≤ 0 then
  some (0, σ)
  else
  (F_J9_floorDiv_7cf53 (1000 * x1) (σ k 1) σ).bind (fun q2 =>
  some (q2.1, q2.2))
def F_X3_temperature (k : Nat) (σ : xM) : Option (Int32 × xM) :=
  (F_X3_temperatureWith k (σ k 4) σ).bind (fun q1 =>
  some (q1.1, q1.2))
def F_X3_begin (k : Nat) (x1 : Int32) (x2 : Int32) (x3 : Int32) (x4 : Int32) (σ : xM) : Option (Unit × xM) :=
  nm (xup σ k 1 x1) (fun σ1 =>
  nm (xup σ1 k 2 x2) (fun σ2 =>
  nm (xup σ2 k 3 x3) (fun σ3 =>
  nm (xup σ3 k 4 (x1 * x4)) (fun σ4 =>
  nm (xup σ4 k 5 20000) (fun σ5 =>
  nm (xup σ5 k 6 1000) (fun σ6 =>
  (F_X3_temperature k σ6).bind (fun q7 =>
  nm (xup q7.2 k 7 q7.1) (fun σ8 =>
  nm (xup σ8 k 8 0) (fun σ9 =>
  nm (xup σ9 k 9 0) (fun σ10 =>
  nm (xup σ10 k 10 0) (fun σ11 =>
  nm (xup σ11 k 11 0) (fun σ12 =>
  nm (xup σ12 k 12 0) (fun σ13 =>
  nm (xup σ13 k 13 0) (fun σ14 =>
  nm (xup σ14 k 14 (-1000009)) (fun σ15 =>
  nm (xup σ15 k 15 0) (fun σ16 =>
  nm (xup σ16 k 16 0) (fun σ17 =>
  nm (xup σ17 k 17 0) (fun σ18 =>
  (F_X0_begin (k + 1) (σ18 k 4) σ18).bind (fun q19 =>
  some ((), q19.2))))))))))))))))))))
def F_X1_beginRoom (k : Nat) (x1 : Int32) (x2 : Int32) (x3 : Int32) (x4 : Int32) (σ : xM) : Option (Int32 × xM) :=
  nm (σ k 4) (fun x5_1 =>
  nm (xup σ k 4 ((σ k 4) + 1)) (fun σ2 =>
  (F_X1_roomAt k x5_1 σ2).bind (fun q3 =>
  oc q3.1 (
  some (x5_1, q3.2))
  (fun r4 =>
  if kd r4 = 3 then
  (F_X3_begin r4 x1 x2 x3 x4 q3.2).bind (fun q5 =>
  some (x5_1, q5.2))
  else none))))
def F_X1_hasPair (k : Nat) (x1 : Int32) (x2 : Int32) (σ : xM) : Option (Int32 × xM) :=
  if x1 = x2 then
  some (0, σ)
  else
  (F_X1_roomAt k x1 σ).bind (fun q2 =>
  oc q2.1 (
  some (0, q2.2))
  (fun r3 =>
  if kd r3 = 3 then
  (F_X1_roomAt k x2 q2.2).bind (fun q4 =>
  oc q4.1 (
  some (0, q4.2))
  (fun r5 =>
  if kd r5 = 3 then
  some (1, q4.2)
  else none))
  else none))
def F_X1_linkPlace (x0 : Int32) (x1 : Int32) (σ : xM) : Option (Int32 × xM) :=
  some (((x0 * 6) + x1), σ)
def F_X1_linkOf (k : Nat) (x1 : Int32) (x2 : Int32) (σ : xM) : Option (Int32 × xM) :=
  (F_X1_linkPlace x1 x2 σ).bind (fun q1 =>
  if q1.1 < 0 then
  some (0, q1.2)
  else
  if 36 ≤ q1.1 then
  some (0, q1.2)
  else
  if inb q1.1 36 then
  some ((q1.2 (k + 3) (Int32.toNatClampNeg q1.1)), q1.2)
  else none)
def F_X1_putLinkAt (k : Nat) (x1 : Int32) (x2 : Int32) (σ : xM) : Option (Unit × xM) :=
  if x1 < 0 then
  some ((), σ)
  else
  if 36 ≤ x1 then
  some ((), σ)
  else
  if inb x1 36 then
  nm (xup σ (k + 3) (Int32.toNatClampNeg x1) x2) (fun σ4 =>
  some ((), σ4))
  else none
def F_X1_putLink (k : Nat) (x1 : Int32) (x2 : Int32) (x3 : Int32) (σ : xM) : Option (Unit × xM) :=
  (F_X1_linkPlace x1 x2 σ).bind (fun q1 =>
  (F_X1_putLinkAt k q1.1 x3 q1.2).bind (fun q2 =>
  (F_X1_linkPlace x2 x1 q2.2).bind (fun q3 =>
  (F_X1_putLinkAt k q3.1 x3 q3.2).bind (fun q4 =>
  some ((), q4.2)))))
def F_X1_canCarry_L23 (k : Nat) : Nat → Int32 → Nat → Int32 → Int32 → xM → Option (Int32 × xM)
  | 0, _, _, _, _, _ => none
  | N + 1, v1, u3, v4, v5, σ =>
    if (σ k 4) ≤ v5 then
    if ((σ u3 1) / 2) < v4 then
    some (0, σ)
    else
    some (1, σ)
    else
    (F_X1_linkOf k v1 v5 σ).bind (fun q6 =>
    nm (v4 + q6.1) (fun x4_7 =>
    F_X1_canCarry_L23 k N v1 u3 x4_7 (v5 + 1) q6.2))
def F_X1_canCarry (k : Nat) (x1 : Int32) (x2 : Int32) (σ : xM) : Option (Int32 × xM) :=
  (F_X1_roomAt k x1 σ).bind (fun q1 =>
  oc q1.1 (
  some (0, q1.2))
  (fun r2 =>
  if kd r2 = 3 then
  nm ((q1.2 r2 3) + x2) (fun x4_3 =>
  F_X1_canCarry_L23 k FU x1 r2 x4_3 0 q1.2)
  else none))
def F_X1_isSuspect (k : Nat) (r1 : Nat) (σ : xM) : Option (Int32 × xM) :=
  (F_X1_number k 6 σ).bind (fun q1 =>
  if (σ r1 16) < q1.1 then
  some (0, q1.2)
  else
  some (1, q1.2))
def F_X1_suspectRooms_L4 (k : Nat) : Nat → Int32 → Int32 → xM → Option (Int32 × xM)
  | 0, _, _, _ => none
  | N + 1, v1, v2, σ =>
    if (σ k 4) ≤ v2 then
    some (v1, σ)
    else
    (F_X1_roomAt k v2 σ).bind (fun q2 =>
    oc q2.1 (
    nm (v1 + 0) (fun x1_4 =>
    F_X1_suspectRooms_L4 k N x1_4 (v2 + 1) q2.2))
    (fun r3 =>
    if kd r3 = 3 then
    (F_X1_isSuspect k r3 q2.2).bind (fun q5 =>
    if (bz q5.1) = 0 then
    nm (v1 + 0) (fun x1_7 =>
    F_X1_suspectRooms_L4 k N x1_7 (v2 + 1) q5.2)
    else
    nm (v1 + 1) (fun x1_8 =>
    F_X1_suspectRooms_L4 k N x1_8 (v2 + 1) q5.2))
    else none))
def F_X1_suspectRooms (k : Nat) (σ : xM) : Option (Int32 × xM) :=
  F_X1_suspectRooms_L4 k FU 0 0 σ
def F_X1_allFines_L4 (k : Nat) : Nat → Int32 → Int32 → xM → Option (Int32 × xM)
  | 0, _, _, _ => none
  | N + 1, v1, v2, σ =>
    if (σ k 4) ≤ v2 then
    some (v1, σ)
    else
    (F_X1_roomAt k v2 σ).bind (fun q2 =>
    oc q2.1 (
    nm (v1 + 0) (fun x1_4 =>
    F_X1_allFines_L4 k N x1_4 (v2 + 1) q2.2))
    (fun r3 =>
    if kd r3 = 3 then
    nm (v1 + (q2.2 r3 15)) (fun x1_5 =>
    F_X1_allFines_L4 k N x1_5 (v2 + 1) q2.2)
    else none))
def F_X1_allFines (k : Nat) (σ : xM) : Option (Int32 × xM) :=
  F_X1_allFines_L4 k FU 0 0 σ
def F_X1_heatFromHeaters_L4 (k : Nat) : Nat → Int32 → Int32 → xM → Option (Int32 × xM)
  | 0, _, _, _ => none
  | N + 1, v1, v2, σ =>
    if (σ k 4) ≤ v2 then
    some (v1, σ)
    else
    (F_X1_roomAt k v2 σ).bind (fun q2 =>
    oc q2.1 (
    nm (v1 + 0) (fun x1_4 =>
    F_X1_heatFromHeaters_L4 k N x1_4 (v2 + 1) q2.2))
    (fun r3 =>
    if kd r3 = 3 then
    nm (v1 + (q2.2 (r3 + 1) 1)) (fun x1_5 =>
    F_X1_heatFromHeaters_L4 k N x1_5 (v2 + 1) q2.2)
    else none))
def F_X1_heatFromHeaters (k : Nat) (σ : xM) : Option (Int32 × xM) :=
  F_X1_heatFromHeaters_L4 k FU 0 0 σ
def F_X4_temperatureBefore (k : Nat) (x1 : Int32) (x2 : Int32) (σ : xM) : Option (Int32 × xM) :=
  if x1 < 1 then
  some (0, σ)
  else
  if x1 < 12 then
  if inb (x1 - 1) 12 then
  nm (σ (k + 2) (Int32.toNatClampNeg (x1 - 1))) (fun x3_4 =>
  if inb x1 12 then
  if inb (x1 - 1) 12 then
  nm ((σ (k + 1) (Int32.toNatClampNeg x1)) - (σ (k + 1) (Int32.toNatClampNeg (x1 - 1)))) (fun x4_7 =>
  if inb (x1 - 1) 12 then
  nm (x2 - (σ (k + 1) (Int32.toNatClampNeg (x1 - 1)))) (fun x5_9 =>
  if x4_7 = 0 then
  some ((1000 * x3_4), σ)
  else
  if inb x1 12 then
  if x4_7 = 0 then none else
  some (((1000 * x3_4) + (((1000 * ((σ (k + 2) (Int32.toNatClampNeg x1)) - x3_4)) * x5_9) / x4_7)), σ)
  else none)
  else none)
  else none
  else none)
  else none
  else
  some (0, σ)
def F_X4_temperatureAt_L4 (k : Nat) : Nat → Int32 → Int32 → Int32 → xM → Option (Int32 × xM)
  | 0, _, _, _, _ => none
  | N + 1, v1, v2, v3, σ =>
    if (σ k 2) ≤ v3 then
    some (v2, σ)
    else
    if 12 ≤ v3 then
    some (v2, σ)
    else
    if inb v3 12 then
    if (σ (k + 1) (Int32.toNatClampNeg v3)) ≤ v1 then
    if inb v3 12 then
    nm (1000 * (σ (k + 2) (Int32.toNatClampNeg v3))) (fun x2_6 =>
    F_X4_temperatureAt_L4 k N v1 x2_6 (v3 + 1) σ)
    else none
    else
    if v3 = 0 then
    if inb 0 12 then
    some ((1000 * (σ (k + 2) (Int32.toNatClampNeg 0))), σ)
    else none
    else
    (F_X4_temperatureBefore k v3 v1 σ).bind (fun q8 =>
    some (q8.1, q8.2))
    else none
def F_X4_temperatureAt (k : Nat) (x1 : Int32) (σ : xM) : Option (Int32 × xM) :=
  F_X4_temperatureAt_L4 k FU x1 0 0 σ
def F_X3_beginMinute_J51 (k : Nat) (v1 : Int32) (σ : xM) : Option (Unit × xM) :=
  nm (((σ k 3) * ((σ k 17) - v1)) / 1000) (fun x2_4 =>
  nm (xup σ k 4 ((σ k 4) - x2_4)) (fun σ5 =>
  nm (xup σ5 (k + 1) 2 ((σ5 (k + 1) 2) + x2_4)) (fun σ6 =>
  some ((), σ6))))
def F_X3_beginMinute (k : Nat) (x1 : Int32) (σ : xM) : Option (Unit × xM) :=
  (F_X3_temperature k σ).bind (fun q1 =>
  nm (xup q1.2 k 17 q1.1) (fun σ2 =>
  if (bz (σ2 k 8)) = 0 then
  F_X3_beginMinute_J51 k x1 σ2
  else
  if (bz (σ2 k 10)) = 0 then
  nm (xup σ2 k 4 ((σ2 k 4) + (σ2 k 2))) (fun σ8 =>
  nm (xup σ8 (k + 1) 1 ((σ8 (k + 1) 1) + (σ8 k 2))) (fun σ9 =>
  F_X3_beginMinute_J51 k x1 σ9))
  else
  F_X3_beginMinute_J51 k x1 σ2))
def F_X1_heatRooms_L14 (k : Nat) : Nat → Int32 → Int32 → xM → Option (Unit × xM)
  | 0, _, _, _ => none
  | N + 1, v1, v2, σ =>
    if (σ k 4) ≤ v2 then
    some ((), σ)
    else
    (F_X1_roomAt k v2 σ).bind (fun q3 =>
    oc q3.1 (
    F_X1_heatRooms_L14 k N v1 (v2 + 1) q3.2)
    (fun r4 =>
    if kd r4 = 3 then
    (F_X3_beginMinute r4 v1 q3.2).bind (fun q5 =>
    F_X1_heatRooms_L14 k N v1 (v2 + 1) q5.2)
    else none))
def F_X1_heatRooms (k : Nat) (σ : xM) : Option (Unit × xM) :=
  (F_X4_temperatureAt (k + 4) (σ k 5) σ).bind (fun q1 =>
  F_X1_heatRooms_L14 k FU q1.1 0 q1.2)
def F_X3_giveToOthers (k : Nat) (x1 : Int32) (σ : xM) : Option (Unit × xM) :=
  nm (xup σ k 4 ((σ k 4) - x1)) (fun σ1 =>
  nm (xup σ1 (k + 1) 3 ((σ1 (k + 1) 3) + x1)) (fun σ2 =>
  some ((), σ2)))
def F_X1_exchangeHeat_LL (k : Nat) : Nat → Nat → Int32 → Int32 → xM → Option (Unit × xM)
  | 0, _, _, _, _ => none
  | N + 1, t, v1, v2, σ =>
  if t = 2 then
    if (σ k 4) ≤ v1 then
    some ((), σ)
    else
    nm (v1 + 1) (fun x2_2 =>
    F_X1_exchangeHeat_LL k N 14 v1 x2_2 σ)
  else
    if (σ k 4) ≤ v2 then
    F_X1_exchangeHeat_LL k N 2 (v1 + 1) 0 σ
    else
    (F_X1_roomAt k v1 σ).bind (fun q4 =>
    oc q4.1 (
    (F_X1_roomAt k v2 q4.2).bind (fun q6 =>
    oc q6.1 (
    F_X1_exchangeHeat_LL k N 14 v1 (v2 + 1) q6.2)
    (fun r7 =>
    if kd r7 = 3 then
    F_X1_exchangeHeat_LL k N 14 v1 (v2 + 1) q6.2
    else none)))
    (fun r5 =>
    if kd r5 = 3 then
    (F_X1_roomAt k v2 q4.2).bind (fun q8 =>
    oc q8.1 (
    F_X1_exchangeHeat_LL k N 14 v1 (v2 + 1) q8.2)
    (fun r9 =>
    if kd r9 = 3 then
    nm ((q8.2 r5 17) - (q8.2 r9 17)) (fun x5_10 =>
    (F_X1_linkOf k v1 v2 q8.2).bind (fun q11 =>
    nm ((q11.1 * x5_10) / 1000) (fun x6_12 =>
    (F_X3_giveToOthers r5 x6_12 q11.2).bind (fun q13 =>
    (F_X3_giveToOthers r9 (-x6_12) q13.2).bind (fun q14 =>
    F_X1_exchangeHeat_LL k N 14 v1 (v2 + 1) q14.2)))))
    else none))
    else none))
def F_X1_exchangeHeat (k : Nat) (σ : xM) : Option (Unit × xM) :=
  F_X1_exchangeHeat_LL k FU 2 0 0 σ
def F_X3_isBladeCold (k : Nat) (σ : xM) : Option (Int32 × xM) :=
  if ((σ k 5) - (σ k 6)) < (σ k 7) then
  some (0, σ)
  else
  some (1, σ)
def F_X1_close_J38 (k : Nat) (r1 : Nat)  (σ : xM) : Option (Unit × xM) :=
  nm (xup σ r1 8 1) (fun σ2 =>
  nm (xup σ2 r1 13 ((σ2 r1 13) + 1)) (fun σ3 =>
  nm (xup σ3 r1 14 (σ3 k 5)) (fun σ4 =>
  nm (xup σ4 r1 11 ((σ4 r1 11) + (σ4 r1 2))) (fun σ5 =>
  (F_X1_number k 1 σ5).bind (fun q6 =>
  if (σ5 r1 11) < q6.1 then
  some ((), q6.2)
  else
  nm (xup q6.2 r1 9 1) (fun σ8 =>
  some ((), σ8)))))))
def F_X1_close (k : Nat) (r1 : Nat) (σ : xM) : Option (Unit × xM) :=
  if (σ r1 13) ≤ 0 then
  F_X1_close_J38 k r1  σ
  else
  (F_X1_number k 3 σ).bind (fun q9 =>
  if q9.1 ≤ ((σ k 5) - (σ r1 14)) then
  F_X1_close_J38 k r1  q9.2
  else
  (F_X1_number k 4 q9.2).bind (fun q11 =>
  nm (xup q11.2 r1 15 ((q9.2 r1 15) + q11.1)) (fun σ12 =>
  F_X1_close_J38 k r1  σ12)))
def F_X3_isBladeHot (k : Nat) (σ : xM) : Option (Int32 × xM) :=
  if (σ k 7) < ((σ k 5) + (σ k 6)) then
  some (0, σ)
  else
  some (1, σ)
def F_X3_tryToOpen (k : Nat) (x1 : Int32) (σ : xM) : Option (Unit × xM) :=
  if (bz (σ k 9)) = 0 then
  nm (xup σ k 8 0) (fun σ8 =>
  some ((), σ8))
  else
  nm (xup σ k 12 ((σ k 12) + 1)) (fun σ2 =>
  if (σ2 k 12) < x1 then
  some ((), σ2)
  else
  nm (xup σ2 k 8 0) (fun σ4 =>
  nm (xup σ4 k 9 0) (fun σ5 =>
  nm (xup σ5 k 12 0) (fun σ6 =>
  nm (xup σ6 k 11 ((σ6 k 11) / 2)) (fun σ7 =>
  some ((), σ7))))))
def F_X1_settle_J118 (r1 : Nat) (v2 : Int32) (y0 : Int32) (σ : xM) : Option (Int32 × xM) :=
  nm (xup σ r1 16 y0) (fun σ9 =>
  if (bz (σ9 r1 8)) = v2 then
  some (0, σ9)
  else
  some (1, σ9))
def F_X1_settle_J117 (r1 : Nat) (v2 : Int32) (σ : xM) : Option (Int32 × xM) :=
  F_X1_settle_J118 r1 v2 0 σ
def F_X1_settle_J93 (r1 : Nat) (v2 : Int32) (σ : xM) : Option (Int32 × xM) :=
  if (bz (σ r1 8)) = 0 then
  F_X1_settle_J117 r1 v2 σ
  else
  (F_X3_isBladeHot r1 σ).bind (fun q11 =>
  if (bz q11.1) = 0 then
  F_X1_settle_J117 r1 v2 q11.2
  else
  F_X1_settle_J118 r1 v2 ((q11.2 r1 16) + 1) q11.2)
def F_X1_settle_J70 (k : Nat) (r1 : Nat) (v2 : Int32) (σ : xM) : Option (Int32 × xM) :=
  if (bz (σ r1 8)) = 0 then
  F_X1_settle_J93 r1 v2 σ
  else
  (F_X3_isBladeHot r1 σ).bind (fun q13 =>
  if (bz q13.1) = 0 then
  F_X1_settle_J93 r1 v2 q13.2
  else
  (F_X1_number k 2 q13.2).bind (fun q15 =>
  (F_X3_tryToOpen r1 q15.1 q15.2).bind (fun q16 =>
  F_X1_settle_J93 r1 v2 q16.2)))
def F_X1_settle_J24 (k : Nat) (r1 : Nat) (v2 : Int32) (v3 : Int32) (σ : xM) : Option (Int32 × xM) :=
  (F_X1_number k 0 σ).bind (fun q4 =>
  nm (xup q4.2 r1 7 ((σ r1 7) + (((v3 - (σ r1 7)) * q4.1) / 100))) (fun σ5 =>
  if (bz (σ5 r1 8)) = 0 then
  (F_X3_isBladeCold r1 σ5).bind (fun q17 =>
  if (bz q17.1) = 0 then
  F_X1_settle_J70 k r1 v2 q17.2
  else
  (F_X1_close k r1 q17.2).bind (fun q19 =>
  F_X1_settle_J93 r1 v2 q19.2))
  else
  F_X1_settle_J70 k r1 v2 σ5))
def F_X1_settle (k : Nat) (r1 : Nat) (σ : xM) : Option (Int32 × xM) :=
  (F_X3_temperature r1 σ).bind (fun q1 =>
  (F_X1_number k 5 q1.2).bind (fun q2 =>
  if q1.1 ≤ q2.1 then
  F_X1_settle_J24 k r1 (bz (σ r1 8)) q1.1 q2.2
  else
  nm (xup q2.2 r1 10 1) (fun σ20 =>
  F_X1_settle_J24 k r1 (bz (σ r1 8)) q1.1 σ20)))
def F_X1_passMinute_L12 (k : Nat) : Nat → Int32 → Int32 → xM → Option (Int32 × xM)
  | 0, _, _, _ => none
  | N + 1, v1, v2, σ =>
    if (σ k 4) ≤ v2 then
    nm (xup σ k 5 ((σ k 5) + 1)) (fun σ4 =>
    some (v1, σ4))
    else
    (F_X1_roomAt k v2 σ).bind (fun q5 =>
    oc q5.1 (
    F_X1_passMinute_L12 k N v1 (v2 + 1) q5.2)
    (fun r6 =>
    if kd r6 = 3 then
    (F_X1_settle k r6 q5.2).bind (fun q7 =>
    if (bz q7.1) = 0 then
    F_X1_passMinute_L12 k N v1 (v2 + 1) q7.2
    else
    F_X1_passMinute_L12 k N (v1 + 1) (v2 + 1) q7.2)
    else none))
def F_X1_passMinute (k : Nat) (σ : xM) : Option (Int32 × xM) :=
  (F_X1_heatRooms k σ).bind (fun q1 =>
  (F_X1_exchangeHeat k q1.2).bind (fun q2 =>
  F_X1_passMinute_L12 k FU 0 0 q2.2))
def F_X1_passMinutes_L4 (k : Nat) : Nat → Int32 → Int32 → Int32 → xM → Option (Int32 × xM)
  | 0, _, _, _, _ => none
  | N + 1, v1, v2, v3, σ =>
    if v1 ≤ v3 then
    some (v2, σ)
    else
    (F_X1_passMinute k σ).bind (fun q2 =>
    nm (v2 + q2.1) (fun x2_3 =>
    F_X1_passMinutes_L4 k N v1 x2_3 (v3 + 1) q2.2))
def F_X1_passMinutes (k : Nat) (x1 : Int32) (σ : xM) : Option (Int32 × xM) :=
  F_X1_passMinutes_L4 k FU x1 0 0 σ
def F_X2_stateAt (k : Nat) (x1 : Int32) (σ : xM) : Option (Option Nat × xM) :=
  if x1 < 0 then
  some (none, σ)
  else
  if 6 ≤ x1 then
  some (none, σ)
  else
  if inb x1 6 then
  some (some ((k + 1) + 1 + 19 * Int32.toNatClampNeg x1), σ)
  else none
def F_J9_min_7cf53 (x0 : Int32) (x1 : Int32) (σ : xM) : Option (Int32 × xM) :=
  if x1 < x0 then
  some (x1, σ)
  else
  some (x0, σ)
def F_X2_save (k : Nat) (r1 : Nat) (σ : xM) : Option (Unit × xM) :=
  (F_X2_stateAt k (σ k 1) σ).bind (fun q1 =>
  oc q1.1 (
  some ((), q1.2))
  (fun r2 =>
  if kd r2 = 1 then
  (F_X1_copyFrom r2 r1 q1.2).bind (fun q3 =>
  nm (xup q3.2 k 1 (((q3.2 k 1) + 1) - ((q3.2 k 1) + 1) / 6 * 6)) (fun σ4 =>
  (F_J9_min_7cf53 ((σ4 k 2) + 1) 6 σ4).bind (fun q5 =>
  nm (xup q5.2 k 2 q5.1) (fun σ6 =>
  some ((), σ6)))))
  else none))
def F_X2_restore (k : Nat) (r1 : Nat) (σ : xM) : Option (Unit × xM) :=
  nm ((((σ k 1) + 6) - 1) - (((σ k 1) + 6) - 1) / 6 * 6) (fun x2_1 =>
  (F_X2_stateAt k x2_1 σ).bind (fun q2 =>
  oc q2.1 (
  some ((), q2.2))
  (fun r3 =>
  if kd r3 = 1 then
  if (q2.2 k 2) ≤ 0 then
  some ((), q2.2)
  else
  (F_X1_copyFrom r1 r3 q2.2).bind (fun q5 =>
  nm (xup q5.2 k 1 x2_1) (fun σ6 =>
  nm (xup σ6 k 2 ((σ6 k 2) - 1)) (fun σ7 =>
  some ((), σ7))))
  else none)))
def F_X3_bringIn (k : Nat) (x1 : Int32) (σ : xM) : Option (Unit × xM) :=
  nm (xup σ k 4 ((σ k 4) + x1)) (fun σ1 =>
  nm (xup σ1 (k + 1) 4 ((σ1 (k + 1) 4) + x1)) (fun σ2 =>
  some ((), σ2)))
def F_X3_renewContact (k : Nat) (σ : xM) : Option (Unit × xM) :=
  nm (xup σ k 11 0) (fun σ1 =>
  nm (xup σ1 k 12 0) (fun σ2 =>
  nm (xup σ2 k 9 0) (fun σ3 =>
  nm (xup σ3 k 8 0) (fun σ4 =>
  some ((), σ4)))))
def F_X3_property (k : Nat) (x1 : Int32) (σ : xM) : Option (Int32 × xM) :=
  if x1 = 0 then
  (F_X3_temperature k σ).bind (fun q2 =>
  some (q2.1, q2.2))
  else if x1 = 1 then
  some ((σ k 4), σ)
  else if x1 = 2 then
  some ((σ k 7), σ)
  else if x1 = 3 then
  if (bz (σ k 8)) = 0 then
  some (0, σ)
  else
  some (1, σ)
  else if x1 = 4 then
  if (bz (σ k 9)) = 0 then
  some (0, σ)
  else
  some (1, σ)
  else if x1 = 5 then
  some ((σ k 11), σ)
  else if x1 = 6 then
  some ((σ k 12), σ)
  else if x1 = 7 then
  some ((σ k 13), σ)
  else if x1 = 8 then
  some ((σ k 15), σ)
  else if x1 = 9 then
  some ((σ k 16), σ)
  else if x1 = 10 then
  if (bz (σ k 10)) = 0 then
  some (0, σ)
  else
  some (1, σ)
  else if x1 = 11 then
  some ((σ k 14), σ)
  else if x1 = 12 then
  some ((σ k 5), σ)
  else if x1 = 13 then
  some ((σ k 6), σ)
  else 
  some ((-1000001), σ)
def F_X6_within (x0 : Int32) (x1 : Int32) (x2 : Int32) (σ : xM) : Option (Int32 × xM) :=
  if x0 < x1 then
  some (0, σ)
  else
  if x2 < x0 then
  some (0, σ)
  else
  some (1, σ)
def F_X6_addRoom (k : Nat) (x1 : Int32) (x2 : Int32) (x3 : Int32) (x4 : Int32) (σ : xM) : Option (Int32 × xM) :=
  (F_X6_within x1 10 500 σ).bind (fun q1 =>
  if (bz q1.1) = 0 then
  some ((-1000001), q1.2)
  else
  (F_X6_within x2 1 200 q1.2).bind (fun q3 =>
  if (bz q3.1) = 0 then
  some ((-1000001), q3.2)
  else
  (F_X6_within x3 0 50 q3.2).bind (fun q5 =>
  if (bz q5.1) = 0 then
  some ((-1000001), q5.2)
  else
  if (x1 / 2) < x3 then
  some ((-1000001), q5.2)
  else
  (F_X6_within x4 (-40) 40 q5.2).bind (fun q8 =>
  if (bz q8.1) = 0 then
  some ((-1000001), q8.2)
  else
  if (q8.2 (k + 1) 4) < 6 then
  (F_X2_save (k + 39) (k + 1) q8.2).bind (fun q11 =>
  (F_X1_beginRoom (k + 1) x1 x2 x3 x4 q11.2).bind (fun q12 =>
  some (q12.1, q12.2)))
  else
  some ((-1000003), q8.2)))))
def F_X6_setLink (k : Nat) (x1 : Int32) (x2 : Int32) (x3 : Int32) (σ : xM) : Option (Int32 × xM) :=
  (F_X1_hasPair (k + 1) x1 x2 σ).bind (fun q1 =>
  if (bz q1.1) = 0 then
  some ((-1000001), q1.2)
  else
  (F_X6_within x3 0 50 q1.2).bind (fun q3 =>
  if (bz q3.1) = 0 then
  some ((-1000001), q3.2)
  else
  (F_X1_linkOf (k + 1) x1 x2 q3.2).bind (fun q5 =>
  nm (x3 - q5.1) (fun x5_6 =>
  (F_X1_canCarry (k + 1) x1 x5_6 q5.2).bind (fun q7 =>
  if (bz q7.1) = 0 then
  some ((-1000002), q7.2)
  else
  (F_X1_canCarry (k + 1) x2 x5_6 q7.2).bind (fun q9 =>
  if (bz q9.1) = 0 then
  some ((-1000002), q9.2)
  else
  (F_X2_save (k + 39) (k + 1) q9.2).bind (fun q11 =>
  (F_X1_putLink (k + 1) x1 x2 x3 q11.2).bind (fun q12 =>
  some (q5.1, q12.2)))))))))
def F_X6_setThermostat_J76  (v2 : Int32) (v3 : Int32) (u4 : Nat) (y0 : Int32) (σ : xM) : Option (Int32 × xM) :=
  nm (xup σ u4 5 v2) (fun σ9 =>
  nm (xup σ9 u4 6 v3) (fun σ10 =>
  if y0 = 0 then
  some (1, σ10)
  else
  some (0, σ10)))
def F_X6_setThermostat_J75  (v2 : Int32) (v3 : Int32) (u4 : Nat) (σ : xM) : Option (Int32 × xM) :=
  F_X6_setThermostat_J76  v2 v3 u4 0 σ
def F_X6_setThermostat (k : Nat) (x1 : Int32) (x2 : Int32) (x3 : Int32) (σ : xM) : Option (Int32 × xM) :=
  (F_X1_roomAt (k + 1) x1 σ).bind (fun q1 =>
  oc q1.1 (
  some ((-1000001), q1.2))
  (fun r2 =>
  if kd r2 = 3 then
  (F_X6_within x2 5000 35000 q1.2).bind (fun q3 =>
  if (bz q3.1) = 0 then
  some ((-1000001), q3.2)
  else
  (F_X6_within x3 100 5000 q3.2).bind (fun q5 =>
  if (bz q5.1) = 0 then
  some ((-1000001), q5.2)
  else
  (F_X2_save (k + 39) (k + 1) q5.2).bind (fun q7 =>
  if (q7.2 r2 5) = x2 then
  if (q7.2 r2 6) = x3 then
  F_X6_setThermostat_J76  x2 x3 r2 1 q7.2
  else
  F_X6_setThermostat_J75  x2 x3 r2 q7.2
  else
  F_X6_setThermostat_J75  x2 x3 r2 q7.2)))
  else none))
def F_X6_isNumberInRange (x0 : Int32) (x1 : Int32) (σ : xM) : Option (Int32 × xM) :=
  if x0 < 0 then
  some (0, σ)
  else
  if 7 ≤ x0 then
  some (0, σ)
  else
  if 7 ≤ x0 then
  some (0, σ)
  else
  if inb x0 7 then
  if inb x0 7 then
  (F_X6_within x1 (stI 1 (Int32.toNatClampNeg x0)) (stI 2 (Int32.toNatClampNeg x0)) σ).bind (fun q6 =>
  if (bz q6.1) = 0 then
  some (0, q6.2)
  else
  some (1, q6.2))
  else none
  else none
def F_X6_setNumber (k : Nat) (x1 : Int32) (x2 : Int32) (σ : xM) : Option (Int32 × xM) :=
  (F_X6_isNumberInRange x1 x2 σ).bind (fun q1 =>
  if (bz q1.1) = 0 then
  some ((-1000001), q1.2)
  else
  (F_X2_save (k + 39) (k + 1) q1.2).bind (fun q3 =>
  (F_X1_number (k + 1) x1 q3.2).bind (fun q4 =>
  (F_X1_putNumber (k + 1) x1 x2 q4.2).bind (fun q5 =>
  some (q4.1, q5.2)))))
def F_X6_warm (k : Nat) (x1 : Int32) (x2 : Int32) (σ : xM) : Option (Int32 × xM) :=
  (F_X1_roomAt (k + 1) x1 σ).bind (fun q1 =>
  oc q1.1 (
  some ((-1000001), q1.2))
  (fun r2 =>
  if kd r2 = 3 then
  (F_X6_within x2 (-50000) 50000 q1.2).bind (fun q3 =>
  if (bz q3.1) = 0 then
  some ((-1000001), q3.2)
  else
  (F_X3_temperatureWith r2 ((q3.2 r2 4) + x2) q3.2).bind (fun q5 =>
  (F_X6_within q5.1 (-200000) 200000 q5.2).bind (fun q6 =>
  if (bz q6.1) = 0 then
  some ((-1000002), q6.2)
  else
  (F_X2_save (k + 39) (k + 1) q6.2).bind (fun q8 =>
  (F_X3_bringIn r2 x2 q8.2).bind (fun q9 =>
  some (q5.1, q9.2))))))
  else none))
def F_X6_service (k : Nat) (x1 : Int32) (σ : xM) : Option (Int32 × xM) :=
  (F_X1_roomAt (k + 1) x1 σ).bind (fun q1 =>
  oc q1.1 (
  some ((-1000001), q1.2))
  (fun r2 =>
  if kd r2 = 3 then
  (F_X2_save (k + 39) (k + 1) q1.2).bind (fun q3 =>
  nm (q3.2 r2 11) (fun x3_4 =>
  (F_X3_renewContact r2 q3.2).bind (fun q5 =>
  some (x3_4, q5.2))))
  else none))
def F_X6_resetCutout (k : Nat) (x1 : Int32) (σ : xM) : Option (Int32 × xM) :=
  (F_X1_roomAt (k + 1) x1 σ).bind (fun q1 =>
  oc q1.1 (
  some ((-1000001), q1.2))
  (fun r2 =>
  if kd r2 = 3 then
  (F_X3_temperature r2 q1.2).bind (fun q3 =>
  if (bz (q3.2 r2 10)) = 0 then
  some ((-1000002), q3.2)
  else
  (F_X1_number (k + 1) 5 q3.2).bind (fun q5 =>
  if q3.1 ≤ q5.1 then
  (F_X2_save (k + 39) (k + 1) q5.2).bind (fun q7 =>
  nm (xup q7.2 r2 10 0) (fun σ8 =>
  some (q3.1, σ8)))
  else
  some ((-1000002), q5.2)))
  else none))
def F_X6_room (k : Nat) (x1 : Int32) (x2 : Int32) (σ : xM) : Option (Int32 × xM) :=
  (F_X1_roomAt (k + 1) x1 σ).bind (fun q1 =>
  oc q1.1 (
  some ((-1000001), q1.2))
  (fun r2 =>
  if kd r2 = 3 then
  (F_X3_property r2 x2 q1.2).bind (fun q3 =>
  some (q3.1, q3.2))
  else none))
def F_X6_book (k : Nat) (x1 : Int32) (x2 : Int32) (σ : xM) : Option (Int32 × xM) :=
  (F_X1_roomAt (k + 1) x1 σ).bind (fun q1 =>
  oc q1.1 (
  some ((-1000001), q1.2))
  (fun r2 =>
  if kd r2 = 3 then
  (F_X0_sum (r2 + 1) x2 q1.2).bind (fun q3 =>
  some (q3.1, q3.2))
  else none))
def F_X6_link (k : Nat) (x1 : Int32) (x2 : Int32) (σ : xM) : Option (Int32 × xM) :=
  (F_X1_hasPair (k + 1) x1 x2 σ).bind (fun q1 =>
  if (bz q1.1) = 0 then
  some ((-1000001), q1.2)
  else
  (F_X1_linkOf (k + 1) x1 x2 q1.2).bind (fun q3 =>
  some (q3.1, q3.2)))
def F_X6_count (k : Nat) (x1 : Int32) (σ : xM) : Option (Int32 × xM) :=
  (F_X6_within x1 0 6 σ).bind (fun q1 =>
  if (bz q1.1) = 0 then
  if x1 = 7 then
  some ((q1.2 (k + 1) 4), q1.2)
  else if x1 = 8 then
  some ((q1.2 (k + 1) 5), q1.2)
  else if x1 = 9 then
  some ((q1.2 (k + 5) 2), q1.2)
  else if x1 = 10 then
  (F_X1_suspectRooms (k + 1) q1.2).bind (fun q7 =>
  some (q7.1, q7.2))
  else if x1 = 11 then
  (F_X1_allFines (k + 1) q1.2).bind (fun q9 =>
  some (q9.1, q9.2))
  else if x1 = 12 then
  some ((q1.2 (k + 155) 1), q1.2)
  else if x1 = 13 then
  some ((q1.2 (k + 39) 2), q1.2)
  else 
  some ((-1000001), q1.2)
  else
  (F_X1_number (k + 1) x1 q1.2).bind (fun q12 =>
  some (q12.1, q12.2)))
def F_X6_pass (k : Nat) (x1 : Int32) (σ : xM) : Option (Int32 × xM) :=
  (F_X6_within x1 1 500 σ).bind (fun q1 =>
  if (bz q1.1) = 0 then
  some ((-1000001), q1.2)
  else
  if (q1.2 (k + 1) 4) = 0 then
  some ((-1000002), q1.2)
  else
  if x1 ≤ (20000 - (q1.2 (k + 1) 5)) then
  (F_X2_save (k + 39) (k + 1) q1.2).bind (fun q5 =>
  (F_X1_passMinutes (k + 1) x1 q5.2).bind (fun q6 =>
  some (q6.1, q6.2)))
  else
  some ((-1000003), q1.2))
def F_X6_minutesToSuspect_L29 (k : Nat) : Nat → Nat → Int32 → xM → Option (Int32 × xM)
  | 0, _, _, _ => none
  | N + 1, u2, v3, σ =>
    if 1000 ≤ v3 then
    (F_X1_isSuspect (k + 20) u2 σ).bind (fun q5 =>
    if (bz q5.1) = 0 then
    some ((-1000009), q5.2)
    else
    some (1000, q5.2))
    else
    (F_X1_isSuspect (k + 20) u2 σ).bind (fun q7 =>
    if (bz q7.1) = 0 then
    (F_X1_passMinute (k + 20) q7.2).bind (fun q9 =>
    F_X6_minutesToSuspect_L29 k N u2 (v3 + 1) q9.2)
    else
    some (v3, q7.2))
def F_X6_minutesToSuspect (k : Nat) (x1 : Int32) (σ : xM) : Option (Int32 × xM) :=
  (F_X1_copyFrom (k + 20) (k + 1) σ).bind (fun q1 =>
  (F_X1_roomAt (k + 20) x1 q1.2).bind (fun q2 =>
  oc q2.1 (
  some ((-1000001), q2.2))
  (fun r3 =>
  if kd r3 = 3 then
  F_X6_minutesToSuspect_L29 k FU r3 0 q2.2
  else none)))
def F_X6_heatIn (k : Nat) (x1 : Int32) (σ : xM) : Option (Int32 × xM) :=
  (F_X6_within x1 1 1000 σ).bind (fun q1 =>
  if (bz q1.1) = 0 then
  some ((-1000001), q1.2)
  else
  (F_X1_copyFrom (k + 20) (k + 1) q1.2).bind (fun q3 =>
  (F_X1_passMinutes (k + 20) x1 q3.2).bind (fun q4 =>
  (F_X1_heatFromHeaters (k + 20) q4.2).bind (fun q5 =>
  (F_X1_heatFromHeaters (k + 1) q5.2).bind (fun q6 =>
  some ((q5.1 - q6.1), q6.2))))))
def F_X6_undo (k : Nat) (σ : xM) : Option (Int32 × xM) :=
  if (σ (k + 39) 2) = 0 then
  some ((-1000002), σ)
  else
  (F_X2_restore (k + 39) (k + 1) σ).bind (fun q2 =>
  some ((q2.2 (k + 39) 2), q2.2))
def F_L_low (x0 : Int32) (x1 : Int32) (σ : xM) : Option (Int32 × xM) :=
  if x1 = 0 then none else
  some (((x0 &&& 2147483647) - (x0 &&& 2147483647) / x1 * x1), σ)
def F_L_tale_LL (r0 : Nat) : Nat → Nat → Int64 → Int32 → Int32 → xM → Option (Int64 × xM)
  | 0, _, _, _, _, _ => none
  | N + 1, t, j1, v3, v4, σ =>
  if t = 33 then
    (F_X6_count r0 7 σ).bind (fun q2 =>
    if q2.1 ≤ v3 then
    some (j1, q2.2)
    else
    F_L_tale_LL r0 N 46 j1 v3 0 q2.2)
  else
  if t = 46 then
    if 14 ≤ v4 then
    F_L_tale_LL r0 N 77 j1 v3 0 σ
    else
    (F_X6_room r0 v3 v4 σ).bind (fun q12 =>
    nm ((j1 * 37) + ((q12.1).toInt64)) (fun j1_13 =>
    F_L_tale_LL r0 N 46 j1_13 v3 (v4 + 1) q12.2))
  else
  if t = 77 then
    if 5 ≤ v4 then
    F_L_tale_LL r0 N 107 j1 v3 0 σ
    else
    (F_X6_book r0 v3 v4 σ).bind (fun q10 =>
    nm ((j1 * 41) + ((q10.1).toInt64)) (fun j1_11 =>
    F_L_tale_LL r0 N 77 j1_11 v3 (v4 + 1) q10.2))
  else
    (F_X6_count r0 7 σ).bind (fun q6 =>
    if q6.1 ≤ v4 then
    F_L_tale_LL r0 N 33 j1 (v3 + 1) 0 q6.2
    else
    (F_X6_link r0 v3 v4 q6.2).bind (fun q8 =>
    nm ((j1 * 43) + ((q8.1).toInt64)) (fun j1_9 =>
    F_L_tale_LL r0 N 107 j1_9 v3 (v4 + 1) q8.2)))
def F_L_tale_L6 (r0 : Nat) : Nat → Int64 → Int32 → xM → Option (Int64 × xM)
  | 0, _, _, _ => none
  | N + 1, j1, v3, σ =>
    if 12 ≤ v3 then
    F_L_tale_LL r0 FU 33 j1 0 0 σ
    else
    (F_X6_count r0 v3 σ).bind (fun q14 =>
    nm ((j1 * 31) + ((q14.1).toInt64)) (fun j1_15 =>
    F_L_tale_L6 r0 N j1_15 (v3 + 1) q14.2))
def F_L_tale (r0 : Nat) (σ : xM) : Option (Int64 × xM) :=
  F_L_tale_L6 r0 FU 3 0 σ
def F_L_does (r0 : Nat) (x1 : Int32) (σ : xM) : Option (Int32 × xM) :=
  (F_L_low (x1 >>> (4 &&& 31)) 4 σ).bind (fun q1 =>
  if (x1 &&& 15) = 0 then
  (F_L_low (x1 >>> (6 &&& 31)) 150 q1.2).bind (fun q3 =>
  (F_L_low (x1 >>> (14 &&& 31)) 200 q3.2).bind (fun q4 =>
  (F_L_low (x1 >>> (22 &&& 31)) 12 q4.2).bind (fun q5 =>
  (F_L_low (x1 >>> (26 &&& 31)) 30 q5.2).bind (fun q6 =>
  (F_X6_addRoom r0 (9 + q3.1) (1 + q4.1) q5.1 (q6.1 - 5) q6.2).bind (fun q7 =>
  some (q7.1, q7.2))))))
  else if (x1 &&& 15) = 1 then
  (F_L_low (x1 >>> (6 &&& 31)) 150 q1.2).bind (fun q9 =>
  (F_L_low (x1 >>> (14 &&& 31)) 200 q9.2).bind (fun q10 =>
  (F_L_low (x1 >>> (22 &&& 31)) 12 q10.2).bind (fun q11 =>
  (F_L_low (x1 >>> (26 &&& 31)) 30 q11.2).bind (fun q12 =>
  (F_X6_addRoom r0 (9 + q9.1) (1 + q10.1) q11.1 (q12.1 - 5) q12.2).bind (fun q13 =>
  some (q13.1, q13.2))))))
  else if (x1 &&& 15) = 2 then
  (F_L_low (x1 >>> (6 &&& 31)) 4 q1.2).bind (fun q15 =>
  (F_L_low (x1 >>> (8 &&& 31)) 30 q15.2).bind (fun q16 =>
  (F_X6_setLink r0 q1.1 q15.1 q16.1 q16.2).bind (fun q17 =>
  some (q17.1, q17.2))))
  else if (x1 &&& 15) = 3 then
  (F_L_low (x1 >>> (6 &&& 31)) 4 q1.2).bind (fun q19 =>
  (F_L_low (x1 >>> (8 &&& 31)) 30 q19.2).bind (fun q20 =>
  (F_X6_setLink r0 q1.1 q19.1 q20.1 q20.2).bind (fun q21 =>
  some (q21.1, q21.2))))
  else if (x1 &&& 15) = 4 then
  (F_L_low (x1 >>> (6 &&& 31)) 31 q1.2).bind (fun q23 =>
  (F_L_low (x1 >>> (11 &&& 31)) 20 q23.2).bind (fun q24 =>
  (F_X6_setThermostat r0 q1.1 (5000 + (1000 * q23.1)) (100 * q24.1) q24.2).bind (fun q25 =>
  some (q25.1, q25.2))))
  else if (x1 &&& 15) = 5 then
  (F_L_low (x1 >>> (6 &&& 31)) 8 q1.2).bind (fun q27 =>
  (F_L_low (x1 >>> (9 &&& 31)) 60 q27.2).bind (fun q28 =>
  (F_X6_setNumber r0 q27.1 q28.1 q28.2).bind (fun q29 =>
  some (q29.1, q29.2))))
  else if (x1 &&& 15) = 6 then
  (F_L_low (x1 >>> (6 &&& 31)) 40001 q1.2).bind (fun q31 =>
  (F_X6_warm r0 q1.1 (q31.1 - 20000) q31.2).bind (fun q32 =>
  some (q32.1, q32.2)))
  else if (x1 &&& 15) = 7 then
  (F_X6_service r0 q1.1 q1.2).bind (fun q34 =>
  some (q34.1, q34.2))
  else if (x1 &&& 15) = 8 then
  (F_X6_resetCutout r0 q1.1 q1.2).bind (fun q36 =>
  some (q36.1, q36.2))
  else 
  (F_L_low (x1 >>> (6 &&& 31)) 40 q1.2).bind (fun q37 =>
  (F_X6_pass r0 q37.1 q37.2).bind (fun q38 =>
  some (q38.1, q38.2))))
end
end
section
noncomputable section

end
end
section
def rm_X0_begin : Jvm.Room := { frames := 0, cells := 0, slots := 0, locals := 0 }
set_option maxHeartbeats 4000000 in
set_option maxRecDepth 100000 in
theorem c_X0_begin (l : Launch) (E : xE) (B : Nat) {k : Nat} {x1 : Int32} {σ : xM} {q : Unit × xM} (hk_k : kd k = 0) (h : F_X0_begin k x1 σ = some q) : Met l yX0_begin (Cond.code yX0_begin cX0_begin 2 none :: AL) rm_X0_begin (xP E B 160 (layX E B) [.ref (B + k), .int x1] σ) (xQ E B 160 (layX E B) none q.2) 0 0 (wA B 160) := by
  refine x_met (plainFor_of_name (by decide +kernel)) (Nat.le_of_ble_eq_true rfl) rfl ?_
  intro p e s m below meth c ls CX hr hlk hM hl
  have hx := CX.1.1
  have hb := CX.1.2.1
  unfold F_X0_begin at h
  refine lv_aload_n hx hb dX0_begin_0 rfl (lv_at hl 0 rfl) ?_
  refine lv_iload_n hx hb dX0_begin_1 rfl (lv_at hl 1 rfl) ?_
  refine p0_0 (y := x1) CX hM hk_k wf_X0_9 dX0_begin_2 (fun H locs σ1 eσ1 hM => ?_)
  replace h := nm_h eσ1 h
  refine lv_aload_n hx hb dX0_begin_5 rfl (lv_at hl 0 rfl) ?_
  refine lv_iconst (v := 0) hx hb dX0_begin_6 (by decide) ?_
  refine p0_1 (y := 0) CX hM hk_k wf_X0_15 dX0_begin_7 (fun H locs σ2 eσ2 hM => ?_)
  replace h := nm_h eσ2 h
  refine lv_aload_n hx hb dX0_begin_10 rfl (lv_at hl 0 rfl) ?_
  refine lv_iconst (v := 0) hx hb dX0_begin_11 (by decide) ?_
  refine p0_2 (y := 0) CX hM hk_k wf_X0_18 dX0_begin_12 (fun H locs σ3 eσ3 hM => ?_)
  replace h := nm_h eσ3 h
  refine lv_aload_n hx hb dX0_begin_15 rfl (lv_at hl 0 rfl) ?_
  refine lv_iconst (v := 0) hx hb dX0_begin_16 (by decide) ?_
  refine p0_3 (y := 0) CX hM hk_k wf_X0_21 dX0_begin_17 (fun H locs σ4 eσ4 hM => ?_)
  replace h := nm_h eσ4 h
  refine lv_aload_n hx hb dX0_begin_20 rfl (lv_at hl 0 rfl) ?_
  refine lv_iconst (v := 0) hx hb dX0_begin_21 (by decide) ?_
  refine p0_4 (y := 0) CX hM hk_k wf_X0_24 dX0_begin_22 (fun H locs σ5 eσ5 hM => ?_)
  replace h := nm_h eσ5 h
  obtain rfl := Option.some.inj h
  exact x_vret CX hr hlk hM rfl dX0_begin_25
def rm_X0_copyFrom : Jvm.Room := { frames := 0, cells := 0, slots := 0, locals := 0 }
set_option maxHeartbeats 4000000 in
set_option maxRecDepth 100000 in
theorem c_X0_copyFrom (l : Launch) (E : xE) (B : Nat) {k : Nat} {r1 : Nat} {σ : xM} {q : Unit × xM} (hk_k : kd k = 0) (hk_r1 : kd r1 = 0) (h : F_X0_copyFrom k r1 σ = some q) : Met l yX0_copyFrom (Cond.code yX0_copyFrom cX0_copyFrom 2 none :: AL) rm_X0_copyFrom (xP E B 160 (layX E B) [.ref (B + k), .ref (B + r1)] σ) (xQ E B 160 (layX E B) none q.2) 0 0 (wA B 160) := by
  refine x_met (plainFor_of_name (by decide +kernel)) (Nat.le_of_ble_eq_true rfl) rfl ?_
  intro p e s m below meth c ls CX hr hlk hM hl
  have hx := CX.1.1
  have hb := CX.1.2.1
  unfold F_X0_copyFrom at h
  refine lv_aload_n hx hb dX0_copyFrom_0 rfl (lv_at hl 0 rfl) ?_
  refine lv_aload_n hx hb dX0_copyFrom_1 rfl (lv_at hl 1 rfl) ?_
  refine g0_0 CX hM hk_r1 wf_X0_9 dX0_copyFrom_2 ?_
  refine p0_0 (y := (σ r1 0)) CX hM hk_k wf_X0_9 dX0_copyFrom_5 (fun H locs σ1 eσ1 hM => ?_)
  replace h := nm_h eσ1 h
  refine lv_aload_n hx hb dX0_copyFrom_8 rfl (lv_at hl 0 rfl) ?_
  refine lv_aload_n hx hb dX0_copyFrom_9 rfl (lv_at hl 1 rfl) ?_
  refine g0_1 CX hM hk_r1 wf_X0_15 dX0_copyFrom_10 ?_
  refine p0_1 (y := (σ1 r1 1)) CX hM hk_k wf_X0_15 dX0_copyFrom_13 (fun H locs σ2 eσ2 hM => ?_)
  replace h := nm_h eσ2 h
  refine lv_aload_n hx hb dX0_copyFrom_16 rfl (lv_at hl 0 rfl) ?_
  refine lv_aload_n hx hb dX0_copyFrom_17 rfl (lv_at hl 1 rfl) ?_
  refine g0_2 CX hM hk_r1 wf_X0_18 dX0_copyFrom_18 ?_
  refine p0_2 (y := (σ2 r1 2)) CX hM hk_k wf_X0_18 dX0_copyFrom_21 (fun H locs σ3 eσ3 hM => ?_)
  replace h := nm_h eσ3 h
  refine lv_aload_n hx hb dX0_copyFrom_24 rfl (lv_at hl 0 rfl) ?_
  refine lv_aload_n hx hb dX0_copyFrom_25 rfl (lv_at hl 1 rfl) ?_
  refine g0_3 CX hM hk_r1 wf_X0_21 dX0_copyFrom_26 ?_
  refine p0_3 (y := (σ3 r1 3)) CX hM hk_k wf_X0_21 dX0_copyFrom_29 (fun H locs σ4 eσ4 hM => ?_)
  replace h := nm_h eσ4 h
  refine lv_aload_n hx hb dX0_copyFrom_32 rfl (lv_at hl 0 rfl) ?_
  refine lv_aload_n hx hb dX0_copyFrom_33 rfl (lv_at hl 1 rfl) ?_
  refine g0_4 CX hM hk_r1 wf_X0_24 dX0_copyFrom_34 ?_
  refine p0_4 (y := (σ4 r1 4)) CX hM hk_k wf_X0_24 dX0_copyFrom_37 (fun H locs σ5 eσ5 hM => ?_)
  replace h := nm_h eσ5 h
  obtain rfl := Option.some.inj h
  exact x_vret CX hr hlk hM rfl dX0_copyFrom_40
def rm_X0_sum : Jvm.Room := { frames := 0, cells := 0, slots := 0, locals := 0 }
set_option maxHeartbeats 4000000 in
set_option maxRecDepth 100000 in
theorem c_X0_sum (l : Launch) (E : xE) (B : Nat) {k : Nat} {x1 : Int32} {σ : xM} {q : Int32 × xM} (hk_k : kd k = 0) (h : F_X0_sum k x1 σ = some q) : Met l yX0_sum (Cond.code yX0_sum cX0_sum 2 (some .int) :: AL) rm_X0_sum (xP E B 160 (layX E B) [.ref (B + k), .int x1] σ) (xQ E B 160 (layX E B) (some (.int q.1)) q.2) 0 0 (wA B 160) := by
  refine x_met (plainFor_of_name (by decide +kernel)) (Nat.le_of_ble_eq_true rfl) rfl ?_
  intro p e s m below meth c ls CX hr hlk hM hl
  have hx := CX.1.1
  have hb := CX.1.2.1
  unfold F_X0_sum at h
  refine lv_iload_n hx hb dX0_sum_0 rfl (lv_at hl 1 rfl) ?_
  by_cases c1 : x1 = 0
  · replace h := it_h c1 h
    refine lv_tableIn (off := 35) (tgt := 36) hx hb dX0_sum_1 (by rw [c1]; decide) (by rw [c1]; decide) (by rw [c1]; decide) (by decide) ?_
    refine lv_aload_n hx hb dX0_sum_36 rfl (lv_at hl 0 rfl) ?_
    refine g0_0 CX hM hk_k wf_X0_9 dX0_sum_37 ?_
    obtain rfl := Option.some.inj h
    exact x_iret CX hr hlk hM rfl dX0_sum_40
  · replace h := if_h c1 h
    by_cases c2 : x1 = 1
    · replace h := it_h c2 h
      refine lv_tableIn (off := 40) (tgt := 41) hx hb dX0_sum_1 (by rw [c2]; decide) (by rw [c2]; decide) (by rw [c2]; decide) (by decide) ?_
      refine lv_aload_n hx hb dX0_sum_41 rfl (lv_at hl 0 rfl) ?_
      refine g0_1 CX hM hk_k wf_X0_15 dX0_sum_42 ?_
      obtain rfl := Option.some.inj h
      exact x_iret CX hr hlk hM rfl dX0_sum_45
    · replace h := if_h c2 h
      by_cases c3 : x1 = 2
      · replace h := it_h c3 h
        refine lv_tableIn (off := 45) (tgt := 46) hx hb dX0_sum_1 (by rw [c3]; decide) (by rw [c3]; decide) (by rw [c3]; decide) (by decide) ?_
        refine lv_aload_n hx hb dX0_sum_46 rfl (lv_at hl 0 rfl) ?_
        refine g0_2 CX hM hk_k wf_X0_18 dX0_sum_47 ?_
        obtain rfl := Option.some.inj h
        exact x_iret CX hr hlk hM rfl dX0_sum_50
      · replace h := if_h c3 h
        by_cases c4 : x1 = 3
        · replace h := it_h c4 h
          refine lv_tableIn (off := 50) (tgt := 51) hx hb dX0_sum_1 (by rw [c4]; decide) (by rw [c4]; decide) (by rw [c4]; decide) (by decide) ?_
          refine lv_aload_n hx hb dX0_sum_51 rfl (lv_at hl 0 rfl) ?_
          refine g0_3 CX hM hk_k wf_X0_21 dX0_sum_52 ?_
          obtain rfl := Option.some.inj h
          exact x_iret CX hr hlk hM rfl dX0_sum_55
        · replace h := if_h c4 h
          by_cases c5 : x1 = 4
          · replace h := it_h c5 h
            refine lv_tableIn (off := 55) (tgt := 56) hx hb dX0_sum_1 (by rw [c5]; decide) (by rw [c5]; decide) (by rw [c5]; decide) (by decide) ?_
            refine lv_aload_n hx hb dX0_sum_56 rfl (lv_at hl 0 rfl) ?_
            refine g0_4 CX hM hk_k wf_X0_24 dX0_sum_57 ?_
            obtain rfl := Option.some.inj h
            exact x_iret CX hr hlk hM rfl dX0_sum_60
          · replace h := if_h c5 h
            refine lv_tableOut (tgt := 61) hx hb dX0_sum_1 (tsw_out [0, 1, 2, 3, 4] (by decide) (by decide) (List.forall_mem_cons.mpr ⟨c1, (List.forall_mem_cons.mpr ⟨c2, (List.forall_mem_cons.mpr ⟨c3, (List.forall_mem_cons.mpr ⟨c4, (List.forall_mem_cons.mpr ⟨c5, (fun _ h => absurd h List.not_mem_nil)⟩)⟩)⟩)⟩)⟩)) (by decide) ?_
            refine lv_ldc (v := (-1000001)) hx hb CX.1.2.2.2.1 (x_hts CX wc_X0_27) dX0_sum_61 ?_
            obtain rfl := Option.some.inj h
            exact x_iret CX hr hlk hM rfl dX0_sum_63
def rm_X4_copyFrom : Jvm.Room := { frames := 1, cells := 0, slots := 0, locals := 26 }
set_option maxHeartbeats 4000000 in
set_option maxRecDepth 100000 in
theorem c_X4_copyFrom (l : Launch) (E : xE) (B : Nat) {k : Nat} {r1 : Nat} {σ : xM} {q : Unit × xM} (hk_k : kd k = 4) (hk_r1 : kd r1 = 4) (h : F_X4_copyFrom k r1 σ = some q) : Met l yX4_copyFrom (Cond.code yX4_copyFrom cX4_copyFrom 2 none :: AL) rm_X4_copyFrom (xP E B 160 (layX E B) [.ref (B + k), .ref (B + r1)] σ) (xQ E B 160 (layX E B) none q.2) 0 0 (wA B 160) := by
  refine x_met (plainFor_of_name (by decide +kernel)) (Nat.le_of_ble_eq_true rfl) rfl ?_
  intro p e s m below meth c ls CX hr hlk hM hl
  have hx := CX.1.1
  have hb := CX.1.2.1
  unfold F_X4_copyFrom at h
  refine lv_aload_n hx hb dX4_copyFrom_0 rfl (lv_at hl 1 rfl) ?_
  refine g4_0 CX hM hk_r1 wf_X4_9 dX4_copyFrom_1 ?_
  refine lv_iconst (v := 0) hx hb dX4_copyFrom_4 (by decide) ?_
  refine lv_aload_n hx hb dX4_copyFrom_5 rfl (lv_at hl 0 rfl) ?_
  refine g4_0 CX hM hk_k wf_X4_9 dX4_copyFrom_6 ?_
  refine lv_iconst (v := 0) hx hb dX4_copyFrom_9 (by decide) ?_
  refine lv_bipush (v := 12) hx hb dX4_copyFrom_10 (by decide) ?_
  refine x_acopy (nn := 12) CX hM (kdl (kd4_f hk_r1).1 rfl) (kdl (kd4_f hk_k).1 rfl) (ly13 (kd4_f hk_r1).1 _) (fun f => ly13 (kd4_f hk_k).1 f) (by decide) (by decide) (by decide) (by decide) hl.1 lk_X4_18 (by decide) (Nat.le_of_ble_eq_true rfl) dX4_copyFrom_12 (fun H locs σ1 eσ1 hM => ?_)
  replace h := nm_h eσ1 h
  refine lv_aload_n hx hb dX4_copyFrom_15 rfl (lv_at hl 1 rfl) ?_
  refine g4_1 CX hM hk_r1 wf_X4_15 dX4_copyFrom_16 ?_
  refine lv_iconst (v := 0) hx hb dX4_copyFrom_19 (by decide) ?_
  refine lv_aload_n hx hb dX4_copyFrom_20 rfl (lv_at hl 0 rfl) ?_
  refine g4_1 CX hM hk_k wf_X4_15 dX4_copyFrom_21 ?_
  refine lv_iconst (v := 0) hx hb dX4_copyFrom_24 (by decide) ?_
  refine lv_bipush (v := 12) hx hb dX4_copyFrom_25 (by decide) ?_
  refine x_acopy (nn := 12) CX hM (kdl (kd4_f hk_r1).2 rfl) (kdl (kd4_f hk_k).2 rfl) (ly13 (kd4_f hk_r1).2 _) (fun f => ly13 (kd4_f hk_k).2 f) (by decide) (by decide) (by decide) (by decide) hl.1 lk_X4_18 (by decide) (Nat.le_of_ble_eq_true rfl) dX4_copyFrom_27 (fun H locs σ2 eσ2 hM => ?_)
  replace h := nm_h eσ2 h
  refine lv_aload_n hx hb dX4_copyFrom_30 rfl (lv_at hl 0 rfl) ?_
  refine lv_aload_n hx hb dX4_copyFrom_31 rfl (lv_at hl 1 rfl) ?_
  refine g4_2 CX hM hk_r1 wf_X4_24 dX4_copyFrom_32 ?_
  refine p4_2 (y := (σ2 r1 2)) CX hM hk_k wf_X4_24 dX4_copyFrom_35 (fun H locs σ3 eσ3 hM => ?_)
  replace h := nm_h eσ3 h
  obtain rfl := Option.some.inj h
  exact x_vret CX hr hlk hM rfl dX4_copyFrom_38
def rm_X1_roomAt : Jvm.Room := { frames := 0, cells := 0, slots := 0, locals := 0 }
set_option maxHeartbeats 4000000 in
set_option maxRecDepth 100000 in
theorem c_X1_roomAt (l : Launch) (E : xE) (B : Nat) {k : Nat} {x1 : Int32} {σ : xM} {q : Option Nat × xM} (hk_k : kd k = 1) (h : F_X1_roomAt k x1 σ = some q) : Met l yX1_roomAt (Cond.code yX1_roomAt cX1_roomAt 2 (some (.object "ThermostatColony$Room")) :: AL) rm_X1_roomAt (xP E B 160 (layX E B) [.ref (B + k), .int x1] σ) (xQ E B 160 (layX E B) (some (va_rf (q.1.map (fun k => B + k)))) q.2) 0 0 (wA B 160) := by
  refine x_met (plainFor_of_name (by decide +kernel)) (Nat.le_of_ble_eq_true rfl) rfl ?_
  intro p e s m below meth c ls CX hr hlk hM hl
  have hx := CX.1.1
  have hb := CX.1.2.1
  unfold F_X1_roomAt at h
  refine lv_iload_n hx hb dX1_roomAt_0 rfl (lv_at hl 1 rfl) ?_
  refine lv_if_lt (tgt := 30) hx hb dX1_roomAt_1 (by decide) (fun c1 => ?_) (fun c1 => ?_)
  · replace h := it_h c1 h
    refine lv_null hx hb dX1_roomAt_30 ?_
    obtain rfl := Option.some.inj h
    exact x_aret CX hr hlk hM (Or.inl rfl) rfl dX1_roomAt_31
  · replace h := if_h c1 h
    refine lv_iload_n hx hb dX1_roomAt_4 rfl (lv_at hl 1 rfl) ?_
    refine lv_aload_n hx hb dX1_roomAt_5 rfl (lv_at hl 0 rfl) ?_
    refine g1_4 CX hM hk_k wf_X1_45 dX1_roomAt_6 ?_
    refine lv_icmp_ge (tgt := 30) hx hb dX1_roomAt_9 (by decide) (fun c2 => ?_) (fun c2 => ?_)
    · replace h := it_h c2 h
      refine lv_null hx hb dX1_roomAt_30 ?_
      obtain rfl := Option.some.inj h
      exact x_aret CX hr hlk hM (Or.inl rfl) rfl dX1_roomAt_31
    · replace h := if_h c2 h
      refine lv_iload_n hx hb dX1_roomAt_12 rfl (lv_at hl 1 rfl) ?_
      refine lv_aload_n hx hb dX1_roomAt_13 rfl (lv_at hl 0 rfl) ?_
      refine g1_1 CX hM hk_k wf_X1_17 dX1_roomAt_14 ?_
      refine x_alen (v := 6) CX hM 2 (kdl (kd1_f hk_k).2.1 rfl) (ly11 (kd1_f hk_k).2.1 _) rfl rfl dX1_roomAt_17 ?_
      refine lv_icmp_ge (tgt := 30) hx hb dX1_roomAt_18 (by decide) (fun c3 => ?_) (fun c3 => ?_)
      · replace h := it_h c3 h
        refine lv_null hx hb dX1_roomAt_30 ?_
        obtain rfl := Option.some.inj h
        exact x_aret CX hr hlk hM (Or.inl rfl) rfl dX1_roomAt_31
      · replace h := if_h c3 h
        refine lv_aload_n hx hb dX1_roomAt_21 rfl (lv_at hl 0 rfl) ?_
        refine g1_1 CX hM hk_k wf_X1_17 dX1_roomAt_22 ?_
        refine lv_iload_n hx hb dX1_roomAt_25 rfl (lv_at hl 1 rfl) ?_
        obtain ⟨g4, h⟩ := ck_h h
        refine x_aald CX hM 2 (kdl (kd1_f hk_k).2.1 rfl) (ly11 (kd1_f hk_k).2.1 _) rfl g4 rfl dX1_roomAt_26 ?_
        refine lv_goto (tgt := 31) hx hb dX1_roomAt_27 (by decide) ?_
        obtain rfl := Option.some.inj h
        exact x_aret CX hr hlk hM (Or.inr ⟨_, rfl⟩) rfl dX1_roomAt_31
def rm_X3_copyFrom : Jvm.Room := { frames := 1, cells := 0, slots := 0, locals := 21 }
set_option maxHeartbeats 4000000 in
set_option maxRecDepth 100000 in
theorem c_X3_copyFrom (l : Launch) (E : xE) (B : Nat) {k : Nat} {r1 : Nat} {σ : xM} {q : Unit × xM} (hk_k : kd k = 3) (hk_r1 : kd r1 = 3) (h : F_X3_copyFrom k r1 σ = some q) : Met l yX3_copyFrom (Cond.code yX3_copyFrom cX3_copyFrom 2 none :: AL) rm_X3_copyFrom (xP E B 160 (layX E B) [.ref (B + k), .ref (B + r1)] σ) (xQ E B 160 (layX E B) none q.2) 0 0 (wA B 160) := by
  refine x_met (plainFor_of_name (by decide +kernel)) (Nat.le_of_ble_eq_true rfl) rfl ?_
  intro p e s m below meth c ls CX hr hlk hM hl
  have hx := CX.1.1
  have hb := CX.1.2.1
  unfold F_X3_copyFrom at h
  refine lv_aload_n hx hb dX3_copyFrom_0 rfl (lv_at hl 0 rfl) ?_
  refine g3_0 CX hM hk_k wf_X3_12 dX3_copyFrom_1 ?_
  refine lv_aload_n hx hb dX3_copyFrom_4 rfl (lv_at hl 1 rfl) ?_
  refine g3_0 CX hM hk_r1 wf_X3_12 dX3_copyFrom_5 ?_
  obtain ⟨q1, eq1, h⟩ := bd_h h
  refine x_callV (As := [.ref (B + (r1 + 1))]) CX hM (kdl (kd3_f hk_k) rfl) (ly0 (kd3_f hk_k) _) rfl lk_X3_80 (c_X0_copyFrom l E B (kd3_f hk_k) (kd3_f hk_r1) eq1) ⟨rfl, rfl, by decide, by decide⟩ rfl hl.1 rfl (Nat.le_of_ble_eq_true rfl) dX3_copyFrom_8 (fun H locs hM => ?_)
  refine W.eq (g2 := F0 m 11 ls []) rfl ?_
  refine lv_aload_n hx hb dX3_copyFrom_11 rfl (lv_at hl 0 rfl) ?_
  refine lv_aload_n hx hb dX3_copyFrom_12 rfl (lv_at hl 1 rfl) ?_
  refine g3_1 CX hM hk_r1 wf_X3_18 dX3_copyFrom_13 ?_
  refine p3_1 (y := (q1.2 r1 1)) CX hM hk_k wf_X3_18 dX3_copyFrom_16 (fun H locs σ2 eσ2 hM => ?_)
  replace h := nm_h eσ2 h
  refine lv_aload_n hx hb dX3_copyFrom_19 rfl (lv_at hl 0 rfl) ?_
  refine lv_aload_n hx hb dX3_copyFrom_20 rfl (lv_at hl 1 rfl) ?_
  refine g3_2 CX hM hk_r1 wf_X3_22 dX3_copyFrom_21 ?_
  refine p3_2 (y := (σ2 r1 2)) CX hM hk_k wf_X3_22 dX3_copyFrom_24 (fun H locs σ3 eσ3 hM => ?_)
  replace h := nm_h eσ3 h
  refine lv_aload_n hx hb dX3_copyFrom_27 rfl (lv_at hl 0 rfl) ?_
  refine lv_aload_n hx hb dX3_copyFrom_28 rfl (lv_at hl 1 rfl) ?_
  refine g3_3 CX hM hk_r1 wf_X3_25 dX3_copyFrom_29 ?_
  refine p3_3 (y := (σ3 r1 3)) CX hM hk_k wf_X3_25 dX3_copyFrom_32 (fun H locs σ4 eσ4 hM => ?_)
  replace h := nm_h eσ4 h
  refine lv_aload_n hx hb dX3_copyFrom_35 rfl (lv_at hl 0 rfl) ?_
  refine lv_aload_n hx hb dX3_copyFrom_36 rfl (lv_at hl 1 rfl) ?_
  refine g3_4 CX hM hk_r1 wf_X3_28 dX3_copyFrom_37 ?_
  refine p3_4 (y := (σ4 r1 4)) CX hM hk_k wf_X3_28 dX3_copyFrom_40 (fun H locs σ5 eσ5 hM => ?_)
  replace h := nm_h eσ5 h
  refine lv_aload_n hx hb dX3_copyFrom_43 rfl (lv_at hl 0 rfl) ?_
  refine lv_aload_n hx hb dX3_copyFrom_44 rfl (lv_at hl 1 rfl) ?_
  refine g3_5 CX hM hk_r1 wf_X3_31 dX3_copyFrom_45 ?_
  refine p3_5 (y := (σ5 r1 5)) CX hM hk_k wf_X3_31 dX3_copyFrom_48 (fun H locs σ6 eσ6 hM => ?_)
  replace h := nm_h eσ6 h
  refine lv_aload_n hx hb dX3_copyFrom_51 rfl (lv_at hl 0 rfl) ?_
  refine lv_aload_n hx hb dX3_copyFrom_52 rfl (lv_at hl 1 rfl) ?_
  refine g3_6 CX hM hk_r1 wf_X3_34 dX3_copyFrom_53 ?_
  refine p3_6 (y := (σ6 r1 6)) CX hM hk_k wf_X3_34 dX3_copyFrom_56 (fun H locs σ7 eσ7 hM => ?_)
  replace h := nm_h eσ7 h
  refine lv_aload_n hx hb dX3_copyFrom_59 rfl (lv_at hl 0 rfl) ?_
  refine lv_aload_n hx hb dX3_copyFrom_60 rfl (lv_at hl 1 rfl) ?_
  refine g3_7 CX hM hk_r1 wf_X3_41 dX3_copyFrom_61 ?_
  refine p3_7 (y := (σ7 r1 7)) CX hM hk_k wf_X3_41 dX3_copyFrom_64 (fun H locs σ8 eσ8 hM => ?_)
  replace h := nm_h eσ8 h
  refine lv_aload_n hx hb dX3_copyFrom_67 rfl (lv_at hl 0 rfl) ?_
  refine lv_aload_n hx hb dX3_copyFrom_68 rfl (lv_at hl 1 rfl) ?_
  refine g3_8 CX hM hk_r1 wf_X3_44 dX3_copyFrom_69 ?_
  refine p3_8 (y := (σ8 r1 8)) CX hM hk_k wf_X3_44 dX3_copyFrom_72 (fun H locs σ9 eσ9 hM => ?_)
  replace h := nm_h eσ9 h
  refine lv_aload_n hx hb dX3_copyFrom_75 rfl (lv_at hl 0 rfl) ?_
  refine lv_aload_n hx hb dX3_copyFrom_76 rfl (lv_at hl 1 rfl) ?_
  refine g3_9 CX hM hk_r1 wf_X3_48 dX3_copyFrom_77 ?_
  refine p3_9 (y := (σ9 r1 9)) CX hM hk_k wf_X3_48 dX3_copyFrom_80 (fun H locs σ10 eσ10 hM => ?_)
  replace h := nm_h eσ10 h
  refine lv_aload_n hx hb dX3_copyFrom_83 rfl (lv_at hl 0 rfl) ?_
  refine lv_aload_n hx hb dX3_copyFrom_84 rfl (lv_at hl 1 rfl) ?_
  refine g3_10 CX hM hk_r1 wf_X3_51 dX3_copyFrom_85 ?_
  refine p3_10 (y := (σ10 r1 10)) CX hM hk_k wf_X3_51 dX3_copyFrom_88 (fun H locs σ11 eσ11 hM => ?_)
  replace h := nm_h eσ11 h
  refine lv_aload_n hx hb dX3_copyFrom_91 rfl (lv_at hl 0 rfl) ?_
  refine lv_aload_n hx hb dX3_copyFrom_92 rfl (lv_at hl 1 rfl) ?_
  refine g3_11 CX hM hk_r1 wf_X3_54 dX3_copyFrom_93 ?_
  refine p3_11 (y := (σ11 r1 11)) CX hM hk_k wf_X3_54 dX3_copyFrom_96 (fun H locs σ12 eσ12 hM => ?_)
  replace h := nm_h eσ12 h
  refine lv_aload_n hx hb dX3_copyFrom_99 rfl (lv_at hl 0 rfl) ?_
  refine lv_aload_n hx hb dX3_copyFrom_100 rfl (lv_at hl 1 rfl) ?_
  refine g3_12 CX hM hk_r1 wf_X3_57 dX3_copyFrom_101 ?_
  refine p3_12 (y := (σ12 r1 12)) CX hM hk_k wf_X3_57 dX3_copyFrom_104 (fun H locs σ13 eσ13 hM => ?_)
  replace h := nm_h eσ13 h
  refine lv_aload_n hx hb dX3_copyFrom_107 rfl (lv_at hl 0 rfl) ?_
  refine lv_aload_n hx hb dX3_copyFrom_108 rfl (lv_at hl 1 rfl) ?_
  refine g3_13 CX hM hk_r1 wf_X3_60 dX3_copyFrom_109 ?_
  refine p3_13 (y := (σ13 r1 13)) CX hM hk_k wf_X3_60 dX3_copyFrom_112 (fun H locs σ14 eσ14 hM => ?_)
  replace h := nm_h eσ14 h
  refine lv_aload_n hx hb dX3_copyFrom_115 rfl (lv_at hl 0 rfl) ?_
  refine lv_aload_n hx hb dX3_copyFrom_116 rfl (lv_at hl 1 rfl) ?_
  refine g3_14 CX hM hk_r1 wf_X3_64 dX3_copyFrom_117 ?_
  refine p3_14 (y := (σ14 r1 14)) CX hM hk_k wf_X3_64 dX3_copyFrom_120 (fun H locs σ15 eσ15 hM => ?_)
  replace h := nm_h eσ15 h
  refine lv_aload_n hx hb dX3_copyFrom_123 rfl (lv_at hl 0 rfl) ?_
  refine lv_aload_n hx hb dX3_copyFrom_124 rfl (lv_at hl 1 rfl) ?_
  refine g3_15 CX hM hk_r1 wf_X3_67 dX3_copyFrom_125 ?_
  refine p3_15 (y := (σ15 r1 15)) CX hM hk_k wf_X3_67 dX3_copyFrom_128 (fun H locs σ16 eσ16 hM => ?_)
  replace h := nm_h eσ16 h
  refine lv_aload_n hx hb dX3_copyFrom_131 rfl (lv_at hl 0 rfl) ?_
  refine lv_aload_n hx hb dX3_copyFrom_132 rfl (lv_at hl 1 rfl) ?_
  refine g3_16 CX hM hk_r1 wf_X3_70 dX3_copyFrom_133 ?_
  refine p3_16 (y := (σ16 r1 16)) CX hM hk_k wf_X3_70 dX3_copyFrom_136 (fun H locs σ17 eσ17 hM => ?_)
  replace h := nm_h eσ17 h
  refine lv_aload_n hx hb dX3_copyFrom_139 rfl (lv_at hl 0 rfl) ?_
  refine lv_aload_n hx hb dX3_copyFrom_140 rfl (lv_at hl 1 rfl) ?_
  refine g3_17 CX hM hk_r1 wf_X3_73 dX3_copyFrom_141 ?_
  refine p3_17 (y := (σ17 r1 17)) CX hM hk_k wf_X3_73 dX3_copyFrom_144 (fun H locs σ18 eσ18 hM => ?_)
  replace h := nm_h eσ18 h
  obtain rfl := Option.some.inj h
  exact x_vret CX hr hlk hM rfl dX3_copyFrom_147
def rm_X1_copyFrom : Jvm.Room := { frames := 2, cells := 0, slots := 0, locals := 47 }
set_option maxHeartbeats 4000000 in
set_option maxRecDepth 100000 in
theorem c_X1_copyFrom (l : Launch) (E : xE) (B : Nat) {k : Nat} {r1 : Nat} {σ : xM} {q : Unit × xM} (hk_k : kd k = 1) (hk_r1 : kd r1 = 1) (h : F_X1_copyFrom k r1 σ = some q) : Met l yX1_copyFrom (Cond.code yX1_copyFrom cX1_copyFrom 5 none :: AL) rm_X1_copyFrom (xP E B 160 (layX E B) [.ref (B + k), .ref (B + r1)] σ) (xQ E B 160 (layX E B) none q.2) 0 0 (wA B 160) := by
  refine x_met (plainFor_of_name (by decide +kernel)) (Nat.le_of_ble_eq_true rfl) rfl ?_
  intro p e s m below meth c ls CX hr hlk hM hl
  have hx := CX.1.1
  have hb := CX.1.2.1
  unfold F_X1_copyFrom at h
  have L59 : ∀ (N : Nat) (v2 : Int32) (σ : xM), ∀ (H : Heap) (locs : List Loc) (ls : Array Slot), xS E B 160 (layX E B) s σ H locs → lv_has ls 5 [(0, .ref (B + k)), (1, .ref (B + r1)), (2, .int v2)] → F_X1_copyFrom_L59 k r1 N v2 σ = some q → W p l e rm_X1_copyFrom s m ([.ref (B + k), .ref (B + r1)] : List Value).toArray below meth c H locs 0 0 (MQ below (xQ E B 160 (layX E B) none q.2) ([.ref (B + k), .ref (B + r1)] : List Value).toArray s 0 0 (wA B 160)) (F0 m 59 ls []) := by
    clear hM hl h
    intro N
    induction N with
    | zero =>
      intro v2 σ  H locs ls hM hl h
      cases h
    | succ N ih =>
      intro v2 σ  H locs ls hM hl h
      rw [F_X1_copyFrom_L59] at h
      refine lv_iload_n hx hb dX1_copyFrom_59 rfl (lv_at hl 2 rfl) ?_
      refine lv_aload_n hx hb dX1_copyFrom_60 rfl (lv_at hl 0 rfl) ?_
      refine g1_4 CX hM hk_k wf_X1_45 dX1_copyFrom_61 ?_
      refine lv_icmp_ge (tgt := 101) hx hb dX1_copyFrom_64 (by decide) (fun c6 => ?_) (fun c6 => ?_)
      · replace h := it_h c6 h
        obtain rfl := Option.some.inj h
        exact x_vret CX hr hlk hM rfl dX1_copyFrom_101
      · replace h := if_h c6 h
        refine lv_aload_n hx hb dX1_copyFrom_67 rfl (lv_at hl 0 rfl) ?_
        refine lv_iload_n hx hb dX1_copyFrom_68 rfl (lv_at hl 2 rfl) ?_
        obtain ⟨q7, eq7, h⟩ := bd_h h
        refine x_callV (As := [.int v2]) CX hM (kdl hk_k rfl) (ly1 hk_k _) rfl lk_X1_52 (c_X1_roomAt l E B hk_k eq7) ⟨rfl, rfl, by decide, by decide⟩ rfl hl.1 rfl (Nat.le_of_ble_eq_true rfl) dX1_copyFrom_69 (fun H locs hM => ?_)
        rcases hq7 : q7.1 with _ | r8
        · rw [hq7] at h
          replace h := oc_n h
          refine W.eq (g2 := F0 m 72 ls [.null]) rfl ?_
          refine lv_astore_nN (lv' := [(3, .null), (0, .ref (B + k)), (1, .ref (B + r1)), (2, .int v2)]) hx hb dX1_copyFrom_72 rfl hl (by decide) rfl (fun ls hl => ?_)
          refine lv_aload_n hx hb dX1_copyFrom_73 rfl (lv_at hl 2 rfl) ?_
          refine lv_iload_n hx hb dX1_copyFrom_74 rfl (lv_at hl 3 rfl) ?_
          obtain ⟨q9, eq9, h⟩ := bd_h h
          refine x_callV (As := [.int v2]) CX hM (kdl hk_r1 rfl) (ly1 hk_r1 _) rfl lk_X1_52 (c_X1_roomAt l E B hk_r1 eq9) ⟨rfl, rfl, by decide, by decide⟩ rfl hl.1 rfl (Nat.le_of_ble_eq_true rfl) dX1_copyFrom_75 (fun H locs hM => ?_)
          rcases hq9 : q9.1 with _ | r10
          · rw [hq9] at h
            replace h := oc_n h
            refine W.eq (g2 := F0 m 78 ls [.null]) rfl ?_
            refine lv_astoreN (lv' := [(4, .null), (3, .null), (0, .ref (B + k)), (1, .ref (B + r1)), (2, .int v2)]) hx hb dX1_copyFrom_78 hl (by decide) rfl (fun ls hl => ?_)
            refine lv_aload_nN hx hb dX1_copyFrom_80 rfl (lv_at hl 1 rfl) ?_
            refine lv_ifnullN (tgt := 95) hx hb dX1_copyFrom_81 (by decide) ?_
            refine lv_iinc (v := (v2 + 1)) (lv' := [(2, .int (v2 + 1)), (4, .null), (3, .null), (0, .ref (B + k)), (1, .ref (B + r1))]) hx hb dX1_copyFrom_95 hl (k := 4) rfl rfl (by decide) rfl (fun ls hl => ?_)
            refine lv_goto (tgt := 59) hx hb dX1_copyFrom_98 (by decide) ?_
            exact ih _ _  _ _ _ hM (lv_sub hl [3, 4, 0] rfl) h
          · rw [hq9] at h
            replace h := oc_s h
            obtain ⟨hk_r10, h⟩ := ck_h h
            refine W.eq (g2 := F0 m 78 ls [.ref (B + r10)]) rfl ?_
            refine lv_astore (lv' := [(4, .ref (B + r10)), (3, .null), (0, .ref (B + k)), (1, .ref (B + r1)), (2, .int v2)]) hx hb dX1_copyFrom_78 hl (by decide) rfl (fun ls hl => ?_)
            refine lv_aload_nN hx hb dX1_copyFrom_80 rfl (lv_at hl 1 rfl) ?_
            refine lv_ifnullN (tgt := 95) hx hb dX1_copyFrom_81 (by decide) ?_
            refine lv_iinc (v := (v2 + 1)) (lv' := [(2, .int (v2 + 1)), (4, .ref (B + r10)), (3, .null), (0, .ref (B + k)), (1, .ref (B + r1))]) hx hb dX1_copyFrom_95 hl (k := 4) rfl rfl (by decide) rfl (fun ls hl => ?_)
            refine lv_goto (tgt := 59) hx hb dX1_copyFrom_98 (by decide) ?_
            exact ih _ _  _ _ _ hM (lv_sub hl [3, 4, 0] rfl) h
        · rw [hq7] at h
          replace h := oc_s h
          obtain ⟨hk_r8, h⟩ := ck_h h
          refine W.eq (g2 := F0 m 72 ls [.ref (B + r8)]) rfl ?_
          refine lv_astore_n (lv' := [(3, .ref (B + r8)), (0, .ref (B + k)), (1, .ref (B + r1)), (2, .int v2)]) hx hb dX1_copyFrom_72 rfl hl (by decide) rfl (fun ls hl => ?_)
          refine lv_aload_n hx hb dX1_copyFrom_73 rfl (lv_at hl 2 rfl) ?_
          refine lv_iload_n hx hb dX1_copyFrom_74 rfl (lv_at hl 3 rfl) ?_
          obtain ⟨q11, eq11, h⟩ := bd_h h
          refine x_callV (As := [.int v2]) CX hM (kdl hk_r1 rfl) (ly1 hk_r1 _) rfl lk_X1_52 (c_X1_roomAt l E B hk_r1 eq11) ⟨rfl, rfl, by decide, by decide⟩ rfl hl.1 rfl (Nat.le_of_ble_eq_true rfl) dX1_copyFrom_75 (fun H locs hM => ?_)
          rcases hq11 : q11.1 with _ | r12
          · rw [hq11] at h
            replace h := oc_n h
            refine W.eq (g2 := F0 m 78 ls [.null]) rfl ?_
            refine lv_astoreN (lv' := [(4, .null), (3, .ref (B + r8)), (0, .ref (B + k)), (1, .ref (B + r1)), (2, .int v2)]) hx hb dX1_copyFrom_78 hl (by decide) rfl (fun ls hl => ?_)
            refine lv_aload_n hx hb dX1_copyFrom_80 rfl (lv_at hl 1 rfl) ?_
            refine lv_ifnull hx hb dX1_copyFrom_81 ?_
            refine lv_aloadN hx hb dX1_copyFrom_84 (lv_at hl 0 rfl) ?_
            refine lv_ifnullN (tgt := 95) hx hb dX1_copyFrom_86 (by decide) ?_
            refine lv_iinc (v := (v2 + 1)) (lv' := [(2, .int (v2 + 1)), (4, .null), (3, .ref (B + r8)), (0, .ref (B + k)), (1, .ref (B + r1))]) hx hb dX1_copyFrom_95 hl (k := 4) rfl rfl (by decide) rfl (fun ls hl => ?_)
            refine lv_goto (tgt := 59) hx hb dX1_copyFrom_98 (by decide) ?_
            exact ih _ _  _ _ _ hM (lv_sub hl [3, 4, 0] rfl) h
          · rw [hq11] at h
            replace h := oc_s h
            obtain ⟨hk_r12, h⟩ := ck_h h
            refine W.eq (g2 := F0 m 78 ls [.ref (B + r12)]) rfl ?_
            refine lv_astore (lv' := [(4, .ref (B + r12)), (3, .ref (B + r8)), (0, .ref (B + k)), (1, .ref (B + r1)), (2, .int v2)]) hx hb dX1_copyFrom_78 hl (by decide) rfl (fun ls hl => ?_)
            refine lv_aload_n hx hb dX1_copyFrom_80 rfl (lv_at hl 1 rfl) ?_
            refine lv_ifnull hx hb dX1_copyFrom_81 ?_
            refine lv_aload hx hb dX1_copyFrom_84 (lv_at hl 0 rfl) ?_
            refine lv_ifnull hx hb dX1_copyFrom_86 ?_
            refine lv_aload_n hx hb dX1_copyFrom_89 rfl (lv_at hl 1 rfl) ?_
            refine lv_aload hx hb dX1_copyFrom_90 (lv_at hl 0 rfl) ?_
            obtain ⟨q13, eq13, h⟩ := bd_h h
            refine x_callV (As := [.ref (B + r12)]) CX hM (kdl hk_r8 rfl) (ly3 hk_r8 _) rfl lk_X1_56 (c_X3_copyFrom l E B hk_r8 hk_r12 eq13) ⟨rfl, rfl, by decide, by decide⟩ rfl hl.1 rfl (Nat.le_of_ble_eq_true rfl) dX1_copyFrom_92 (fun H locs hM => ?_)
            refine W.eq (g2 := F0 m 95 ls []) rfl ?_
            refine lv_iinc (v := (v2 + 1)) (lv' := [(2, .int (v2 + 1)), (4, .ref (B + r12)), (3, .ref (B + r8)), (0, .ref (B + k)), (1, .ref (B + r1))]) hx hb dX1_copyFrom_95 hl (k := 4) rfl rfl (by decide) rfl (fun ls hl => ?_)
            refine lv_goto (tgt := 59) hx hb dX1_copyFrom_98 (by decide) ?_
            exact ih _ _  _ _ _ hM (lv_sub hl [3, 4, 0] rfl) h
  refine lv_aload_n hx hb dX1_copyFrom_0 rfl (lv_at hl 1 rfl) ?_
  refine g1_0 CX hM hk_r1 wf_X1_9 dX1_copyFrom_1 ?_
  refine lv_iconst (v := 0) hx hb dX1_copyFrom_4 (by decide) ?_
  refine lv_aload_n hx hb dX1_copyFrom_5 rfl (lv_at hl 0 rfl) ?_
  refine g1_0 CX hM hk_k wf_X1_9 dX1_copyFrom_6 ?_
  refine lv_iconst (v := 0) hx hb dX1_copyFrom_9 (by decide) ?_
  refine lv_bipush (v := 7) hx hb dX1_copyFrom_10 (by decide) ?_
  refine x_acopy (nn := 7) CX hM (kdl (kd1_f hk_r1).1 rfl) (kdl (kd1_f hk_k).1 rfl) (ly10 (kd1_f hk_r1).1 _) (fun f => ly10 (kd1_f hk_k).1 f) (by decide) (by decide) (by decide) (by decide) hl.1 lk_X1_35 (by decide) (Nat.le_of_ble_eq_true rfl) dX1_copyFrom_12 (fun H locs σ1 eσ1 hM => ?_)
  replace h := nm_h eσ1 h
  refine lv_aload_n hx hb dX1_copyFrom_15 rfl (lv_at hl 1 rfl) ?_
  refine g1_2 CX hM hk_r1 wf_X1_21 dX1_copyFrom_16 ?_
  refine lv_iconst (v := 0) hx hb dX1_copyFrom_19 (by decide) ?_
  refine lv_aload_n hx hb dX1_copyFrom_20 rfl (lv_at hl 0 rfl) ?_
  refine g1_2 CX hM hk_k wf_X1_21 dX1_copyFrom_21 ?_
  refine lv_iconst (v := 0) hx hb dX1_copyFrom_24 (by decide) ?_
  refine lv_bipush (v := 36) hx hb dX1_copyFrom_25 (by decide) ?_
  refine x_acopy (nn := 36) CX hM (kdl (kd1_f hk_r1).2.2.1 rfl) (kdl (kd1_f hk_k).2.2.1 rfl) (ly12 (kd1_f hk_r1).2.2.1 _) (fun f => ly12 (kd1_f hk_k).2.2.1 f) (by decide) (by decide) (by decide) (by decide) hl.1 lk_X1_35 (by decide) (Nat.le_of_ble_eq_true rfl) dX1_copyFrom_27 (fun H locs σ2 eσ2 hM => ?_)
  replace h := nm_h eσ2 h
  refine lv_aload_n hx hb dX1_copyFrom_30 rfl (lv_at hl 0 rfl) ?_
  refine g1_3 CX hM hk_k wf_X1_27 dX1_copyFrom_31 ?_
  refine lv_aload_n hx hb dX1_copyFrom_34 rfl (lv_at hl 1 rfl) ?_
  refine g1_3 CX hM hk_r1 wf_X1_27 dX1_copyFrom_35 ?_
  obtain ⟨q3, eq3, h⟩ := bd_h h
  refine x_callV (As := [.ref (B + (r1 + 4))]) CX hM (kdl (kd1_f hk_k).2.2.2 rfl) (ly4 (kd1_f hk_k).2.2.2 _) rfl lk_X1_41 (c_X4_copyFrom l E B ((kd1_f hk_k).2.2.2) ((kd1_f hk_r1).2.2.2) eq3) ⟨rfl, rfl, by decide, by decide⟩ rfl hl.1 rfl (Nat.le_of_ble_eq_true rfl) dX1_copyFrom_38 (fun H locs hM => ?_)
  refine W.eq (g2 := F0 m 41 ls []) rfl ?_
  refine lv_aload_n hx hb dX1_copyFrom_41 rfl (lv_at hl 0 rfl) ?_
  refine lv_aload_n hx hb dX1_copyFrom_42 rfl (lv_at hl 1 rfl) ?_
  refine g1_4 CX hM hk_r1 wf_X1_45 dX1_copyFrom_43 ?_
  refine p1_4 (y := (q3.2 r1 4)) CX hM hk_k wf_X1_45 dX1_copyFrom_46 (fun H locs σ4 eσ4 hM => ?_)
  replace h := nm_h eσ4 h
  refine lv_aload_n hx hb dX1_copyFrom_49 rfl (lv_at hl 0 rfl) ?_
  refine lv_aload_n hx hb dX1_copyFrom_50 rfl (lv_at hl 1 rfl) ?_
  refine g1_5 CX hM hk_r1 wf_X1_49 dX1_copyFrom_51 ?_
  refine p1_5 (y := (σ4 r1 5)) CX hM hk_k wf_X1_49 dX1_copyFrom_54 (fun H locs σ5 eσ5 hM => ?_)
  replace h := nm_h eσ5 h
  refine lv_iconst (v := 0) hx hb dX1_copyFrom_57 (by decide) ?_
  refine lv_istore_n (lv' := [(2, .int 0), (0, .ref (B + k)), (1, .ref (B + r1))]) hx hb dX1_copyFrom_58 rfl hl (by decide) rfl (fun ls hl => ?_)
  exact L59 _ _ _  _ _ _ hM (lv_sub hl [1, 2, 0] rfl) h
def rm_X1_number : Jvm.Room := { frames := 0, cells := 0, slots := 0, locals := 0 }
set_option maxHeartbeats 4000000 in
set_option maxRecDepth 100000 in
theorem c_X1_number (l : Launch) (E : xE) (B : Nat) {k : Nat} {x1 : Int32} {σ : xM} {q : Int32 × xM} (hk_k : kd k = 1) (h : F_X1_number k x1 σ = some q) : Met l yX1_number (Cond.code yX1_number cX1_number 2 (some .int) :: AL) rm_X1_number (xP E B 160 (layX E B) [.ref (B + k), .int x1] σ) (xQ E B 160 (layX E B) (some (.int q.1)) q.2) 0 0 (wA B 160) := by
  refine x_met (plainFor_of_name (by decide +kernel)) (Nat.le_of_ble_eq_true rfl) rfl ?_
  intro p e s m below meth c ls CX hr hlk hM hl
  have hx := CX.1.1
  have hb := CX.1.2.1
  unfold F_X1_number at h
  refine lv_iload_n hx hb dX1_number_0 rfl (lv_at hl 1 rfl) ?_
  refine lv_if_lt (tgt := 22) hx hb dX1_number_1 (by decide) (fun c1 => ?_) (fun c1 => ?_)
  · replace h := it_h c1 h
    refine lv_iconst (v := 0) hx hb dX1_number_22 (by decide) ?_
    obtain rfl := Option.some.inj h
    exact x_iret CX hr hlk hM rfl dX1_number_23
  · replace h := if_h c1 h
    refine lv_iload_n hx hb dX1_number_4 rfl (lv_at hl 1 rfl) ?_
    refine lv_aload_n hx hb dX1_number_5 rfl (lv_at hl 0 rfl) ?_
    refine g1_0 CX hM hk_k wf_X1_9 dX1_number_6 ?_
    refine x_alen (v := 7) CX hM 0 (kdl (kd1_f hk_k).1 rfl) (ly10 (kd1_f hk_k).1 _) rfl rfl dX1_number_9 ?_
    refine lv_icmp_ge (tgt := 22) hx hb dX1_number_10 (by decide) (fun c2 => ?_) (fun c2 => ?_)
    · replace h := it_h c2 h
      refine lv_iconst (v := 0) hx hb dX1_number_22 (by decide) ?_
      obtain rfl := Option.some.inj h
      exact x_iret CX hr hlk hM rfl dX1_number_23
    · replace h := if_h c2 h
      refine lv_aload_n hx hb dX1_number_13 rfl (lv_at hl 0 rfl) ?_
      refine g1_0 CX hM hk_k wf_X1_9 dX1_number_14 ?_
      refine lv_iload_n hx hb dX1_number_17 rfl (lv_at hl 1 rfl) ?_
      obtain ⟨g3, h⟩ := ck_h h
      refine x_iald CX hM (kdl (kd1_f hk_k).1 rfl) (ly10 (kd1_f hk_k).1 _) g3 dX1_number_18 ?_
      refine lv_goto (tgt := 23) hx hb dX1_number_19 (by decide) ?_
      obtain rfl := Option.some.inj h
      exact x_iret CX hr hlk hM rfl dX1_number_23
def rm_X1_putNumber : Jvm.Room := { frames := 0, cells := 0, slots := 0, locals := 0 }
set_option maxHeartbeats 4000000 in
set_option maxRecDepth 100000 in
theorem c_X1_putNumber (l : Launch) (E : xE) (B : Nat) {k : Nat} {x1 : Int32} {x2 : Int32} {σ : xM} {q : Unit × xM} (hk_k : kd k = 1) (h : F_X1_putNumber k x1 x2 σ = some q) : Met l yX1_putNumber (Cond.code yX1_putNumber cX1_putNumber 3 none :: AL) rm_X1_putNumber (xP E B 160 (layX E B) [.ref (B + k), .int x1, .int x2] σ) (xQ E B 160 (layX E B) none q.2) 0 0 (wA B 160) := by
  refine x_met (plainFor_of_name (by decide +kernel)) (Nat.le_of_ble_eq_true rfl) rfl ?_
  intro p e s m below meth c ls CX hr hlk hM hl
  have hx := CX.1.1
  have hb := CX.1.2.1
  unfold F_X1_putNumber at h
  refine lv_iload_n hx hb dX1_putNumber_0 rfl (lv_at hl 1 rfl) ?_
  refine lv_if_lt (tgt := 20) hx hb dX1_putNumber_1 (by decide) (fun c1 => ?_) (fun c1 => ?_)
  · replace h := it_h c1 h
    obtain rfl := Option.some.inj h
    exact x_vret CX hr hlk hM rfl dX1_putNumber_20
  · replace h := if_h c1 h
    refine lv_iload_n hx hb dX1_putNumber_4 rfl (lv_at hl 1 rfl) ?_
    refine lv_aload_n hx hb dX1_putNumber_5 rfl (lv_at hl 0 rfl) ?_
    refine g1_0 CX hM hk_k wf_X1_9 dX1_putNumber_6 ?_
    refine x_alen (v := 7) CX hM 0 (kdl (kd1_f hk_k).1 rfl) (ly10 (kd1_f hk_k).1 _) rfl rfl dX1_putNumber_9 ?_
    refine lv_icmp_ge (tgt := 20) hx hb dX1_putNumber_10 (by decide) (fun c2 => ?_) (fun c2 => ?_)
    · replace h := it_h c2 h
      obtain rfl := Option.some.inj h
      exact x_vret CX hr hlk hM rfl dX1_putNumber_20
    · replace h := if_h c2 h
      refine lv_aload_n hx hb dX1_putNumber_13 rfl (lv_at hl 0 rfl) ?_
      refine g1_0 CX hM hk_k wf_X1_9 dX1_putNumber_14 ?_
      refine lv_iload_n hx hb dX1_putNumber_17 rfl (lv_at hl 1 rfl) ?_
      refine lv_iload_n hx hb dX1_putNumber_18 rfl (lv_at hl 2 rfl) ?_
      obtain ⟨g3, h⟩ := ck_h h
      refine x_iast CX hM (kdl (kd1_f hk_k).1 rfl) (fun f => ly10 (kd1_f hk_k).1 f) g3 dX1_putNumber_19 (fun H locs σ4 eσ4 hM => ?_)
      replace h := nm_h eσ4 h
      obtain rfl := Option.some.inj h
      exact x_vret CX hr hlk hM rfl dX1_putNumber_20
def rm_J9_floorDiv_7cf53 : Jvm.Room := { frames := 0, cells := 0, slots := 0, locals := 0 }
set_option maxHeartbeats 4000000 in
set_option maxRecDepth 100000 in
theorem c_J9_floorDiv_7cf53 (l : Launch) (E : xE) (B : Nat) {x0 : Int32} {x1 : Int32} {σ : xM} {q : Int32 × xM}  (h : F_J9_floorDiv_7cf53 x0 x1 σ = some q) : Met l yJ9_floorDiv_7cf53 (Cond.code yJ9_floorDiv_7cf53 cJ9_floorDiv_7cf53 3 (some .int) :: AL) rm_J9_floorDiv_7cf53 (xP E B 160 (layX E B) [.int x0, .int x1] σ) (xQ E B 160 (layX E B) (some (.int q.1)) q.2) 0 0 (wA B 160) := by
  refine x_met (by decide +kernel) (Nat.le_of_ble_eq_true rfl) rfl ?_
  intro p e s m below meth c ls CX hr hlk hM hl
  have hx := CX.1.1
  have hb := CX.1.2.1
  unfold F_J9_floorDiv_7cf53 at h
  refine lv_iload_n hx hb dJ9_floorDiv_7cf53_0 rfl (lv_at hl 0 rfl) ?_
  refine lv_iload_n hx hb dJ9_floorDiv_7cf53_1 rfl (lv_at hl 1 rfl) ?_
  obtain ⟨g4, h⟩ := nz_h h
  refine lv_idiv hx hb dJ9_floorDiv_7cf53_2 g4 ?_
  refine lv_topi (fun x2_1 ex2_1 => ?_)
  replace h := nm_h ex2_1 h
  refine lv_istore_n (lv' := [(2, .int x2_1), (0, .int x0), (1, .int x1)]) hx hb dJ9_floorDiv_7cf53_3 rfl hl (by decide) rfl (fun ls hl => ?_)
  refine lv_iload_n hx hb dJ9_floorDiv_7cf53_4 rfl (lv_at hl 1 rfl) ?_
  refine lv_iload_n hx hb dJ9_floorDiv_7cf53_5 rfl (lv_at hl 2 rfl) ?_
  refine lv_ixor hx hb dJ9_floorDiv_7cf53_6 ?_
  refine lv_if_ge (tgt := 21) hx hb dJ9_floorDiv_7cf53_7 (by decide) (fun c2 => ?_) (fun c2 => ?_)
  · replace h := it_h c2 h
    refine lv_iload_n hx hb dJ9_floorDiv_7cf53_21 rfl (lv_at hl 0 rfl) ?_
    obtain rfl := Option.some.inj h
    exact x_iret CX hr hlk hM rfl dJ9_floorDiv_7cf53_22
  · replace h := if_h c2 h
    refine lv_iload_n hx hb dJ9_floorDiv_7cf53_10 rfl (lv_at hl 0 rfl) ?_
    refine lv_iload_n hx hb dJ9_floorDiv_7cf53_11 rfl (lv_at hl 2 rfl) ?_
    refine lv_imul hx hb dJ9_floorDiv_7cf53_12 ?_
    refine lv_iload_n hx hb dJ9_floorDiv_7cf53_13 rfl (lv_at hl 1 rfl) ?_
    refine lv_icmp_eq (tgt := 21) hx hb dJ9_floorDiv_7cf53_14 (by decide) (fun c3 => ?_) (fun c3 => ?_)
    · replace h := it_h c3 h
      refine lv_iload_n hx hb dJ9_floorDiv_7cf53_21 rfl (lv_at hl 0 rfl) ?_
      obtain rfl := Option.some.inj h
      exact x_iret CX hr hlk hM rfl dJ9_floorDiv_7cf53_22
    · replace h := if_h c3 h
      refine lv_iload_n hx hb dJ9_floorDiv_7cf53_17 rfl (lv_at hl 0 rfl) ?_
      refine lv_iconst (v := 1) hx hb dJ9_floorDiv_7cf53_18 (by decide) ?_
      refine lv_isub hx hb dJ9_floorDiv_7cf53_19 ?_
      obtain rfl := Option.some.inj h
      exact x_iret CX hr hlk hM rfl dJ9_floorDiv_7cf53_20
def rm_X3_temperatureWith : Jvm.Room := { frames := 1, cells := 0, slots := 0, locals := 22 }
set_option maxHeartbeats 4000000 in
set_option maxRecDepth 100000 in
theorem c_X3_temperatureWith (l : Launch) (E : xE) (B : Nat) {k : Nat} {x1 : Int32} {σ : xM} {q : Int32 × xM} (hk_k : kd k = 3) (h : F_X3_temperatureWith k x1 σ = some q) : Met l yX3_temperatureWith (Cond.code yX3_temperatureWith cX3_temperatureWith 2 (some .int) :: AL) rm_X3_temperatureWith (xP E B 160 (layX E B) [.ref (B + k), .int x1] σ) (xQ E B 160 (layX E B) (some (.int q.1)) q.2) 0 0 (wA B 160) := by
  refine x_met (plainFor_of_name (by decide +kernel)) (Nat.le_of_ble_eq_true rfl) rfl ?_
  intro p e s m below meth c ls CX hr hlk hM hl
  have hx := CX.1.1
  have hb := CX.1.2.1
  unfold F_X3_temperatureWith at h
  refine lv_aload_n hx hb dX3_temperatureWith_0 rfl (lv_at hl 0 rfl) ?_
  refine g3_1 CX hM hk_k wf_X3_18 dX3_temperatureWith_1 ?_
  refine lv_if_le (tgt := 22) hx hb dX3_temperatureWith_4 (by decide) (fun c1 => ?_) (fun c1 => ?_)
  · replace h := it_h c1 h
    refine lv_iconst (v := 0) hx hb dX3_temperatureWith_22 (by decide) ?_
    obtain rfl := Option.some.inj h
    exact x_iret CX hr hlk hM rfl dX3_temperatureWith_23
  · replace h := if_h c1 h
    refine lv_sipush (v := 1000) hx hb dX3_temperatureWith_7 (by decide) ?_
    refine lv_iload_n hx hb dX3_temperatureWith_10 rfl (lv_at hl 1 rfl) ?_
    refine lv_imul hx hb dX3_temperatureWith_11 ?_
    refine lv_aload_n hx hb dX3_temperatureWith_12 rfl (lv_at hl 0 rfl) ?_
    refine g3_1 CX hM hk_k wf_X3_18 dX3_temperatureWith_13 ?_
    obtain ⟨q2, eq2, h⟩ := bd_h h
    refine x_callS (As := [.int (1000 * x1), .int (σ k 1)]) CX hM lk_X3_88 (c_J9_floorDiv_7cf53 l E B  eq2) ⟨rfl, rfl, by decide, by decide⟩ rfl hl.1 rfl (Nat.le_of_ble_eq_true rfl) dX3_temperatureWith_16 (fun H locs hM => ?_)
    refine W.eq (g2 := F0 m 19 ls [.int q2.1]) rfl ?_
    refine lv_goto (tgt := 23) hx hb dX3_temperatureWith_19 (by decide) ?_
    obtain rfl := Option.some.inj h
    exact x_iret CX hr hlk hM rfl dX3_temperatureWith_23
def rm_X3_temperature : Jvm.Room := { frames := 2, cells := 0, slots := 0, locals := 43 }
set_option maxHeartbeats 4000000 in
set_option maxRecDepth 100000 in
theorem c_X3_temperature (l : Launch) (E : xE) (B : Nat) {k : Nat} {σ : xM} {q : Int32 × xM} (hk_k : kd k = 3) (h : F_X3_temperature k σ = some q) : Met l yX3_temperature (Cond.code yX3_temperature cX3_temperature 1 (some .int) :: AL) rm_X3_temperature (xP E B 160 (layX E B) [.ref (B + k)] σ) (xQ E B 160 (layX E B) (some (.int q.1)) q.2) 0 0 (wA B 160) := by
  refine x_met (plainFor_of_name (by decide +kernel)) (Nat.le_of_ble_eq_true rfl) rfl ?_
  intro p e s m below meth c ls CX hr hlk hM hl
  have hx := CX.1.1
  have hb := CX.1.2.1
  unfold F_X3_temperature at h
  refine lv_aload_n hx hb dX3_temperature_0 rfl (lv_at hl 0 rfl) ?_
  refine lv_aload_n hx hb dX3_temperature_1 rfl (lv_at hl 0 rfl) ?_
  refine g3_4 CX hM hk_k wf_X3_28 dX3_temperature_2 ?_
  obtain ⟨q1, eq1, h⟩ := bd_h h
  refine x_callV (As := [.int (σ k 4)]) CX hM (kdl hk_k rfl) (ly3 hk_k _) rfl lk_X3_84 (c_X3_temperatureWith l E B hk_k eq1) ⟨rfl, rfl, by decide, by decide⟩ rfl hl.1 rfl (Nat.le_of_ble_eq_true rfl) dX3_temperature_5 (fun H locs hM => ?_)
  refine W.eq (g2 := F0 m 8 ls [.int q1.1]) rfl ?_
  obtain rfl := Option.some.inj h
  exact x_iret CX hr hlk hM rfl dX3_temperature_8
end
section
def rm_X3_begin : Jvm.Room := { frames := 3, cells := 0, slots := 0, locals := 63 }
set_option maxHeartbeats 4000000 in
set_option maxRecDepth 100000 in
theorem c_X3_begin (l : Launch) (E : xE) (B : Nat) {k : Nat} {x1 : Int32} {x2 : Int32} {x3 : Int32} {x4 : Int32} {σ : xM} {q : Unit × xM} (hk_k : kd k = 3) (h : F_X3_begin k x1 x2 x3 x4 σ = some q) : Met l yX3_begin (Cond.code yX3_begin cX3_begin 5 none :: AL) rm_X3_begin (xP E B 160 (layX E B) [.ref (B + k), .int x1, .int x2, .int x3, .int x4] σ) (xQ E B 160 (layX E B) none q.2) 0 0 (wA B 160) := by
  refine x_met (plainFor_of_name (by decide +kernel)) (Nat.le_of_ble_eq_true rfl) rfl ?_
  intro p e s m below meth c ls CX hr hlk hM hl
  have hx := CX.1.1
  have hb := CX.1.2.1
  unfold F_X3_begin at h
  refine lv_aload_n hx hb dX3_begin_0 rfl (lv_at hl 0 rfl) ?_
  refine lv_iload_n hx hb dX3_begin_1 rfl (lv_at hl 1 rfl) ?_
  refine p3_1 (y := x1) CX hM hk_k wf_X3_18 dX3_begin_2 (fun H locs σ1 eσ1 hM => ?_)
  replace h := nm_h eσ1 h
  refine lv_aload_n hx hb dX3_begin_5 rfl (lv_at hl 0 rfl) ?_
  refine lv_iload_n hx hb dX3_begin_6 rfl (lv_at hl 2 rfl) ?_
  refine p3_2 (y := x2) CX hM hk_k wf_X3_22 dX3_begin_7 (fun H locs σ2 eσ2 hM => ?_)
  replace h := nm_h eσ2 h
  refine lv_aload_n hx hb dX3_begin_10 rfl (lv_at hl 0 rfl) ?_
  refine lv_iload_n hx hb dX3_begin_11 rfl (lv_at hl 3 rfl) ?_
  refine p3_3 (y := x3) CX hM hk_k wf_X3_25 dX3_begin_12 (fun H locs σ3 eσ3 hM => ?_)
  replace h := nm_h eσ3 h
  refine lv_aload_n hx hb dX3_begin_15 rfl (lv_at hl 0 rfl) ?_
  refine lv_iload_n hx hb dX3_begin_16 rfl (lv_at hl 1 rfl) ?_
  refine lv_iload hx hb dX3_begin_17 (lv_at hl 4 rfl) ?_
  refine lv_imul hx hb dX3_begin_19 ?_
  refine p3_4 (y := (x1 * x4)) CX hM hk_k wf_X3_28 dX3_begin_20 (fun H locs σ4 eσ4 hM => ?_)
  replace h := nm_h eσ4 h
  refine lv_aload_n hx hb dX3_begin_23 rfl (lv_at hl 0 rfl) ?_
  refine lv_sipush (v := 20000) hx hb dX3_begin_24 (by decide) ?_
  refine p3_5 (y := 20000) CX hM hk_k wf_X3_31 dX3_begin_27 (fun H locs σ5 eσ5 hM => ?_)
  replace h := nm_h eσ5 h
  refine lv_aload_n hx hb dX3_begin_30 rfl (lv_at hl 0 rfl) ?_
  refine lv_sipush (v := 1000) hx hb dX3_begin_31 (by decide) ?_
  refine p3_6 (y := 1000) CX hM hk_k wf_X3_34 dX3_begin_34 (fun H locs σ6 eσ6 hM => ?_)
  replace h := nm_h eσ6 h
  refine lv_aload_n hx hb dX3_begin_37 rfl (lv_at hl 0 rfl) ?_
  refine lv_aload_n hx hb dX3_begin_38 rfl (lv_at hl 0 rfl) ?_
  obtain ⟨q7, eq7, h⟩ := bd_h h
  refine x_callV (As := []) CX hM (kdl hk_k rfl) (ly3 hk_k _) rfl lk_X3_37 (c_X3_temperature l E B hk_k eq7) ⟨rfl, rfl, by decide, by decide⟩ rfl hl.1 rfl (Nat.le_of_ble_eq_true rfl) dX3_begin_39 (fun H locs hM => ?_)
  refine W.eq (g2 := F0 m 42 ls [.int q7.1, .ref (B + k)]) rfl ?_
  refine p3_7 (y := q7.1) CX hM hk_k wf_X3_41 dX3_begin_42 (fun H locs σ8 eσ8 hM => ?_)
  replace h := nm_h eσ8 h
  refine lv_aload_n hx hb dX3_begin_45 rfl (lv_at hl 0 rfl) ?_
  refine lv_iconst (v := 0) hx hb dX3_begin_46 (by decide) ?_
  refine p3_8 (y := 0) CX hM hk_k wf_X3_44 dX3_begin_47 (fun H locs σ9 eσ9 hM => ?_)
  replace h := nm_h eσ9 h
  refine lv_aload_n hx hb dX3_begin_50 rfl (lv_at hl 0 rfl) ?_
  refine lv_iconst (v := 0) hx hb dX3_begin_51 (by decide) ?_
  refine p3_9 (y := 0) CX hM hk_k wf_X3_48 dX3_begin_52 (fun H locs σ10 eσ10 hM => ?_)
  replace h := nm_h eσ10 h
  refine lv_aload_n hx hb dX3_begin_55 rfl (lv_at hl 0 rfl) ?_
  refine lv_iconst (v := 0) hx hb dX3_begin_56 (by decide) ?_
  refine p3_10 (y := 0) CX hM hk_k wf_X3_51 dX3_begin_57 (fun H locs σ11 eσ11 hM => ?_)
  replace h := nm_h eσ11 h
  refine lv_aload_n hx hb dX3_begin_60 rfl (lv_at hl 0 rfl) ?_
  refine lv_iconst (v := 0) hx hb dX3_begin_61 (by decide) ?_
  refine p3_11 (y := 0) CX hM hk_k wf_X3_54 dX3_begin_62 (fun H locs σ12 eσ12 hM => ?_)
  replace h := nm_h eσ12 h
  refine lv_aload_n hx hb dX3_begin_65 rfl (lv_at hl 0 rfl) ?_
  refine lv_iconst (v := 0) hx hb dX3_begin_66 (by decide) ?_
  refine p3_12 (y := 0) CX hM hk_k wf_X3_57 dX3_begin_67 (fun H locs σ13 eσ13 hM => ?_)
  replace h := nm_h eσ13 h
  refine lv_aload_n hx hb dX3_begin_70 rfl (lv_at hl 0 rfl) ?_
  refine lv_iconst (v := 0) hx hb dX3_begin_71 (by decide) ?_
  refine p3_13 (y := 0) CX hM hk_k wf_X3_60 dX3_begin_72 (fun H locs σ14 eσ14 hM => ?_)
  replace h := nm_h eσ14 h
  refine lv_aload_n hx hb dX3_begin_75 rfl (lv_at hl 0 rfl) ?_
  refine lv_ldc (v := (-1000009)) hx hb CX.1.2.2.2.1 (x_hts CX wc_X3_63) dX3_begin_76 ?_
  refine p3_14 (y := (-1000009)) CX hM hk_k wf_X3_64 dX3_begin_78 (fun H locs σ15 eσ15 hM => ?_)
  replace h := nm_h eσ15 h
  refine lv_aload_n hx hb dX3_begin_81 rfl (lv_at hl 0 rfl) ?_
  refine lv_iconst (v := 0) hx hb dX3_begin_82 (by decide) ?_
  refine p3_15 (y := 0) CX hM hk_k wf_X3_67 dX3_begin_83 (fun H locs σ16 eσ16 hM => ?_)
  replace h := nm_h eσ16 h
  refine lv_aload_n hx hb dX3_begin_86 rfl (lv_at hl 0 rfl) ?_
  refine lv_iconst (v := 0) hx hb dX3_begin_87 (by decide) ?_
  refine p3_16 (y := 0) CX hM hk_k wf_X3_70 dX3_begin_88 (fun H locs σ17 eσ17 hM => ?_)
  replace h := nm_h eσ17 h
  refine lv_aload_n hx hb dX3_begin_91 rfl (lv_at hl 0 rfl) ?_
  refine lv_iconst (v := 0) hx hb dX3_begin_92 (by decide) ?_
  refine p3_17 (y := 0) CX hM hk_k wf_X3_73 dX3_begin_93 (fun H locs σ18 eσ18 hM => ?_)
  replace h := nm_h eσ18 h
  refine lv_aload_n hx hb dX3_begin_96 rfl (lv_at hl 0 rfl) ?_
  refine g3_0 CX hM hk_k wf_X3_12 dX3_begin_97 ?_
  refine lv_aload_n hx hb dX3_begin_100 rfl (lv_at hl 0 rfl) ?_
  refine g3_4 CX hM hk_k wf_X3_28 dX3_begin_101 ?_
  obtain ⟨q19, eq19, h⟩ := bd_h h
  refine x_callV (As := [.int (σ18 k 4)]) CX hM (kdl (kd3_f hk_k) rfl) (ly0 (kd3_f hk_k) _) rfl lk_X3_76 (c_X0_begin l E B (kd3_f hk_k) eq19) ⟨rfl, rfl, by decide, by decide⟩ rfl hl.1 rfl (Nat.le_of_ble_eq_true rfl) dX3_begin_104 (fun H locs hM => ?_)
  refine W.eq (g2 := F0 m 107 ls []) rfl ?_
  obtain rfl := Option.some.inj h
  exact x_vret CX hr hlk hM rfl dX3_begin_107
def rm_X1_beginRoom : Jvm.Room := { frames := 4, cells := 0, slots := 0, locals := 87 }
set_option maxHeartbeats 4000000 in
set_option maxRecDepth 100000 in
theorem c_X1_beginRoom (l : Launch) (E : xE) (B : Nat) {k : Nat} {x1 : Int32} {x2 : Int32} {x3 : Int32} {x4 : Int32} {σ : xM} {q : Int32 × xM} (hk_k : kd k = 1) (h : F_X1_beginRoom k x1 x2 x3 x4 σ = some q) : Met l yX1_beginRoom (Cond.code yX1_beginRoom cX1_beginRoom 7 (some .int) :: AL) rm_X1_beginRoom (xP E B 160 (layX E B) [.ref (B + k), .int x1, .int x2, .int x3, .int x4] σ) (xQ E B 160 (layX E B) (some (.int q.1)) q.2) 0 0 (wA B 160) := by
  refine x_met (plainFor_of_name (by decide +kernel)) (Nat.le_of_ble_eq_true rfl) rfl ?_
  intro p e s m below meth c ls CX hr hlk hM hl
  have hx := CX.1.1
  have hb := CX.1.2.1
  unfold F_X1_beginRoom at h
  refine lv_aload_n hx hb dX1_beginRoom_0 rfl (lv_at hl 0 rfl) ?_
  refine g1_4 CX hM hk_k wf_X1_45 dX1_beginRoom_1 ?_
  refine lv_topi (fun x5_1 ex5_1 => ?_)
  replace h := nm_h ex5_1 h
  refine lv_istore (lv' := [(5, .int x5_1), (0, .ref (B + k)), (1, .int x1), (2, .int x2), (3, .int x3), (4, .int x4)]) hx hb dX1_beginRoom_4 hl (by decide) rfl (fun ls hl => ?_)
  refine lv_aload_n hx hb dX1_beginRoom_6 rfl (lv_at hl 1 rfl) ?_
  refine lv_dup hx hb dX1_beginRoom_7 rfl ?_
  refine g1_4 CX hM hk_k wf_X1_45 dX1_beginRoom_8 ?_
  refine lv_iconst (v := 1) hx hb dX1_beginRoom_11 (by decide) ?_
  refine lv_iadd hx hb dX1_beginRoom_12 ?_
  refine p1_4 (y := ((σ k 4) + 1)) CX hM hk_k wf_X1_45 dX1_beginRoom_13 (fun H locs σ2 eσ2 hM => ?_)
  replace h := nm_h eσ2 h
  refine lv_aload_n hx hb dX1_beginRoom_16 rfl (lv_at hl 1 rfl) ?_
  refine lv_iload hx hb dX1_beginRoom_17 (lv_at hl 0 rfl) ?_
  obtain ⟨q3, eq3, h⟩ := bd_h h
  refine x_callV (As := [.int x5_1]) CX hM (kdl hk_k rfl) (ly1 hk_k _) rfl lk_X1_52 (c_X1_roomAt l E B hk_k eq3) ⟨rfl, rfl, by decide, by decide⟩ rfl hl.1 rfl (Nat.le_of_ble_eq_true rfl) dX1_beginRoom_19 (fun H locs hM => ?_)
  rcases hq3 : q3.1 with _ | r4
  · rw [hq3] at h
    replace h := oc_n h
    refine W.eq (g2 := F0 m 22 ls [.null]) rfl ?_
    refine lv_astoreN (lv' := [(6, .null), (5, .int x5_1), (0, .ref (B + k)), (1, .int x1), (2, .int x2), (3, .int x3), (4, .int x4)]) hx hb dX1_beginRoom_22 hl (by decide) rfl (fun ls hl => ?_)
    refine lv_aloadN hx hb dX1_beginRoom_24 (lv_at hl 0 rfl) ?_
    refine lv_ifnullN (tgt := 39) hx hb dX1_beginRoom_26 (by decide) ?_
    refine lv_iload hx hb dX1_beginRoom_39 (lv_at hl 1 rfl) ?_
    obtain rfl := Option.some.inj h
    exact x_iret CX hr hlk hM rfl dX1_beginRoom_41
  · rw [hq3] at h
    replace h := oc_s h
    obtain ⟨hk_r4, h⟩ := ck_h h
    refine W.eq (g2 := F0 m 22 ls [.ref (B + r4)]) rfl ?_
    refine lv_astore (lv' := [(6, .ref (B + r4)), (5, .int x5_1), (0, .ref (B + k)), (1, .int x1), (2, .int x2), (3, .int x3), (4, .int x4)]) hx hb dX1_beginRoom_22 hl (by decide) rfl (fun ls hl => ?_)
    refine lv_aload hx hb dX1_beginRoom_24 (lv_at hl 0 rfl) ?_
    refine lv_ifnull hx hb dX1_beginRoom_26 ?_
    refine lv_aload hx hb dX1_beginRoom_29 (lv_at hl 0 rfl) ?_
    refine lv_iload_n hx hb dX1_beginRoom_31 rfl (lv_at hl 3 rfl) ?_
    refine lv_iload_n hx hb dX1_beginRoom_32 rfl (lv_at hl 4 rfl) ?_
    refine lv_iload_n hx hb dX1_beginRoom_33 rfl (lv_at hl 5 rfl) ?_
    refine lv_iload hx hb dX1_beginRoom_34 (lv_at hl 6 rfl) ?_
    obtain ⟨q5, eq5, h⟩ := bd_h h
    refine x_callV (As := [.int x1, .int x2, .int x3, .int x4]) CX hM (kdl hk_r4 rfl) (ly3 hk_r4 _) rfl lk_X1_59 (c_X3_begin l E B hk_r4 eq5) ⟨rfl, rfl, by decide, by decide⟩ rfl hl.1 rfl (Nat.le_of_ble_eq_true rfl) dX1_beginRoom_36 (fun H locs hM => ?_)
    refine W.eq (g2 := F0 m 39 ls []) rfl ?_
    refine lv_iload hx hb dX1_beginRoom_39 (lv_at hl 1 rfl) ?_
    obtain rfl := Option.some.inj h
    exact x_iret CX hr hlk hM rfl dX1_beginRoom_41
def rm_X1_hasPair : Jvm.Room := { frames := 1, cells := 0, slots := 0, locals := 21 }
set_option maxHeartbeats 4000000 in
set_option maxRecDepth 100000 in
theorem c_X1_hasPair (l : Launch) (E : xE) (B : Nat) {k : Nat} {x1 : Int32} {x2 : Int32} {σ : xM} {q : Int32 × xM} (hk_k : kd k = 1) (h : F_X1_hasPair k x1 x2 σ = some q) : Met l yX1_hasPair (Cond.code yX1_hasPair cX1_hasPair 3 (some .boolean) :: AL) rm_X1_hasPair (xP E B 160 (layX E B) [.ref (B + k), .int x1, .int x2] σ) (xQ E B 160 (layX E B) (some (.int (bz q.1))) q.2) 0 0 (wA B 160) := by
  refine x_met (plainFor_of_name (by decide +kernel)) (Nat.le_of_ble_eq_true rfl) rfl ?_
  intro p e s m below meth c ls CX hr hlk hM hl
  have hx := CX.1.1
  have hb := CX.1.2.1
  unfold F_X1_hasPair at h
  refine lv_iload_n hx hb dX1_hasPair_0 rfl (lv_at hl 1 rfl) ?_
  refine lv_iload_n hx hb dX1_hasPair_1 rfl (lv_at hl 2 rfl) ?_
  refine lv_icmp_eq (tgt := 25) hx hb dX1_hasPair_2 (by decide) (fun c1 => ?_) (fun c1 => ?_)
  · replace h := it_h c1 h
    refine lv_iconst (v := 0) hx hb dX1_hasPair_25 (by decide) ?_
    obtain rfl := Option.some.inj h
    exact x_zret (y := 0) CX hr hlk hM rfl rfl dX1_hasPair_26
  · replace h := if_h c1 h
    refine lv_aload_n hx hb dX1_hasPair_5 rfl (lv_at hl 0 rfl) ?_
    refine lv_iload_n hx hb dX1_hasPair_6 rfl (lv_at hl 1 rfl) ?_
    obtain ⟨q2, eq2, h⟩ := bd_h h
    refine x_callV (As := [.int x1]) CX hM (kdl hk_k rfl) (ly1 hk_k _) rfl lk_X1_52 (c_X1_roomAt l E B hk_k eq2) ⟨rfl, rfl, by decide, by decide⟩ rfl hl.1 rfl (Nat.le_of_ble_eq_true rfl) dX1_hasPair_7 (fun H locs hM => ?_)
    rcases hq2 : q2.1 with _ | r3
    · rw [hq2] at h
      replace h := oc_n h
      refine W.eq (g2 := F0 m 10 ls [.null]) rfl ?_
      refine lv_ifnullN (tgt := 25) hx hb dX1_hasPair_10 (by decide) ?_
      refine lv_iconst (v := 0) hx hb dX1_hasPair_25 (by decide) ?_
      obtain rfl := Option.some.inj h
      exact x_zret (y := 0) CX hr hlk hM rfl rfl dX1_hasPair_26
    · rw [hq2] at h
      replace h := oc_s h
      obtain ⟨hk_r3, h⟩ := ck_h h
      refine W.eq (g2 := F0 m 10 ls [.ref (B + r3)]) rfl ?_
      refine lv_ifnull hx hb dX1_hasPair_10 ?_
      refine lv_aload_n hx hb dX1_hasPair_13 rfl (lv_at hl 0 rfl) ?_
      refine lv_iload_n hx hb dX1_hasPair_14 rfl (lv_at hl 2 rfl) ?_
      obtain ⟨q4, eq4, h⟩ := bd_h h
      refine x_callV (As := [.int x2]) CX hM (kdl hk_k rfl) (ly1 hk_k _) rfl lk_X1_52 (c_X1_roomAt l E B hk_k eq4) ⟨rfl, rfl, by decide, by decide⟩ rfl hl.1 rfl (Nat.le_of_ble_eq_true rfl) dX1_hasPair_15 (fun H locs hM => ?_)
      rcases hq4 : q4.1 with _ | r5
      · rw [hq4] at h
        replace h := oc_n h
        refine W.eq (g2 := F0 m 18 ls [.null]) rfl ?_
        refine lv_ifnullN (tgt := 25) hx hb dX1_hasPair_18 (by decide) ?_
        refine lv_iconst (v := 0) hx hb dX1_hasPair_25 (by decide) ?_
        obtain rfl := Option.some.inj h
        exact x_zret (y := 0) CX hr hlk hM rfl rfl dX1_hasPair_26
      · rw [hq4] at h
        replace h := oc_s h
        obtain ⟨hk_r5, h⟩ := ck_h h
        refine W.eq (g2 := F0 m 18 ls [.ref (B + r5)]) rfl ?_
        refine lv_ifnull hx hb dX1_hasPair_18 ?_
        refine lv_iconst (v := 1) hx hb dX1_hasPair_21 (by decide) ?_
        refine lv_goto (tgt := 26) hx hb dX1_hasPair_22 (by decide) ?_
        obtain rfl := Option.some.inj h
        exact x_zret (y := 1) CX hr hlk hM rfl rfl dX1_hasPair_26
def rm_X1_linkPlace : Jvm.Room := { frames := 0, cells := 0, slots := 0, locals := 0 }
set_option maxHeartbeats 4000000 in
set_option maxRecDepth 100000 in
theorem c_X1_linkPlace (l : Launch) (E : xE) (B : Nat) {x0 : Int32} {x1 : Int32} {σ : xM} {q : Int32 × xM}  (h : F_X1_linkPlace x0 x1 σ = some q) : Met l yX1_linkPlace (Cond.code yX1_linkPlace cX1_linkPlace 2 (some .int) :: AL) rm_X1_linkPlace (xP E B 160 (layX E B) [.int x0, .int x1] σ) (xQ E B 160 (layX E B) (some (.int q.1)) q.2) 0 0 (wA B 160) := by
  refine x_met (plainFor_of_name (by decide +kernel)) (Nat.le_of_ble_eq_true rfl) rfl ?_
  intro p e s m below meth c ls CX hr hlk hM hl
  have hx := CX.1.1
  have hb := CX.1.2.1
  unfold F_X1_linkPlace at h
  refine lv_iload_n hx hb dX1_linkPlace_0 rfl (lv_at hl 0 rfl) ?_
  refine lv_bipush (v := 6) hx hb dX1_linkPlace_1 (by decide) ?_
  refine lv_imul hx hb dX1_linkPlace_3 ?_
  refine lv_iload_n hx hb dX1_linkPlace_4 rfl (lv_at hl 1 rfl) ?_
  refine lv_iadd hx hb dX1_linkPlace_5 ?_
  obtain rfl := Option.some.inj h
  exact x_iret CX hr hlk hM rfl dX1_linkPlace_6
def rm_X1_linkOf : Jvm.Room := { frames := 1, cells := 0, slots := 0, locals := 21 }
set_option maxHeartbeats 4000000 in
set_option maxRecDepth 100000 in
theorem c_X1_linkOf (l : Launch) (E : xE) (B : Nat) {k : Nat} {x1 : Int32} {x2 : Int32} {σ : xM} {q : Int32 × xM} (hk_k : kd k = 1) (h : F_X1_linkOf k x1 x2 σ = some q) : Met l yX1_linkOf (Cond.code yX1_linkOf cX1_linkOf 4 (some .int) :: AL) rm_X1_linkOf (xP E B 160 (layX E B) [.ref (B + k), .int x1, .int x2] σ) (xQ E B 160 (layX E B) (some (.int q.1)) q.2) 0 0 (wA B 160) := by
  refine x_met (plainFor_of_name (by decide +kernel)) (Nat.le_of_ble_eq_true rfl) rfl ?_
  intro p e s m below meth c ls CX hr hlk hM hl
  have hx := CX.1.1
  have hb := CX.1.2.1
  unfold F_X1_linkOf at h
  refine lv_iload_n hx hb dX1_linkOf_0 rfl (lv_at hl 1 rfl) ?_
  refine lv_iload_n hx hb dX1_linkOf_1 rfl (lv_at hl 2 rfl) ?_
  obtain ⟨q1, eq1, h⟩ := bd_h h
  refine x_callS (As := [.int x1, .int x2]) CX hM lk_X1_63 (c_X1_linkPlace l E B  eq1) ⟨rfl, rfl, by decide, by decide⟩ rfl hl.1 rfl (Nat.le_of_ble_eq_true rfl) dX1_linkOf_2 (fun H locs hM => ?_)
  refine W.eq (g2 := F0 m 5 ls [.int q1.1]) rfl ?_
  refine lv_istore_n (lv' := [(3, .int q1.1), (0, .ref (B + k)), (1, .int x1), (2, .int x2)]) hx hb dX1_linkOf_5 rfl hl (by decide) rfl (fun ls hl => ?_)
  refine lv_iload_n hx hb dX1_linkOf_6 rfl (lv_at hl 0 rfl) ?_
  refine lv_if_lt (tgt := 28) hx hb dX1_linkOf_7 (by decide) (fun c2 => ?_) (fun c2 => ?_)
  · replace h := it_h c2 h
    refine lv_iconst (v := 0) hx hb dX1_linkOf_28 (by decide) ?_
    obtain rfl := Option.some.inj h
    exact x_iret CX hr hlk hM rfl dX1_linkOf_29
  · replace h := if_h c2 h
    refine lv_iload_n hx hb dX1_linkOf_10 rfl (lv_at hl 0 rfl) ?_
    refine lv_aload_n hx hb dX1_linkOf_11 rfl (lv_at hl 1 rfl) ?_
    refine g1_2 CX hM hk_k wf_X1_21 dX1_linkOf_12 ?_
    refine x_alen (v := 36) CX hM 0 (kdl (kd1_f hk_k).2.2.1 rfl) (ly12 (kd1_f hk_k).2.2.1 _) rfl rfl dX1_linkOf_15 ?_
    refine lv_icmp_ge (tgt := 28) hx hb dX1_linkOf_16 (by decide) (fun c3 => ?_) (fun c3 => ?_)
    · replace h := it_h c3 h
      refine lv_iconst (v := 0) hx hb dX1_linkOf_28 (by decide) ?_
      obtain rfl := Option.some.inj h
      exact x_iret CX hr hlk hM rfl dX1_linkOf_29
    · replace h := if_h c3 h
      refine lv_aload_n hx hb dX1_linkOf_19 rfl (lv_at hl 1 rfl) ?_
      refine g1_2 CX hM hk_k wf_X1_21 dX1_linkOf_20 ?_
      refine lv_iload_n hx hb dX1_linkOf_23 rfl (lv_at hl 0 rfl) ?_
      obtain ⟨g4, h⟩ := ck_h h
      refine x_iald CX hM (kdl (kd1_f hk_k).2.2.1 rfl) (ly12 (kd1_f hk_k).2.2.1 _) g4 dX1_linkOf_24 ?_
      refine lv_goto (tgt := 29) hx hb dX1_linkOf_25 (by decide) ?_
      obtain rfl := Option.some.inj h
      exact x_iret CX hr hlk hM rfl dX1_linkOf_29
def rm_X1_putLinkAt : Jvm.Room := { frames := 0, cells := 0, slots := 0, locals := 0 }
set_option maxHeartbeats 4000000 in
set_option maxRecDepth 100000 in
theorem c_X1_putLinkAt (l : Launch) (E : xE) (B : Nat) {k : Nat} {x1 : Int32} {x2 : Int32} {σ : xM} {q : Unit × xM} (hk_k : kd k = 1) (h : F_X1_putLinkAt k x1 x2 σ = some q) : Met l yX1_putLinkAt (Cond.code yX1_putLinkAt cX1_putLinkAt 3 none :: AL) rm_X1_putLinkAt (xP E B 160 (layX E B) [.ref (B + k), .int x1, .int x2] σ) (xQ E B 160 (layX E B) none q.2) 0 0 (wA B 160) := by
  refine x_met (plainFor_of_name (by decide +kernel)) (Nat.le_of_ble_eq_true rfl) rfl ?_
  intro p e s m below meth c ls CX hr hlk hM hl
  have hx := CX.1.1
  have hb := CX.1.2.1
  unfold F_X1_putLinkAt at h
  refine lv_iload_n hx hb dX1_putLinkAt_0 rfl (lv_at hl 1 rfl) ?_
  refine lv_if_lt (tgt := 20) hx hb dX1_putLinkAt_1 (by decide) (fun c1 => ?_) (fun c1 => ?_)
  · replace h := it_h c1 h
    obtain rfl := Option.some.inj h
    exact x_vret CX hr hlk hM rfl dX1_putLinkAt_20
  · replace h := if_h c1 h
    refine lv_iload_n hx hb dX1_putLinkAt_4 rfl (lv_at hl 1 rfl) ?_
    refine lv_aload_n hx hb dX1_putLinkAt_5 rfl (lv_at hl 0 rfl) ?_
    refine g1_2 CX hM hk_k wf_X1_21 dX1_putLinkAt_6 ?_
    refine x_alen (v := 36) CX hM 0 (kdl (kd1_f hk_k).2.2.1 rfl) (ly12 (kd1_f hk_k).2.2.1 _) rfl rfl dX1_putLinkAt_9 ?_
    refine lv_icmp_ge (tgt := 20) hx hb dX1_putLinkAt_10 (by decide) (fun c2 => ?_) (fun c2 => ?_)
    · replace h := it_h c2 h
      obtain rfl := Option.some.inj h
      exact x_vret CX hr hlk hM rfl dX1_putLinkAt_20
    · replace h := if_h c2 h
      refine lv_aload_n hx hb dX1_putLinkAt_13 rfl (lv_at hl 0 rfl) ?_
      refine g1_2 CX hM hk_k wf_X1_21 dX1_putLinkAt_14 ?_
      refine lv_iload_n hx hb dX1_putLinkAt_17 rfl (lv_at hl 1 rfl) ?_
      refine lv_iload_n hx hb dX1_putLinkAt_18 rfl (lv_at hl 2 rfl) ?_
      obtain ⟨g3, h⟩ := ck_h h
      refine x_iast CX hM (kdl (kd1_f hk_k).2.2.1 rfl) (fun f => ly12 (kd1_f hk_k).2.2.1 f) g3 dX1_putLinkAt_19 (fun H locs σ4 eσ4 hM => ?_)
      replace h := nm_h eσ4 h
      obtain rfl := Option.some.inj h
      exact x_vret CX hr hlk hM rfl dX1_putLinkAt_20
def rm_X1_putLink : Jvm.Room := { frames := 1, cells := 0, slots := 0, locals := 22 }
set_option maxHeartbeats 4000000 in
set_option maxRecDepth 100000 in
theorem c_X1_putLink (l : Launch) (E : xE) (B : Nat) {k : Nat} {x1 : Int32} {x2 : Int32} {x3 : Int32} {σ : xM} {q : Unit × xM} (hk_k : kd k = 1) (h : F_X1_putLink k x1 x2 x3 σ = some q) : Met l yX1_putLink (Cond.code yX1_putLink cX1_putLink 4 none :: AL) rm_X1_putLink (xP E B 160 (layX E B) [.ref (B + k), .int x1, .int x2, .int x3] σ) (xQ E B 160 (layX E B) none q.2) 0 0 (wA B 160) := by
  refine x_met (plainFor_of_name (by decide +kernel)) (Nat.le_of_ble_eq_true rfl) rfl ?_
  intro p e s m below meth c ls CX hr hlk hM hl
  have hx := CX.1.1
  have hb := CX.1.2.1
  unfold F_X1_putLink at h
  refine lv_aload_n hx hb dX1_putLink_0 rfl (lv_at hl 0 rfl) ?_
  refine lv_iload_n hx hb dX1_putLink_1 rfl (lv_at hl 1 rfl) ?_
  refine lv_iload_n hx hb dX1_putLink_2 rfl (lv_at hl 2 rfl) ?_
  obtain ⟨q1, eq1, h⟩ := bd_h h
  refine x_callS (As := [.int x1, .int x2]) CX hM lk_X1_63 (c_X1_linkPlace l E B  eq1) ⟨rfl, rfl, by decide, by decide⟩ rfl hl.1 rfl (Nat.le_of_ble_eq_true rfl) dX1_putLink_3 (fun H locs hM => ?_)
  refine W.eq (g2 := F0 m 6 ls [.int q1.1, .ref (B + k)]) rfl ?_
  refine lv_iload_n hx hb dX1_putLink_6 rfl (lv_at hl 3 rfl) ?_
  obtain ⟨q2, eq2, h⟩ := bd_h h
  refine x_callV (As := [.int q1.1, .int x3]) CX hM (kdl hk_k rfl) (ly1 hk_k _) rfl lk_X1_67 (c_X1_putLinkAt l E B hk_k eq2) ⟨rfl, rfl, by decide, by decide⟩ rfl hl.1 rfl (Nat.le_of_ble_eq_true rfl) dX1_putLink_7 (fun H locs hM => ?_)
  refine W.eq (g2 := F0 m 10 ls []) rfl ?_
  refine lv_aload_n hx hb dX1_putLink_10 rfl (lv_at hl 0 rfl) ?_
  refine lv_iload_n hx hb dX1_putLink_11 rfl (lv_at hl 2 rfl) ?_
  refine lv_iload_n hx hb dX1_putLink_12 rfl (lv_at hl 1 rfl) ?_
  obtain ⟨q3, eq3, h⟩ := bd_h h
  refine x_callS (As := [.int x2, .int x1]) CX hM lk_X1_63 (c_X1_linkPlace l E B  eq3) ⟨rfl, rfl, by decide, by decide⟩ rfl hl.1 rfl (Nat.le_of_ble_eq_true rfl) dX1_putLink_13 (fun H locs hM => ?_)
  refine W.eq (g2 := F0 m 16 ls [.int q3.1, .ref (B + k)]) rfl ?_
  refine lv_iload_n hx hb dX1_putLink_16 rfl (lv_at hl 3 rfl) ?_
  obtain ⟨q4, eq4, h⟩ := bd_h h
  refine x_callV (As := [.int q3.1, .int x3]) CX hM (kdl hk_k rfl) (ly1 hk_k _) rfl lk_X1_67 (c_X1_putLinkAt l E B hk_k eq4) ⟨rfl, rfl, by decide, by decide⟩ rfl hl.1 rfl (Nat.le_of_ble_eq_true rfl) dX1_putLink_17 (fun H locs hM => ?_)
  refine W.eq (g2 := F0 m 20 ls []) rfl ?_
  obtain rfl := Option.some.inj h
  exact x_vret CX hr hlk hM rfl dX1_putLink_20
def rm_X1_canCarry : Jvm.Room := { frames := 2, cells := 0, slots := 0, locals := 44 }
set_option maxHeartbeats 4000000 in
set_option maxRecDepth 100000 in
theorem c_X1_canCarry (l : Launch) (E : xE) (B : Nat) {k : Nat} {x1 : Int32} {x2 : Int32} {σ : xM} {q : Int32 × xM} (hk_k : kd k = 1) (h : F_X1_canCarry k x1 x2 σ = some q) : Met l yX1_canCarry (Cond.code yX1_canCarry cX1_canCarry 6 (some .boolean) :: AL) rm_X1_canCarry (xP E B 160 (layX E B) [.ref (B + k), .int x1, .int x2] σ) (xQ E B 160 (layX E B) (some (.int (bz q.1))) q.2) 0 0 (wA B 160) := by
  refine x_met (plainFor_of_name (by decide +kernel)) (Nat.le_of_ble_eq_true rfl) rfl ?_
  intro p e s m below meth c ls CX hr hlk hM hl
  have hx := CX.1.1
  have hb := CX.1.2.1
  unfold F_X1_canCarry at h
  have L23 : ∀ (N : Nat) (v1 : Int32) (u3 : Nat) (v4 : Int32) (v5 : Int32) (σ : xM), kd u3 = 3 → ∀ (H : Heap) (locs : List Loc) (ls : Array Slot), xS E B 160 (layX E B) s σ H locs → lv_has ls 6 [(0, .ref (B + k)), (1, .int v1), (3, .ref (B + u3)), (4, .int v4), (5, .int v5)] → F_X1_canCarry_L23 k N v1 u3 v4 v5 σ = some q → W p l e rm_X1_canCarry s m ([.ref (B + k), .int x1, .int x2] : List Value).toArray below meth c H locs 0 0 (MQ below (xQ E B 160 (layX E B) (some (.int (bz q.1))) q.2) ([.ref (B + k), .int x1, .int x2] : List Value).toArray s 0 0 (wA B 160)) (F0 m 23 ls []) := by
    clear hM hl h
    intro N
    induction N with
    | zero =>
      intro v1 u3 v4 v5 σ hk_u3 H locs ls hM hl h
      cases h
    | succ N ih =>
      intro v1 u3 v4 v5 σ hk_u3 H locs ls hM hl h
      rw [F_X1_canCarry_L23] at h
      refine lv_iload hx hb dX1_canCarry_23 (lv_at hl 4 rfl) ?_
      refine lv_aload_n hx hb dX1_canCarry_25 rfl (lv_at hl 0 rfl) ?_
      refine g1_4 CX hM hk_k wf_X1_45 dX1_canCarry_26 ?_
      refine lv_icmp_ge (tgt := 50) hx hb dX1_canCarry_29 (by decide) (fun c4 => ?_) (fun c4 => ?_)
      · replace h := it_h c4 h
        refine lv_iload hx hb dX1_canCarry_50 (lv_at hl 3 rfl) ?_
        refine lv_aload_n hx hb dX1_canCarry_52 rfl (lv_at hl 2 rfl) ?_
        refine g3_1 CX hM hk_u3 wf_X1_77 dX1_canCarry_53 ?_
        refine lv_iconst (v := 2) hx hb dX1_canCarry_56 (by decide) ?_
        refine lv_idiv hx hb dX1_canCarry_57 (by decide) ?_
        refine lv_icmp_gt (tgt := 65) hx hb dX1_canCarry_58 (by decide) (fun c5 => ?_) (fun c5 => ?_)
        · replace h := it_h c5 h
          refine lv_iconst (v := 0) hx hb dX1_canCarry_65 (by decide) ?_
          obtain rfl := Option.some.inj h
          exact x_zret (y := 0) CX hr hlk hM rfl rfl dX1_canCarry_66
        · replace h := if_h c5 h
          refine lv_iconst (v := 1) hx hb dX1_canCarry_61 (by decide) ?_
          refine lv_goto (tgt := 66) hx hb dX1_canCarry_62 (by decide) ?_
          obtain rfl := Option.some.inj h
          exact x_zret (y := 1) CX hr hlk hM rfl rfl dX1_canCarry_66
      · replace h := if_h c4 h
        refine lv_iload hx hb dX1_canCarry_32 (lv_at hl 3 rfl) ?_
        refine lv_aload_n hx hb dX1_canCarry_34 rfl (lv_at hl 0 rfl) ?_
        refine lv_iload_n hx hb dX1_canCarry_35 rfl (lv_at hl 1 rfl) ?_
        refine lv_iload hx hb dX1_canCarry_36 (lv_at hl 4 rfl) ?_
        obtain ⟨q6, eq6, h⟩ := bd_h h
        refine x_callV (As := [.int v1, .int v5]) CX hM (kdl hk_k rfl) (ly1 hk_k _) rfl lk_X1_74 (c_X1_linkOf l E B hk_k eq6) ⟨rfl, rfl, by decide, by decide⟩ rfl hl.1 rfl (Nat.le_of_ble_eq_true rfl) dX1_canCarry_38 (fun H locs hM => ?_)
        refine W.eq (g2 := F0 m 41 ls [.int q6.1, .int v4]) rfl ?_
        refine lv_iadd hx hb dX1_canCarry_41 ?_
        refine lv_topi (fun x4_7 ex4_7 => ?_)
        replace h := nm_h ex4_7 h
        refine lv_istore (lv' := [(4, .int x4_7), (0, .ref (B + k)), (1, .int v1), (3, .ref (B + u3)), (5, .int v5)]) hx hb dX1_canCarry_42 hl (by decide) rfl (fun ls hl => ?_)
        refine lv_iinc (v := (v5 + 1)) (lv' := [(5, .int (v5 + 1)), (4, .int x4_7), (0, .ref (B + k)), (1, .int v1), (3, .ref (B + u3))]) hx hb dX1_canCarry_44 hl (k := 4) rfl rfl (by decide) rfl (fun ls hl => ?_)
        refine lv_goto (tgt := 23) hx hb dX1_canCarry_47 (by decide) ?_
        exact ih _ _ _ _ _ hk_u3 _ _ _ hM (lv_sub hl [2, 3, 4, 1, 0] rfl) h
  refine lv_aload_n hx hb dX1_canCarry_0 rfl (lv_at hl 0 rfl) ?_
  refine lv_iload_n hx hb dX1_canCarry_1 rfl (lv_at hl 1 rfl) ?_
  obtain ⟨q1, eq1, h⟩ := bd_h h
  refine x_callV (As := [.int x1]) CX hM (kdl hk_k rfl) (ly1 hk_k _) rfl lk_X1_52 (c_X1_roomAt l E B hk_k eq1) ⟨rfl, rfl, by decide, by decide⟩ rfl hl.1 rfl (Nat.le_of_ble_eq_true rfl) dX1_canCarry_2 (fun H locs hM => ?_)
  rcases hq1 : q1.1 with _ | r2
  · rw [hq1] at h
    replace h := oc_n h
    refine W.eq (g2 := F0 m 5 ls [.null]) rfl ?_
    refine lv_astore_nN (lv' := [(3, .null), (0, .ref (B + k)), (1, .int x1), (2, .int x2)]) hx hb dX1_canCarry_5 rfl hl (by decide) rfl (fun ls hl => ?_)
    refine lv_aload_nN hx hb dX1_canCarry_6 rfl (lv_at hl 0 rfl) ?_
    refine lv_ifnonnullN hx hb dX1_canCarry_7 ?_
    refine lv_iconst (v := 0) hx hb dX1_canCarry_10 (by decide) ?_
    obtain rfl := Option.some.inj h
    exact x_zret (y := 0) CX hr hlk hM rfl rfl dX1_canCarry_11
  · rw [hq1] at h
    replace h := oc_s h
    obtain ⟨hk_r2, h⟩ := ck_h h
    refine W.eq (g2 := F0 m 5 ls [.ref (B + r2)]) rfl ?_
    refine lv_astore_n (lv' := [(3, .ref (B + r2)), (0, .ref (B + k)), (1, .int x1), (2, .int x2)]) hx hb dX1_canCarry_5 rfl hl (by decide) rfl (fun ls hl => ?_)
    refine lv_aload_n hx hb dX1_canCarry_6 rfl (lv_at hl 0 rfl) ?_
    refine lv_ifnonnull (tgt := 12) hx hb dX1_canCarry_7 (by decide) ?_
    refine lv_aload_n hx hb dX1_canCarry_12 rfl (lv_at hl 0 rfl) ?_
    refine g3_3 CX hM hk_r2 wf_X1_71 dX1_canCarry_13 ?_
    refine lv_iload_n hx hb dX1_canCarry_16 rfl (lv_at hl 3 rfl) ?_
    refine lv_iadd hx hb dX1_canCarry_17 ?_
    refine lv_topi (fun x4_3 ex4_3 => ?_)
    replace h := nm_h ex4_3 h
    refine lv_istore (lv' := [(4, .int x4_3), (3, .ref (B + r2)), (0, .ref (B + k)), (1, .int x1), (2, .int x2)]) hx hb dX1_canCarry_18 hl (by decide) rfl (fun ls hl => ?_)
    refine lv_iconst (v := 0) hx hb dX1_canCarry_20 (by decide) ?_
    refine lv_istore (lv' := [(5, .int 0), (4, .int x4_3), (3, .ref (B + r2)), (0, .ref (B + k)), (1, .int x1), (2, .int x2)]) hx hb dX1_canCarry_21 hl (by decide) rfl (fun ls hl => ?_)
    exact L23 _ _ _ _ _ _ hk_r2 _ _ _ hM (lv_sub hl [3, 4, 2, 1, 0] rfl) h
def rm_X1_isSuspect : Jvm.Room := { frames := 1, cells := 0, slots := 0, locals := 21 }
set_option maxHeartbeats 4000000 in
set_option maxRecDepth 100000 in
theorem c_X1_isSuspect (l : Launch) (E : xE) (B : Nat) {k : Nat} {r1 : Nat} {σ : xM} {q : Int32 × xM} (hk_k : kd k = 1) (hk_r1 : kd r1 = 3) (h : F_X1_isSuspect k r1 σ = some q) : Met l yX1_isSuspect (Cond.code yX1_isSuspect cX1_isSuspect 2 (some .boolean) :: AL) rm_X1_isSuspect (xP E B 160 (layX E B) [.ref (B + k), .ref (B + r1)] σ) (xQ E B 160 (layX E B) (some (.int (bz q.1))) q.2) 0 0 (wA B 160) := by
  refine x_met (plainFor_of_name (by decide +kernel)) (Nat.le_of_ble_eq_true rfl) rfl ?_
  intro p e s m below meth c ls CX hr hlk hM hl
  have hx := CX.1.1
  have hb := CX.1.2.1
  unfold F_X1_isSuspect at h
  refine lv_aload_n hx hb dX1_isSuspect_0 rfl (lv_at hl 1 rfl) ?_
  refine g3_16 CX hM hk_r1 wf_X1_80 dX1_isSuspect_1 ?_
  refine lv_aload_n hx hb dX1_isSuspect_4 rfl (lv_at hl 0 rfl) ?_
  refine lv_bipush (v := 6) hx hb dX1_isSuspect_5 (by decide) ?_
  obtain ⟨q1, eq1, h⟩ := bd_h h
  refine x_callV (As := [.int 6]) CX hM (kdl hk_k rfl) (ly1 hk_k _) rfl lk_X1_83 (c_X1_number l E B hk_k eq1) ⟨rfl, rfl, by decide, by decide⟩ rfl hl.1 rfl (Nat.le_of_ble_eq_true rfl) dX1_isSuspect_7 (fun H locs hM => ?_)
  refine W.eq (g2 := F0 m 10 ls [.int q1.1, .int (σ r1 16)]) rfl ?_
  refine lv_icmp_lt (tgt := 17) hx hb dX1_isSuspect_10 (by decide) (fun c2 => ?_) (fun c2 => ?_)
  · replace h := it_h c2 h
    refine lv_iconst (v := 0) hx hb dX1_isSuspect_17 (by decide) ?_
    obtain rfl := Option.some.inj h
    exact x_zret (y := 0) CX hr hlk hM rfl rfl dX1_isSuspect_18
  · replace h := if_h c2 h
    refine lv_iconst (v := 1) hx hb dX1_isSuspect_13 (by decide) ?_
    refine lv_goto (tgt := 18) hx hb dX1_isSuspect_14 (by decide) ?_
    obtain rfl := Option.some.inj h
    exact x_zret (y := 1) CX hr hlk hM rfl rfl dX1_isSuspect_18
def rm_X1_suspectRooms : Jvm.Room := { frames := 2, cells := 0, slots := 0, locals := 42 }
set_option maxHeartbeats 4000000 in
set_option maxRecDepth 100000 in
theorem c_X1_suspectRooms (l : Launch) (E : xE) (B : Nat) {k : Nat} {σ : xM} {q : Int32 × xM} (hk_k : kd k = 1) (h : F_X1_suspectRooms k σ = some q) : Met l yX1_suspectRooms (Cond.code yX1_suspectRooms cX1_suspectRooms 4 (some .int) :: AL) rm_X1_suspectRooms (xP E B 160 (layX E B) [.ref (B + k)] σ) (xQ E B 160 (layX E B) (some (.int q.1)) q.2) 0 0 (wA B 160) := by
  refine x_met (plainFor_of_name (by decide +kernel)) (Nat.le_of_ble_eq_true rfl) rfl ?_
  intro p e s m below meth c ls CX hr hlk hM hl
  have hx := CX.1.1
  have hb := CX.1.2.1
  unfold F_X1_suspectRooms at h
  have L4 : ∀ (N : Nat) (v1 : Int32) (v2 : Int32) (σ : xM), ∀ (H : Heap) (locs : List Loc) (ls : Array Slot), xS E B 160 (layX E B) s σ H locs → lv_has ls 4 [(0, .ref (B + k)), (1, .int v1), (2, .int v2)] → F_X1_suspectRooms_L4 k N v1 v2 σ = some q → W p l e rm_X1_suspectRooms s m ([.ref (B + k)] : List Value).toArray below meth c H locs 0 0 (MQ below (xQ E B 160 (layX E B) (some (.int q.1)) q.2) ([.ref (B + k)] : List Value).toArray s 0 0 (wA B 160)) (F0 m 4 ls []) := by
    clear hM hl h
    intro N
    induction N with
    | zero =>
      intro v1 v2 σ  H locs ls hM hl h
      cases h
    | succ N ih =>
      intro v1 v2 σ  H locs ls hM hl h
      rw [F_X1_suspectRooms_L4] at h
      refine lv_iload_n hx hb dX1_suspectRooms_4 rfl (lv_at hl 2 rfl) ?_
      refine lv_aload_n hx hb dX1_suspectRooms_5 rfl (lv_at hl 0 rfl) ?_
      refine g1_4 CX hM hk_k wf_X1_45 dX1_suspectRooms_6 ?_
      refine lv_icmp_ge (tgt := 44) hx hb dX1_suspectRooms_9 (by decide) (fun c1 => ?_) (fun c1 => ?_)
      · replace h := it_h c1 h
        refine lv_iload_n hx hb dX1_suspectRooms_44 rfl (lv_at hl 1 rfl) ?_
        obtain rfl := Option.some.inj h
        exact x_iret CX hr hlk hM rfl dX1_suspectRooms_45
      · replace h := if_h c1 h
        refine lv_aload_n hx hb dX1_suspectRooms_12 rfl (lv_at hl 0 rfl) ?_
        refine lv_iload_n hx hb dX1_suspectRooms_13 rfl (lv_at hl 2 rfl) ?_
        obtain ⟨q2, eq2, h⟩ := bd_h h
        refine x_callV (As := [.int v2]) CX hM (kdl hk_k rfl) (ly1 hk_k _) rfl lk_X1_52 (c_X1_roomAt l E B hk_k eq2) ⟨rfl, rfl, by decide, by decide⟩ rfl hl.1 rfl (Nat.le_of_ble_eq_true rfl) dX1_suspectRooms_14 (fun H locs hM => ?_)
        rcases hq2 : q2.1 with _ | r3
        · rw [hq2] at h
          replace h := oc_n h
          refine W.eq (g2 := F0 m 17 ls [.null]) rfl ?_
          refine lv_astore_nN (lv' := [(3, .null), (0, .ref (B + k)), (1, .int v1), (2, .int v2)]) hx hb dX1_suspectRooms_17 rfl hl (by decide) rfl (fun ls hl => ?_)
          refine lv_iload_n hx hb dX1_suspectRooms_18 rfl (lv_at hl 2 rfl) ?_
          refine lv_aload_nN hx hb dX1_suspectRooms_19 rfl (lv_at hl 0 rfl) ?_
          refine lv_ifnullN (tgt := 35) hx hb dX1_suspectRooms_20 (by decide) ?_
          refine lv_iconst (v := 0) hx hb dX1_suspectRooms_35 (by decide) ?_
          refine lv_iadd hx hb dX1_suspectRooms_36 ?_
          refine lv_topi (fun x1_4 ex1_4 => ?_)
          replace h := nm_h ex1_4 h
          refine lv_istore_n (lv' := [(1, .int x1_4), (3, .null), (0, .ref (B + k)), (2, .int v2)]) hx hb dX1_suspectRooms_37 rfl hl (by decide) rfl (fun ls hl => ?_)
          refine lv_iinc (v := (v2 + 1)) (lv' := [(2, .int (v2 + 1)), (1, .int x1_4), (3, .null), (0, .ref (B + k))]) hx hb dX1_suspectRooms_38 hl (k := 3) rfl rfl (by decide) rfl (fun ls hl => ?_)
          refine lv_goto (tgt := 4) hx hb dX1_suspectRooms_41 (by decide) ?_
          exact ih _ _ _  _ _ _ hM (lv_sub hl [3, 1, 0] rfl) h
        · rw [hq2] at h
          replace h := oc_s h
          obtain ⟨hk_r3, h⟩ := ck_h h
          refine W.eq (g2 := F0 m 17 ls [.ref (B + r3)]) rfl ?_
          refine lv_astore_n (lv' := [(3, .ref (B + r3)), (0, .ref (B + k)), (1, .int v1), (2, .int v2)]) hx hb dX1_suspectRooms_17 rfl hl (by decide) rfl (fun ls hl => ?_)
          refine lv_iload_n hx hb dX1_suspectRooms_18 rfl (lv_at hl 2 rfl) ?_
          refine lv_aload_n hx hb dX1_suspectRooms_19 rfl (lv_at hl 0 rfl) ?_
          refine lv_ifnull hx hb dX1_suspectRooms_20 ?_
          refine lv_aload_n hx hb dX1_suspectRooms_23 rfl (lv_at hl 1 rfl) ?_
          refine lv_aload_n hx hb dX1_suspectRooms_24 rfl (lv_at hl 0 rfl) ?_
          obtain ⟨q5, eq5, h⟩ := bd_h h
          refine x_callV (As := [.ref (B + r3)]) CX hM (kdl hk_k rfl) (ly1 hk_k _) rfl lk_X1_87 (c_X1_isSuspect l E B hk_k hk_r3 eq5) ⟨rfl, rfl, by decide, by decide⟩ rfl hl.1 rfl (Nat.le_of_ble_eq_true rfl) dX1_suspectRooms_25 (fun H locs hM => ?_)
          refine W.eq (g2 := F0 m 28 ls [.int (bz q5.1), .int v1]) rfl ?_
          refine lv_if_eq (tgt := 35) hx hb dX1_suspectRooms_28 (by decide) (fun c6 => ?_) (fun c6 => ?_)
          · replace h := it_h c6 h
            refine lv_iconst (v := 0) hx hb dX1_suspectRooms_35 (by decide) ?_
            refine lv_iadd hx hb dX1_suspectRooms_36 ?_
            refine lv_topi (fun x1_7 ex1_7 => ?_)
            replace h := nm_h ex1_7 h
            refine lv_istore_n (lv' := [(1, .int x1_7), (3, .ref (B + r3)), (0, .ref (B + k)), (2, .int v2)]) hx hb dX1_suspectRooms_37 rfl hl (by decide) rfl (fun ls hl => ?_)
            refine lv_iinc (v := (v2 + 1)) (lv' := [(2, .int (v2 + 1)), (1, .int x1_7), (3, .ref (B + r3)), (0, .ref (B + k))]) hx hb dX1_suspectRooms_38 hl (k := 3) rfl rfl (by decide) rfl (fun ls hl => ?_)
            refine lv_goto (tgt := 4) hx hb dX1_suspectRooms_41 (by decide) ?_
            exact ih _ _ _  _ _ _ hM (lv_sub hl [3, 1, 0] rfl) h
          · replace h := if_h c6 h
            refine lv_iconst (v := 1) hx hb dX1_suspectRooms_31 (by decide) ?_
            refine lv_goto (tgt := 36) hx hb dX1_suspectRooms_32 (by decide) ?_
            refine lv_iadd hx hb dX1_suspectRooms_36 ?_
            refine lv_topi (fun x1_8 ex1_8 => ?_)
            replace h := nm_h ex1_8 h
            refine lv_istore_n (lv' := [(1, .int x1_8), (3, .ref (B + r3)), (0, .ref (B + k)), (2, .int v2)]) hx hb dX1_suspectRooms_37 rfl hl (by decide) rfl (fun ls hl => ?_)
            refine lv_iinc (v := (v2 + 1)) (lv' := [(2, .int (v2 + 1)), (1, .int x1_8), (3, .ref (B + r3)), (0, .ref (B + k))]) hx hb dX1_suspectRooms_38 hl (k := 3) rfl rfl (by decide) rfl (fun ls hl => ?_)
            refine lv_goto (tgt := 4) hx hb dX1_suspectRooms_41 (by decide) ?_
            exact ih _ _ _  _ _ _ hM (lv_sub hl [3, 1, 0] rfl) h
  refine lv_iconst (v := 0) hx hb dX1_suspectRooms_0 (by decide) ?_
  refine lv_istore_n (lv' := [(1, .int 0), (0, .ref (B + k))]) hx hb dX1_suspectRooms_1 rfl hl (by decide) rfl (fun ls hl => ?_)
  refine lv_iconst (v := 0) hx hb dX1_suspectRooms_2 (by decide) ?_
  refine lv_istore_n (lv' := [(2, .int 0), (1, .int 0), (0, .ref (B + k))]) hx hb dX1_suspectRooms_3 rfl hl (by decide) rfl (fun ls hl => ?_)
  exact L4 _ _ _ _  _ _ _ hM (lv_sub hl [2, 1, 0] rfl) h
def rm_X1_allFines : Jvm.Room := { frames := 1, cells := 0, slots := 0, locals := 21 }
set_option maxHeartbeats 4000000 in
set_option maxRecDepth 100000 in
theorem c_X1_allFines (l : Launch) (E : xE) (B : Nat) {k : Nat} {σ : xM} {q : Int32 × xM} (hk_k : kd k = 1) (h : F_X1_allFines k σ = some q) : Met l yX1_allFines (Cond.code yX1_allFines cX1_allFines 4 (some .int) :: AL) rm_X1_allFines (xP E B 160 (layX E B) [.ref (B + k)] σ) (xQ E B 160 (layX E B) (some (.int q.1)) q.2) 0 0 (wA B 160) := by
  refine x_met (plainFor_of_name (by decide +kernel)) (Nat.le_of_ble_eq_true rfl) rfl ?_
  intro p e s m below meth c ls CX hr hlk hM hl
  have hx := CX.1.1
  have hb := CX.1.2.1
  unfold F_X1_allFines at h
  have L4 : ∀ (N : Nat) (v1 : Int32) (v2 : Int32) (σ : xM), ∀ (H : Heap) (locs : List Loc) (ls : Array Slot), xS E B 160 (layX E B) s σ H locs → lv_has ls 4 [(0, .ref (B + k)), (1, .int v1), (2, .int v2)] → F_X1_allFines_L4 k N v1 v2 σ = some q → W p l e rm_X1_allFines s m ([.ref (B + k)] : List Value).toArray below meth c H locs 0 0 (MQ below (xQ E B 160 (layX E B) (some (.int q.1)) q.2) ([.ref (B + k)] : List Value).toArray s 0 0 (wA B 160)) (F0 m 4 ls []) := by
    clear hM hl h
    intro N
    induction N with
    | zero =>
      intro v1 v2 σ  H locs ls hM hl h
      cases h
    | succ N ih =>
      intro v1 v2 σ  H locs ls hM hl h
      rw [F_X1_allFines_L4] at h
      refine lv_iload_n hx hb dX1_allFines_4 rfl (lv_at hl 2 rfl) ?_
      refine lv_aload_n hx hb dX1_allFines_5 rfl (lv_at hl 0 rfl) ?_
      refine g1_4 CX hM hk_k wf_X1_45 dX1_allFines_6 ?_
      refine lv_icmp_ge (tgt := 39) hx hb dX1_allFines_9 (by decide) (fun c1 => ?_) (fun c1 => ?_)
      · replace h := it_h c1 h
        refine lv_iload_n hx hb dX1_allFines_39 rfl (lv_at hl 1 rfl) ?_
        obtain rfl := Option.some.inj h
        exact x_iret CX hr hlk hM rfl dX1_allFines_40
      · replace h := if_h c1 h
        refine lv_aload_n hx hb dX1_allFines_12 rfl (lv_at hl 0 rfl) ?_
        refine lv_iload_n hx hb dX1_allFines_13 rfl (lv_at hl 2 rfl) ?_
        obtain ⟨q2, eq2, h⟩ := bd_h h
        refine x_callV (As := [.int v2]) CX hM (kdl hk_k rfl) (ly1 hk_k _) rfl lk_X1_52 (c_X1_roomAt l E B hk_k eq2) ⟨rfl, rfl, by decide, by decide⟩ rfl hl.1 rfl (Nat.le_of_ble_eq_true rfl) dX1_allFines_14 (fun H locs hM => ?_)
        rcases hq2 : q2.1 with _ | r3
        · rw [hq2] at h
          replace h := oc_n h
          refine W.eq (g2 := F0 m 17 ls [.null]) rfl ?_
          refine lv_astore_nN (lv' := [(3, .null), (0, .ref (B + k)), (1, .int v1), (2, .int v2)]) hx hb dX1_allFines_17 rfl hl (by decide) rfl (fun ls hl => ?_)
          refine lv_iload_n hx hb dX1_allFines_18 rfl (lv_at hl 2 rfl) ?_
          refine lv_aload_nN hx hb dX1_allFines_19 rfl (lv_at hl 0 rfl) ?_
          refine lv_ifnullN (tgt := 30) hx hb dX1_allFines_20 (by decide) ?_
          refine lv_iconst (v := 0) hx hb dX1_allFines_30 (by decide) ?_
          refine lv_iadd hx hb dX1_allFines_31 ?_
          refine lv_topi (fun x1_4 ex1_4 => ?_)
          replace h := nm_h ex1_4 h
          refine lv_istore_n (lv' := [(1, .int x1_4), (3, .null), (0, .ref (B + k)), (2, .int v2)]) hx hb dX1_allFines_32 rfl hl (by decide) rfl (fun ls hl => ?_)
          refine lv_iinc (v := (v2 + 1)) (lv' := [(2, .int (v2 + 1)), (1, .int x1_4), (3, .null), (0, .ref (B + k))]) hx hb dX1_allFines_33 hl (k := 3) rfl rfl (by decide) rfl (fun ls hl => ?_)
          refine lv_goto (tgt := 4) hx hb dX1_allFines_36 (by decide) ?_
          exact ih _ _ _  _ _ _ hM (lv_sub hl [3, 1, 0] rfl) h
        · rw [hq2] at h
          replace h := oc_s h
          obtain ⟨hk_r3, h⟩ := ck_h h
          refine W.eq (g2 := F0 m 17 ls [.ref (B + r3)]) rfl ?_
          refine lv_astore_n (lv' := [(3, .ref (B + r3)), (0, .ref (B + k)), (1, .int v1), (2, .int v2)]) hx hb dX1_allFines_17 rfl hl (by decide) rfl (fun ls hl => ?_)
          refine lv_iload_n hx hb dX1_allFines_18 rfl (lv_at hl 2 rfl) ?_
          refine lv_aload_n hx hb dX1_allFines_19 rfl (lv_at hl 0 rfl) ?_
          refine lv_ifnull hx hb dX1_allFines_20 ?_
          refine lv_aload_n hx hb dX1_allFines_23 rfl (lv_at hl 0 rfl) ?_
          refine g3_15 CX hM hk_r3 wf_X1_91 dX1_allFines_24 ?_
          refine lv_goto (tgt := 31) hx hb dX1_allFines_27 (by decide) ?_
          refine lv_iadd hx hb dX1_allFines_31 ?_
          refine lv_topi (fun x1_5 ex1_5 => ?_)
          replace h := nm_h ex1_5 h
          refine lv_istore_n (lv' := [(1, .int x1_5), (3, .ref (B + r3)), (0, .ref (B + k)), (2, .int v2)]) hx hb dX1_allFines_32 rfl hl (by decide) rfl (fun ls hl => ?_)
          refine lv_iinc (v := (v2 + 1)) (lv' := [(2, .int (v2 + 1)), (1, .int x1_5), (3, .ref (B + r3)), (0, .ref (B + k))]) hx hb dX1_allFines_33 hl (k := 3) rfl rfl (by decide) rfl (fun ls hl => ?_)
          refine lv_goto (tgt := 4) hx hb dX1_allFines_36 (by decide) ?_
          exact ih _ _ _  _ _ _ hM (lv_sub hl [3, 1, 0] rfl) h
  refine lv_iconst (v := 0) hx hb dX1_allFines_0 (by decide) ?_
  refine lv_istore_n (lv' := [(1, .int 0), (0, .ref (B + k))]) hx hb dX1_allFines_1 rfl hl (by decide) rfl (fun ls hl => ?_)
  refine lv_iconst (v := 0) hx hb dX1_allFines_2 (by decide) ?_
  refine lv_istore_n (lv' := [(2, .int 0), (1, .int 0), (0, .ref (B + k))]) hx hb dX1_allFines_3 rfl hl (by decide) rfl (fun ls hl => ?_)
  exact L4 _ _ _ _  _ _ _ hM (lv_sub hl [2, 1, 0] rfl) h
end
section
def rm_X1_heatFromHeaters : Jvm.Room := { frames := 1, cells := 0, slots := 0, locals := 21 }
set_option maxHeartbeats 4000000 in
set_option maxRecDepth 100000 in
theorem c_X1_heatFromHeaters (l : Launch) (E : xE) (B : Nat) {k : Nat} {σ : xM} {q : Int32 × xM} (hk_k : kd k = 1) (h : F_X1_heatFromHeaters k σ = some q) : Met l yX1_heatFromHeaters (Cond.code yX1_heatFromHeaters cX1_heatFromHeaters 4 (some .int) :: AL) rm_X1_heatFromHeaters (xP E B 160 (layX E B) [.ref (B + k)] σ) (xQ E B 160 (layX E B) (some (.int q.1)) q.2) 0 0 (wA B 160) := by
  refine x_met (plainFor_of_name (by decide +kernel)) (Nat.le_of_ble_eq_true rfl) rfl ?_
  intro p e s m below meth c ls CX hr hlk hM hl
  have hx := CX.1.1
  have hb := CX.1.2.1
  unfold F_X1_heatFromHeaters at h
  have L4 : ∀ (N : Nat) (v1 : Int32) (v2 : Int32) (σ : xM), ∀ (H : Heap) (locs : List Loc) (ls : Array Slot), xS E B 160 (layX E B) s σ H locs → lv_has ls 4 [(0, .ref (B + k)), (1, .int v1), (2, .int v2)] → F_X1_heatFromHeaters_L4 k N v1 v2 σ = some q → W p l e rm_X1_heatFromHeaters s m ([.ref (B + k)] : List Value).toArray below meth c H locs 0 0 (MQ below (xQ E B 160 (layX E B) (some (.int q.1)) q.2) ([.ref (B + k)] : List Value).toArray s 0 0 (wA B 160)) (F0 m 4 ls []) := by
    clear hM hl h
    intro N
    induction N with
    | zero =>
      intro v1 v2 σ  H locs ls hM hl h
      cases h
    | succ N ih =>
      intro v1 v2 σ  H locs ls hM hl h
      rw [F_X1_heatFromHeaters_L4] at h
      refine lv_iload_n hx hb dX1_heatFromHeaters_4 rfl (lv_at hl 2 rfl) ?_
      refine lv_aload_n hx hb dX1_heatFromHeaters_5 rfl (lv_at hl 0 rfl) ?_
      refine g1_4 CX hM hk_k wf_X1_45 dX1_heatFromHeaters_6 ?_
      refine lv_icmp_ge (tgt := 42) hx hb dX1_heatFromHeaters_9 (by decide) (fun c1 => ?_) (fun c1 => ?_)
      · replace h := it_h c1 h
        refine lv_iload_n hx hb dX1_heatFromHeaters_42 rfl (lv_at hl 1 rfl) ?_
        obtain rfl := Option.some.inj h
        exact x_iret CX hr hlk hM rfl dX1_heatFromHeaters_43
      · replace h := if_h c1 h
        refine lv_aload_n hx hb dX1_heatFromHeaters_12 rfl (lv_at hl 0 rfl) ?_
        refine lv_iload_n hx hb dX1_heatFromHeaters_13 rfl (lv_at hl 2 rfl) ?_
        obtain ⟨q2, eq2, h⟩ := bd_h h
        refine x_callV (As := [.int v2]) CX hM (kdl hk_k rfl) (ly1 hk_k _) rfl lk_X1_52 (c_X1_roomAt l E B hk_k eq2) ⟨rfl, rfl, by decide, by decide⟩ rfl hl.1 rfl (Nat.le_of_ble_eq_true rfl) dX1_heatFromHeaters_14 (fun H locs hM => ?_)
        rcases hq2 : q2.1 with _ | r3
        · rw [hq2] at h
          replace h := oc_n h
          refine W.eq (g2 := F0 m 17 ls [.null]) rfl ?_
          refine lv_astore_nN (lv' := [(3, .null), (0, .ref (B + k)), (1, .int v1), (2, .int v2)]) hx hb dX1_heatFromHeaters_17 rfl hl (by decide) rfl (fun ls hl => ?_)
          refine lv_iload_n hx hb dX1_heatFromHeaters_18 rfl (lv_at hl 2 rfl) ?_
          refine lv_aload_nN hx hb dX1_heatFromHeaters_19 rfl (lv_at hl 0 rfl) ?_
          refine lv_ifnullN (tgt := 33) hx hb dX1_heatFromHeaters_20 (by decide) ?_
          refine lv_iconst (v := 0) hx hb dX1_heatFromHeaters_33 (by decide) ?_
          refine lv_iadd hx hb dX1_heatFromHeaters_34 ?_
          refine lv_topi (fun x1_4 ex1_4 => ?_)
          replace h := nm_h ex1_4 h
          refine lv_istore_n (lv' := [(1, .int x1_4), (3, .null), (0, .ref (B + k)), (2, .int v2)]) hx hb dX1_heatFromHeaters_35 rfl hl (by decide) rfl (fun ls hl => ?_)
          refine lv_iinc (v := (v2 + 1)) (lv' := [(2, .int (v2 + 1)), (1, .int x1_4), (3, .null), (0, .ref (B + k))]) hx hb dX1_heatFromHeaters_36 hl (k := 3) rfl rfl (by decide) rfl (fun ls hl => ?_)
          refine lv_goto (tgt := 4) hx hb dX1_heatFromHeaters_39 (by decide) ?_
          exact ih _ _ _  _ _ _ hM (lv_sub hl [3, 1, 0] rfl) h
        · rw [hq2] at h
          replace h := oc_s h
          obtain ⟨hk_r3, h⟩ := ck_h h
          refine W.eq (g2 := F0 m 17 ls [.ref (B + r3)]) rfl ?_
          refine lv_astore_n (lv' := [(3, .ref (B + r3)), (0, .ref (B + k)), (1, .int v1), (2, .int v2)]) hx hb dX1_heatFromHeaters_17 rfl hl (by decide) rfl (fun ls hl => ?_)
          refine lv_iload_n hx hb dX1_heatFromHeaters_18 rfl (lv_at hl 2 rfl) ?_
          refine lv_aload_n hx hb dX1_heatFromHeaters_19 rfl (lv_at hl 0 rfl) ?_
          refine lv_ifnull hx hb dX1_heatFromHeaters_20 ?_
          refine lv_aload_n hx hb dX1_heatFromHeaters_23 rfl (lv_at hl 0 rfl) ?_
          refine g3_0 CX hM hk_r3 wf_X1_94 dX1_heatFromHeaters_24 ?_
          refine g0_1 CX hM (kd3_f hk_r3) wf_X1_98 dX1_heatFromHeaters_27 ?_
          refine lv_goto (tgt := 34) hx hb dX1_heatFromHeaters_30 (by decide) ?_
          refine lv_iadd hx hb dX1_heatFromHeaters_34 ?_
          refine lv_topi (fun x1_5 ex1_5 => ?_)
          replace h := nm_h ex1_5 h
          refine lv_istore_n (lv' := [(1, .int x1_5), (3, .ref (B + r3)), (0, .ref (B + k)), (2, .int v2)]) hx hb dX1_heatFromHeaters_35 rfl hl (by decide) rfl (fun ls hl => ?_)
          refine lv_iinc (v := (v2 + 1)) (lv' := [(2, .int (v2 + 1)), (1, .int x1_5), (3, .ref (B + r3)), (0, .ref (B + k))]) hx hb dX1_heatFromHeaters_36 hl (k := 3) rfl rfl (by decide) rfl (fun ls hl => ?_)
          refine lv_goto (tgt := 4) hx hb dX1_heatFromHeaters_39 (by decide) ?_
          exact ih _ _ _  _ _ _ hM (lv_sub hl [3, 1, 0] rfl) h
  refine lv_iconst (v := 0) hx hb dX1_heatFromHeaters_0 (by decide) ?_
  refine lv_istore_n (lv' := [(1, .int 0), (0, .ref (B + k))]) hx hb dX1_heatFromHeaters_1 rfl hl (by decide) rfl (fun ls hl => ?_)
  refine lv_iconst (v := 0) hx hb dX1_heatFromHeaters_2 (by decide) ?_
  refine lv_istore_n (lv' := [(2, .int 0), (1, .int 0), (0, .ref (B + k))]) hx hb dX1_heatFromHeaters_3 rfl hl (by decide) rfl (fun ls hl => ?_)
  exact L4 _ _ _ _  _ _ _ hM (lv_sub hl [2, 1, 0] rfl) h
def rm_X4_temperatureBefore : Jvm.Room := { frames := 0, cells := 0, slots := 0, locals := 0 }
set_option maxHeartbeats 4000000 in
set_option maxRecDepth 100000 in
theorem c_X4_temperatureBefore (l : Launch) (E : xE) (B : Nat) {k : Nat} {x1 : Int32} {x2 : Int32} {σ : xM} {q : Int32 × xM} (hk_k : kd k = 4) (h : F_X4_temperatureBefore k x1 x2 σ = some q) : Met l yX4_temperatureBefore (Cond.code yX4_temperatureBefore cX4_temperatureBefore 6 (some .int) :: AL) rm_X4_temperatureBefore (xP E B 160 (layX E B) [.ref (B + k), .int x1, .int x2] σ) (xQ E B 160 (layX E B) (some (.int q.1)) q.2) 0 0 (wA B 160) := by
  refine x_met (plainFor_of_name (by decide +kernel)) (Nat.le_of_ble_eq_true rfl) rfl ?_
  intro p e s m below meth c ls CX hr hlk hM hl
  have hx := CX.1.1
  have hb := CX.1.2.1
  unfold F_X4_temperatureBefore at h
  refine lv_iload_n hx hb dX4_temperatureBefore_0 rfl (lv_at hl 1 rfl) ?_
  refine lv_iconst (v := 1) hx hb dX4_temperatureBefore_1 (by decide) ?_
  refine lv_icmp_lt (tgt := 11) hx hb dX4_temperatureBefore_2 (by decide) (fun c1 => ?_) (fun c1 => ?_)
  · replace h := it_h c1 h
    refine lv_iconst (v := 0) hx hb dX4_temperatureBefore_11 (by decide) ?_
    obtain rfl := Option.some.inj h
    exact x_iret CX hr hlk hM rfl dX4_temperatureBefore_12
  · replace h := if_h c1 h
    refine lv_iload_n hx hb dX4_temperatureBefore_5 rfl (lv_at hl 1 rfl) ?_
    refine lv_bipush (v := 12) hx hb dX4_temperatureBefore_6 (by decide) ?_
    refine lv_icmp_lt (tgt := 13) hx hb dX4_temperatureBefore_8 (by decide) (fun c2 => ?_) (fun c2 => ?_)
    · replace h := it_h c2 h
      refine lv_aload_n hx hb dX4_temperatureBefore_13 rfl (lv_at hl 0 rfl) ?_
      refine g4_1 CX hM hk_k wf_X4_15 dX4_temperatureBefore_14 ?_
      refine lv_iload_n hx hb dX4_temperatureBefore_17 rfl (lv_at hl 1 rfl) ?_
      refine lv_iconst (v := 1) hx hb dX4_temperatureBefore_18 (by decide) ?_
      refine lv_isub hx hb dX4_temperatureBefore_19 ?_
      obtain ⟨g3, h⟩ := ck_h h
      refine x_iald CX hM (kdl (kd4_f hk_k).2 rfl) (ly13 (kd4_f hk_k).2 _) g3 dX4_temperatureBefore_20 ?_
      refine lv_topi (fun x3_4 ex3_4 => ?_)
      replace h := nm_h ex3_4 h
      refine lv_istore_n (lv' := [(3, .int x3_4), (0, .ref (B + k)), (1, .int x1), (2, .int x2)]) hx hb dX4_temperatureBefore_21 rfl hl (by decide) rfl (fun ls hl => ?_)
      refine lv_aload_n hx hb dX4_temperatureBefore_22 rfl (lv_at hl 1 rfl) ?_
      refine g4_0 CX hM hk_k wf_X4_9 dX4_temperatureBefore_23 ?_
      refine lv_iload_n hx hb dX4_temperatureBefore_26 rfl (lv_at hl 2 rfl) ?_
      obtain ⟨g5, h⟩ := ck_h h
      refine x_iald CX hM (kdl (kd4_f hk_k).1 rfl) (ly13 (kd4_f hk_k).1 _) g5 dX4_temperatureBefore_27 ?_
      refine lv_aload_n hx hb dX4_temperatureBefore_28 rfl (lv_at hl 1 rfl) ?_
      refine g4_0 CX hM hk_k wf_X4_9 dX4_temperatureBefore_29 ?_
      refine lv_iload_n hx hb dX4_temperatureBefore_32 rfl (lv_at hl 2 rfl) ?_
      refine lv_iconst (v := 1) hx hb dX4_temperatureBefore_33 (by decide) ?_
      refine lv_isub hx hb dX4_temperatureBefore_34 ?_
      obtain ⟨g6, h⟩ := ck_h h
      refine x_iald CX hM (kdl (kd4_f hk_k).1 rfl) (ly13 (kd4_f hk_k).1 _) g6 dX4_temperatureBefore_35 ?_
      refine lv_isub hx hb dX4_temperatureBefore_36 ?_
      refine lv_topi (fun x4_7 ex4_7 => ?_)
      replace h := nm_h ex4_7 h
      refine lv_istore (lv' := [(4, .int x4_7), (3, .int x3_4), (0, .ref (B + k)), (1, .int x1), (2, .int x2)]) hx hb dX4_temperatureBefore_37 hl (by decide) rfl (fun ls hl => ?_)
      refine lv_iload_n hx hb dX4_temperatureBefore_39 rfl (lv_at hl 4 rfl) ?_
      refine lv_aload_n hx hb dX4_temperatureBefore_40 rfl (lv_at hl 2 rfl) ?_
      refine g4_0 CX hM hk_k wf_X4_9 dX4_temperatureBefore_41 ?_
      refine lv_iload_n hx hb dX4_temperatureBefore_44 rfl (lv_at hl 3 rfl) ?_
      refine lv_iconst (v := 1) hx hb dX4_temperatureBefore_45 (by decide) ?_
      refine lv_isub hx hb dX4_temperatureBefore_46 ?_
      obtain ⟨g8, h⟩ := ck_h h
      refine x_iald CX hM (kdl (kd4_f hk_k).1 rfl) (ly13 (kd4_f hk_k).1 _) g8 dX4_temperatureBefore_47 ?_
      refine lv_isub hx hb dX4_temperatureBefore_48 ?_
      refine lv_topi (fun x5_9 ex5_9 => ?_)
      replace h := nm_h ex5_9 h
      refine lv_istore (lv' := [(5, .int x5_9), (4, .int x4_7), (3, .int x3_4), (0, .ref (B + k)), (1, .int x1), (2, .int x2)]) hx hb dX4_temperatureBefore_49 hl (by decide) rfl (fun ls hl => ?_)
      refine lv_iload hx hb dX4_temperatureBefore_51 (lv_at hl 1 rfl) ?_
      refine lv_if_ne (tgt := 64) hx hb dX4_temperatureBefore_53 (by decide) (fun c10 => ?_) (fun c10 => ?_)
      · replace h := if_h c10 h
        refine lv_sipush (v := 1000) hx hb dX4_temperatureBefore_64 (by decide) ?_
        refine lv_iload_n hx hb dX4_temperatureBefore_67 rfl (lv_at hl 2 rfl) ?_
        refine lv_imul hx hb dX4_temperatureBefore_68 ?_
        refine lv_sipush (v := 1000) hx hb dX4_temperatureBefore_69 (by decide) ?_
        refine lv_aload_n hx hb dX4_temperatureBefore_72 rfl (lv_at hl 3 rfl) ?_
        refine g4_1 CX hM hk_k wf_X4_15 dX4_temperatureBefore_73 ?_
        refine lv_iload_n hx hb dX4_temperatureBefore_76 rfl (lv_at hl 4 rfl) ?_
        obtain ⟨g11, h⟩ := ck_h h
        refine x_iald CX hM (kdl (kd4_f hk_k).2 rfl) (ly13 (kd4_f hk_k).2 _) g11 dX4_temperatureBefore_77 ?_
        refine lv_iload_n hx hb dX4_temperatureBefore_78 rfl (lv_at hl 2 rfl) ?_
        refine lv_isub hx hb dX4_temperatureBefore_79 ?_
        refine lv_imul hx hb dX4_temperatureBefore_80 ?_
        refine lv_iload hx hb dX4_temperatureBefore_81 (lv_at hl 0 rfl) ?_
        refine lv_imul hx hb dX4_temperatureBefore_83 ?_
        refine lv_iload hx hb dX4_temperatureBefore_84 (lv_at hl 1 rfl) ?_
        obtain ⟨g12, h⟩ := nz_h h
        refine lv_idiv hx hb dX4_temperatureBefore_86 g12 ?_
        refine lv_iadd hx hb dX4_temperatureBefore_87 ?_
        obtain rfl := Option.some.inj h
        exact x_iret CX hr hlk hM rfl dX4_temperatureBefore_88
      · replace h := it_h c10 h
        refine lv_sipush (v := 1000) hx hb dX4_temperatureBefore_56 (by decide) ?_
        refine lv_iload_n hx hb dX4_temperatureBefore_59 rfl (lv_at hl 2 rfl) ?_
        refine lv_imul hx hb dX4_temperatureBefore_60 ?_
        refine lv_goto (tgt := 88) hx hb dX4_temperatureBefore_61 (by decide) ?_
        obtain rfl := Option.some.inj h
        exact x_iret CX hr hlk hM rfl dX4_temperatureBefore_88
    · replace h := if_h c2 h
      refine lv_iconst (v := 0) hx hb dX4_temperatureBefore_11 (by decide) ?_
      obtain rfl := Option.some.inj h
      exact x_iret CX hr hlk hM rfl dX4_temperatureBefore_12
def rm_X4_temperatureAt : Jvm.Room := { frames := 1, cells := 0, slots := 0, locals := 25 }
set_option maxHeartbeats 4000000 in
set_option maxRecDepth 100000 in
theorem c_X4_temperatureAt (l : Launch) (E : xE) (B : Nat) {k : Nat} {x1 : Int32} {σ : xM} {q : Int32 × xM} (hk_k : kd k = 4) (h : F_X4_temperatureAt k x1 σ = some q) : Met l yX4_temperatureAt (Cond.code yX4_temperatureAt cX4_temperatureAt 4 (some .int) :: AL) rm_X4_temperatureAt (xP E B 160 (layX E B) [.ref (B + k), .int x1] σ) (xQ E B 160 (layX E B) (some (.int q.1)) q.2) 0 0 (wA B 160) := by
  refine x_met (plainFor_of_name (by decide +kernel)) (Nat.le_of_ble_eq_true rfl) rfl ?_
  intro p e s m below meth c ls CX hr hlk hM hl
  have hx := CX.1.1
  have hb := CX.1.2.1
  unfold F_X4_temperatureAt at h
  have L4 : ∀ (N : Nat) (v1 : Int32) (v2 : Int32) (v3 : Int32) (σ : xM), ∀ (H : Heap) (locs : List Loc) (ls : Array Slot), xS E B 160 (layX E B) s σ H locs → lv_has ls 4 [(0, .ref (B + k)), (1, .int v1), (2, .int v2), (3, .int v3)] → F_X4_temperatureAt_L4 k N v1 v2 v3 σ = some q → W p l e rm_X4_temperatureAt s m ([.ref (B + k), .int x1] : List Value).toArray below meth c H locs 0 0 (MQ below (xQ E B 160 (layX E B) (some (.int q.1)) q.2) ([.ref (B + k), .int x1] : List Value).toArray s 0 0 (wA B 160)) (F0 m 4 ls []) := by
    clear hM hl h
    intro N
    induction N with
    | zero =>
      intro v1 v2 v3 σ  H locs ls hM hl h
      cases h
    | succ N ih =>
      intro v1 v2 v3 σ  H locs ls hM hl h
      rw [F_X4_temperatureAt_L4] at h
      refine lv_iload_n hx hb dX4_temperatureAt_4 rfl (lv_at hl 3 rfl) ?_
      refine lv_aload_n hx hb dX4_temperatureAt_5 rfl (lv_at hl 0 rfl) ?_
      refine g4_2 CX hM hk_k wf_X4_24 dX4_temperatureAt_6 ?_
      refine lv_icmp_ge (tgt := 69) hx hb dX4_temperatureAt_9 (by decide) (fun c1 => ?_) (fun c1 => ?_)
      · replace h := it_h c1 h
        refine lv_iload_n hx hb dX4_temperatureAt_69 rfl (lv_at hl 2 rfl) ?_
        obtain rfl := Option.some.inj h
        exact x_iret CX hr hlk hM rfl dX4_temperatureAt_70
      · replace h := if_h c1 h
        refine lv_iload_n hx hb dX4_temperatureAt_12 rfl (lv_at hl 3 rfl) ?_
        refine lv_bipush (v := 12) hx hb dX4_temperatureAt_13 (by decide) ?_
        refine lv_icmp_ge (tgt := 69) hx hb dX4_temperatureAt_15 (by decide) (fun c2 => ?_) (fun c2 => ?_)
        · replace h := it_h c2 h
          refine lv_iload_n hx hb dX4_temperatureAt_69 rfl (lv_at hl 2 rfl) ?_
          obtain rfl := Option.some.inj h
          exact x_iret CX hr hlk hM rfl dX4_temperatureAt_70
        · replace h := if_h c2 h
          refine lv_iload_n hx hb dX4_temperatureAt_18 rfl (lv_at hl 1 rfl) ?_
          refine lv_aload_n hx hb dX4_temperatureAt_19 rfl (lv_at hl 0 rfl) ?_
          refine g4_0 CX hM hk_k wf_X4_9 dX4_temperatureAt_20 ?_
          refine lv_iload_n hx hb dX4_temperatureAt_23 rfl (lv_at hl 3 rfl) ?_
          obtain ⟨g3, h⟩ := ck_h h
          refine x_iald CX hM (kdl (kd4_f hk_k).1 rfl) (ly13 (kd4_f hk_k).1 _) g3 dX4_temperatureAt_24 ?_
          refine lv_icmp_ge (tgt := 52) hx hb dX4_temperatureAt_25 (by decide) (fun c4 => ?_) (fun c4 => ?_)
          · replace h := it_h c4 h
            refine lv_sipush (v := 1000) hx hb dX4_temperatureAt_52 (by decide) ?_
            refine lv_aload_n hx hb dX4_temperatureAt_55 rfl (lv_at hl 0 rfl) ?_
            refine g4_1 CX hM hk_k wf_X4_15 dX4_temperatureAt_56 ?_
            refine lv_iload_n hx hb dX4_temperatureAt_59 rfl (lv_at hl 3 rfl) ?_
            obtain ⟨g5, h⟩ := ck_h h
            refine x_iald CX hM (kdl (kd4_f hk_k).2 rfl) (ly13 (kd4_f hk_k).2 _) g5 dX4_temperatureAt_60 ?_
            refine lv_imul hx hb dX4_temperatureAt_61 ?_
            refine lv_topi (fun x2_6 ex2_6 => ?_)
            replace h := nm_h ex2_6 h
            refine lv_istore_n (lv' := [(2, .int x2_6), (0, .ref (B + k)), (1, .int v1), (3, .int v3)]) hx hb dX4_temperatureAt_62 rfl hl (by decide) rfl (fun ls hl => ?_)
            refine lv_iinc (v := (v3 + 1)) (lv' := [(3, .int (v3 + 1)), (2, .int x2_6), (0, .ref (B + k)), (1, .int v1)]) hx hb dX4_temperatureAt_63 hl (k := 3) rfl rfl (by decide) rfl (fun ls hl => ?_)
            refine lv_goto (tgt := 4) hx hb dX4_temperatureAt_66 (by decide) ?_
            exact ih _ _ _ _  _ _ _ hM (lv_sub hl [2, 3, 1, 0] rfl) h
          · replace h := if_h c4 h
            refine lv_iload_n hx hb dX4_temperatureAt_28 rfl (lv_at hl 3 rfl) ?_
            refine lv_if_ne (tgt := 45) hx hb dX4_temperatureAt_29 (by decide) (fun c7 => ?_) (fun c7 => ?_)
            · replace h := if_h c7 h
              refine lv_aload_n hx hb dX4_temperatureAt_45 rfl (lv_at hl 0 rfl) ?_
              refine lv_iload_n hx hb dX4_temperatureAt_46 rfl (lv_at hl 3 rfl) ?_
              refine lv_iload_n hx hb dX4_temperatureAt_47 rfl (lv_at hl 1 rfl) ?_
              obtain ⟨q8, eq8, h⟩ := bd_h h
              refine x_callV (As := [.int v3, .int v1]) CX hM (kdl hk_k rfl) (ly4 hk_k _) rfl lk_X4_28 (c_X4_temperatureBefore l E B hk_k eq8) ⟨rfl, rfl, by decide, by decide⟩ rfl hl.1 rfl (Nat.le_of_ble_eq_true rfl) dX4_temperatureAt_48 (fun H locs hM => ?_)
              refine W.eq (g2 := F0 m 51 ls [.int q8.1]) rfl ?_
              obtain rfl := Option.some.inj h
              exact x_iret CX hr hlk hM rfl dX4_temperatureAt_51
            · replace h := it_h c7 h
              refine lv_sipush (v := 1000) hx hb dX4_temperatureAt_32 (by decide) ?_
              refine lv_aload_n hx hb dX4_temperatureAt_35 rfl (lv_at hl 0 rfl) ?_
              refine g4_1 CX hM hk_k wf_X4_15 dX4_temperatureAt_36 ?_
              refine lv_iconst (v := 0) hx hb dX4_temperatureAt_39 (by decide) ?_
              obtain ⟨g9, h⟩ := ck_h h
              refine x_iald CX hM (kdl (kd4_f hk_k).2 rfl) (ly13 (kd4_f hk_k).2 _) g9 dX4_temperatureAt_40 ?_
              refine lv_imul hx hb dX4_temperatureAt_41 ?_
              refine lv_goto (tgt := 51) hx hb dX4_temperatureAt_42 (by decide) ?_
              obtain rfl := Option.some.inj h
              exact x_iret CX hr hlk hM rfl dX4_temperatureAt_51
  refine lv_iconst (v := 0) hx hb dX4_temperatureAt_0 (by decide) ?_
  refine lv_istore_n (lv' := [(2, .int 0), (0, .ref (B + k)), (1, .int x1)]) hx hb dX4_temperatureAt_1 rfl hl (by decide) rfl (fun ls hl => ?_)
  refine lv_iconst (v := 0) hx hb dX4_temperatureAt_2 (by decide) ?_
  refine lv_istore_n (lv' := [(3, .int 0), (2, .int 0), (0, .ref (B + k)), (1, .int x1)]) hx hb dX4_temperatureAt_3 rfl hl (by decide) rfl (fun ls hl => ?_)
  exact L4 _ _ _ _ _  _ _ _ hM (lv_sub hl [2, 3, 1, 0] rfl) h
def rm_X3_beginMinute : Jvm.Room := { frames := 3, cells := 0, slots := 0, locals := 63 }
set_option maxHeartbeats 4000000 in
set_option maxRecDepth 100000 in
theorem c_X3_beginMinute (l : Launch) (E : xE) (B : Nat) {k : Nat} {x1 : Int32} {σ : xM} {q : Unit × xM} (hk_k : kd k = 3) (h : F_X3_beginMinute k x1 σ = some q) : Met l yX3_beginMinute (Cond.code yX3_beginMinute cX3_beginMinute 3 none :: AL) rm_X3_beginMinute (xP E B 160 (layX E B) [.ref (B + k), .int x1] σ) (xQ E B 160 (layX E B) none q.2) 0 0 (wA B 160) := by
  refine x_met (plainFor_of_name (by decide +kernel)) (Nat.le_of_ble_eq_true rfl) rfl ?_
  intro p e s m below meth c ls CX hr hlk hM hl
  have hx := CX.1.1
  have hb := CX.1.2.1
  unfold F_X3_beginMinute at h
  have J51 : ∀ (v1 : Int32) (σ : xM), ∀ (H : Heap) (locs : List Loc) (ls : Array Slot), xS E B 160 (layX E B) s σ H locs → lv_has ls 3 [(0, .ref (B + k)), (1, .int v1)] → F_X3_beginMinute_J51 k v1 σ = some q → W p l e rm_X3_beginMinute s m ([.ref (B + k), .int x1] : List Value).toArray below meth c H locs 0 0 (MQ below (xQ E B 160 (layX E B) none q.2) ([.ref (B + k), .int x1] : List Value).toArray s 0 0 (wA B 160)) (F0 m 51 ls []) := by
    clear hM hl h
    intro v1 σ  H locs ls hM hl h
    unfold F_X3_beginMinute_J51 at h
    refine lv_aload_n hx hb dX3_beginMinute_51 rfl (lv_at hl 0 rfl) ?_
    refine g3_3 CX hM hk_k wf_X3_25 dX3_beginMinute_52 ?_
    refine lv_aload_n hx hb dX3_beginMinute_55 rfl (lv_at hl 0 rfl) ?_
    refine g3_17 CX hM hk_k wf_X3_73 dX3_beginMinute_56 ?_
    refine lv_iload_n hx hb dX3_beginMinute_59 rfl (lv_at hl 1 rfl) ?_
    refine lv_isub hx hb dX3_beginMinute_60 ?_
    refine lv_imul hx hb dX3_beginMinute_61 ?_
    refine lv_sipush (v := 1000) hx hb dX3_beginMinute_62 (by decide) ?_
    refine lv_idiv hx hb dX3_beginMinute_65 (by decide) ?_
    refine lv_topi (fun x2_4 ex2_4 => ?_)
    replace h := nm_h ex2_4 h
    refine lv_istore_n (lv' := [(2, .int x2_4), (0, .ref (B + k)), (1, .int v1)]) hx hb dX3_beginMinute_66 rfl hl (by decide) rfl (fun ls hl => ?_)
    refine lv_aload_n hx hb dX3_beginMinute_67 rfl (lv_at hl 1 rfl) ?_
    refine lv_dup hx hb dX3_beginMinute_68 rfl ?_
    refine g3_4 CX hM hk_k wf_X3_28 dX3_beginMinute_69 ?_
    refine lv_iload_n hx hb dX3_beginMinute_72 rfl (lv_at hl 0 rfl) ?_
    refine lv_isub hx hb dX3_beginMinute_73 ?_
    refine p3_4 (y := ((σ k 4) - x2_4)) CX hM hk_k wf_X3_28 dX3_beginMinute_74 (fun H locs σ5 eσ5 hM => ?_)
    replace h := nm_h eσ5 h
    refine lv_aload_n hx hb dX3_beginMinute_77 rfl (lv_at hl 1 rfl) ?_
    refine g3_0 CX hM hk_k wf_X3_12 dX3_beginMinute_78 ?_
    refine lv_dup hx hb dX3_beginMinute_81 rfl ?_
    refine g0_2 CX hM (kd3_f hk_k) wf_X3_100 dX3_beginMinute_82 ?_
    refine lv_iload_n hx hb dX3_beginMinute_85 rfl (lv_at hl 0 rfl) ?_
    refine lv_iadd hx hb dX3_beginMinute_86 ?_
    refine p0_2 (y := ((σ5 (k + 1) 2) + x2_4)) CX hM (kd3_f hk_k) wf_X3_100 dX3_beginMinute_87 (fun H locs σ6 eσ6 hM => ?_)
    replace h := nm_h eσ6 h
    obtain rfl := Option.some.inj h
    exact x_vret CX hr hlk hM rfl dX3_beginMinute_90
  refine lv_aload_n hx hb dX3_beginMinute_0 rfl (lv_at hl 0 rfl) ?_
  refine lv_aload_n hx hb dX3_beginMinute_1 rfl (lv_at hl 0 rfl) ?_
  obtain ⟨q1, eq1, h⟩ := bd_h h
  refine x_callV (As := []) CX hM (kdl hk_k rfl) (ly3 hk_k _) rfl lk_X3_37 (c_X3_temperature l E B hk_k eq1) ⟨rfl, rfl, by decide, by decide⟩ rfl hl.1 rfl (Nat.le_of_ble_eq_true rfl) dX3_beginMinute_2 (fun H locs hM => ?_)
  refine W.eq (g2 := F0 m 5 ls [.int q1.1, .ref (B + k)]) rfl ?_
  refine p3_17 (y := q1.1) CX hM hk_k wf_X3_73 dX3_beginMinute_5 (fun H locs σ2 eσ2 hM => ?_)
  replace h := nm_h eσ2 h
  refine lv_aload_n hx hb dX3_beginMinute_8 rfl (lv_at hl 0 rfl) ?_
  refine g3_8 CX hM hk_k wf_X3_44 dX3_beginMinute_9 ?_
  refine lv_if_eq (tgt := 51) hx hb dX3_beginMinute_12 (by decide) (fun c3 => ?_) (fun c3 => ?_)
  · replace h := it_h c3 h
    exact J51 _ _  _ _ _ hM (lv_sub hl [0, 1] rfl) h
  · replace h := if_h c3 h
    refine lv_aload_n hx hb dX3_beginMinute_15 rfl (lv_at hl 0 rfl) ?_
    refine g3_10 CX hM hk_k wf_X3_51 dX3_beginMinute_16 ?_
    refine lv_if_ne (tgt := 51) hx hb dX3_beginMinute_19 (by decide) (fun c7 => ?_) (fun c7 => ?_)
    · replace h := if_h c7 h
      exact J51 _ _  _ _ _ hM (lv_sub hl [0, 1] rfl) h
    · replace h := it_h c7 h
      refine lv_aload_n hx hb dX3_beginMinute_22 rfl (lv_at hl 0 rfl) ?_
      refine lv_dup hx hb dX3_beginMinute_23 rfl ?_
      refine g3_4 CX hM hk_k wf_X3_28 dX3_beginMinute_24 ?_
      refine lv_aload_n hx hb dX3_beginMinute_27 rfl (lv_at hl 0 rfl) ?_
      refine g3_2 CX hM hk_k wf_X3_22 dX3_beginMinute_28 ?_
      refine lv_iadd hx hb dX3_beginMinute_31 ?_
      refine p3_4 (y := ((σ2 k 4) + (σ2 k 2))) CX hM hk_k wf_X3_28 dX3_beginMinute_32 (fun H locs σ8 eσ8 hM => ?_)
      replace h := nm_h eσ8 h
      refine lv_aload_n hx hb dX3_beginMinute_35 rfl (lv_at hl 0 rfl) ?_
      refine g3_0 CX hM hk_k wf_X3_12 dX3_beginMinute_36 ?_
      refine lv_dup hx hb dX3_beginMinute_39 rfl ?_
      refine g0_1 CX hM (kd3_f hk_k) wf_X3_97 dX3_beginMinute_40 ?_
      refine lv_aload_n hx hb dX3_beginMinute_43 rfl (lv_at hl 0 rfl) ?_
      refine g3_2 CX hM hk_k wf_X3_22 dX3_beginMinute_44 ?_
      refine lv_iadd hx hb dX3_beginMinute_47 ?_
      refine p0_1 (y := ((σ8 (k + 1) 1) + (σ8 k 2))) CX hM (kd3_f hk_k) wf_X3_97 dX3_beginMinute_48 (fun H locs σ9 eσ9 hM => ?_)
      replace h := nm_h eσ9 h
      exact J51 _ _  _ _ _ hM (lv_sub hl [0, 1] rfl) h
def rm_X1_heatRooms : Jvm.Room := { frames := 4, cells := 0, slots := 0, locals := 85 }
set_option maxHeartbeats 4000000 in
set_option maxRecDepth 100000 in
theorem c_X1_heatRooms (l : Launch) (E : xE) (B : Nat) {k : Nat} {σ : xM} {q : Unit × xM} (hk_k : kd k = 1) (h : F_X1_heatRooms k σ = some q) : Met l yX1_heatRooms (Cond.code yX1_heatRooms cX1_heatRooms 4 none :: AL) rm_X1_heatRooms (xP E B 160 (layX E B) [.ref (B + k)] σ) (xQ E B 160 (layX E B) none q.2) 0 0 (wA B 160) := by
  refine x_met (plainFor_of_name (by decide +kernel)) (Nat.le_of_ble_eq_true rfl) rfl ?_
  intro p e s m below meth c ls CX hr hlk hM hl
  have hx := CX.1.1
  have hb := CX.1.2.1
  unfold F_X1_heatRooms at h
  have L14 : ∀ (N : Nat) (v1 : Int32) (v2 : Int32) (σ : xM), ∀ (H : Heap) (locs : List Loc) (ls : Array Slot), xS E B 160 (layX E B) s σ H locs → lv_has ls 4 [(0, .ref (B + k)), (1, .int v1), (2, .int v2)] → F_X1_heatRooms_L14 k N v1 v2 σ = some q → W p l e rm_X1_heatRooms s m ([.ref (B + k)] : List Value).toArray below meth c H locs 0 0 (MQ below (xQ E B 160 (layX E B) none q.2) ([.ref (B + k)] : List Value).toArray s 0 0 (wA B 160)) (F0 m 14 ls []) := by
    clear hM hl h
    intro N
    induction N with
    | zero =>
      intro v1 v2 σ  H locs ls hM hl h
      cases h
    | succ N ih =>
      intro v1 v2 σ  H locs ls hM hl h
      rw [F_X1_heatRooms_L14] at h
      refine lv_iload_n hx hb dX1_heatRooms_14 rfl (lv_at hl 2 rfl) ?_
      refine lv_aload_n hx hb dX1_heatRooms_15 rfl (lv_at hl 0 rfl) ?_
      refine g1_4 CX hM hk_k wf_X1_45 dX1_heatRooms_16 ?_
      refine lv_icmp_ge (tgt := 43) hx hb dX1_heatRooms_19 (by decide) (fun c2 => ?_) (fun c2 => ?_)
      · replace h := it_h c2 h
        obtain rfl := Option.some.inj h
        exact x_vret CX hr hlk hM rfl dX1_heatRooms_43
      · replace h := if_h c2 h
        refine lv_aload_n hx hb dX1_heatRooms_22 rfl (lv_at hl 0 rfl) ?_
        refine lv_iload_n hx hb dX1_heatRooms_23 rfl (lv_at hl 2 rfl) ?_
        obtain ⟨q3, eq3, h⟩ := bd_h h
        refine x_callV (As := [.int v2]) CX hM (kdl hk_k rfl) (ly1 hk_k _) rfl lk_X1_52 (c_X1_roomAt l E B hk_k eq3) ⟨rfl, rfl, by decide, by decide⟩ rfl hl.1 rfl (Nat.le_of_ble_eq_true rfl) dX1_heatRooms_24 (fun H locs hM => ?_)
        rcases hq3 : q3.1 with _ | r4
        · rw [hq3] at h
          replace h := oc_n h
          refine W.eq (g2 := F0 m 27 ls [.null]) rfl ?_
          refine lv_astore_nN (lv' := [(3, .null), (0, .ref (B + k)), (1, .int v1), (2, .int v2)]) hx hb dX1_heatRooms_27 rfl hl (by decide) rfl (fun ls hl => ?_)
          refine lv_aload_nN hx hb dX1_heatRooms_28 rfl (lv_at hl 0 rfl) ?_
          refine lv_ifnullN (tgt := 37) hx hb dX1_heatRooms_29 (by decide) ?_
          refine lv_iinc (v := (v2 + 1)) (lv' := [(2, .int (v2 + 1)), (3, .null), (0, .ref (B + k)), (1, .int v1)]) hx hb dX1_heatRooms_37 hl (k := 3) rfl rfl (by decide) rfl (fun ls hl => ?_)
          refine lv_goto (tgt := 14) hx hb dX1_heatRooms_40 (by decide) ?_
          exact ih _ _ _  _ _ _ hM (lv_sub hl [2, 3, 0] rfl) h
        · rw [hq3] at h
          replace h := oc_s h
          obtain ⟨hk_r4, h⟩ := ck_h h
          refine W.eq (g2 := F0 m 27 ls [.ref (B + r4)]) rfl ?_
          refine lv_astore_n (lv' := [(3, .ref (B + r4)), (0, .ref (B + k)), (1, .int v1), (2, .int v2)]) hx hb dX1_heatRooms_27 rfl hl (by decide) rfl (fun ls hl => ?_)
          refine lv_aload_n hx hb dX1_heatRooms_28 rfl (lv_at hl 0 rfl) ?_
          refine lv_ifnull hx hb dX1_heatRooms_29 ?_
          refine lv_aload_n hx hb dX1_heatRooms_32 rfl (lv_at hl 0 rfl) ?_
          refine lv_iload_n hx hb dX1_heatRooms_33 rfl (lv_at hl 2 rfl) ?_
          obtain ⟨q5, eq5, h⟩ := bd_h h
          refine x_callV (As := [.int v1]) CX hM (kdl hk_r4 rfl) (ly3 hk_r4 _) rfl lk_X1_119 (c_X3_beginMinute l E B hk_r4 eq5) ⟨rfl, rfl, by decide, by decide⟩ rfl hl.1 rfl (Nat.le_of_ble_eq_true rfl) dX1_heatRooms_34 (fun H locs hM => ?_)
          refine W.eq (g2 := F0 m 37 ls []) rfl ?_
          refine lv_iinc (v := (v2 + 1)) (lv' := [(2, .int (v2 + 1)), (3, .ref (B + r4)), (0, .ref (B + k)), (1, .int v1)]) hx hb dX1_heatRooms_37 hl (k := 3) rfl rfl (by decide) rfl (fun ls hl => ?_)
          refine lv_goto (tgt := 14) hx hb dX1_heatRooms_40 (by decide) ?_
          exact ih _ _ _  _ _ _ hM (lv_sub hl [2, 3, 0] rfl) h
  refine lv_aload_n hx hb dX1_heatRooms_0 rfl (lv_at hl 0 rfl) ?_
  refine g1_3 CX hM hk_k wf_X1_27 dX1_heatRooms_1 ?_
  refine lv_aload_n hx hb dX1_heatRooms_4 rfl (lv_at hl 0 rfl) ?_
  refine g1_5 CX hM hk_k wf_X1_49 dX1_heatRooms_5 ?_
  obtain ⟨q1, eq1, h⟩ := bd_h h
  refine x_callV (As := [.int (σ k 5)]) CX hM (kdl (kd1_f hk_k).2.2.2 rfl) (ly4 (kd1_f hk_k).2.2.2 _) rfl lk_X1_116 (c_X4_temperatureAt l E B ((kd1_f hk_k).2.2.2) eq1) ⟨rfl, rfl, by decide, by decide⟩ rfl hl.1 rfl (Nat.le_of_ble_eq_true rfl) dX1_heatRooms_8 (fun H locs hM => ?_)
  refine W.eq (g2 := F0 m 11 ls [.int q1.1]) rfl ?_
  refine lv_istore_n (lv' := [(1, .int q1.1), (0, .ref (B + k))]) hx hb dX1_heatRooms_11 rfl hl (by decide) rfl (fun ls hl => ?_)
  refine lv_iconst (v := 0) hx hb dX1_heatRooms_12 (by decide) ?_
  refine lv_istore_n (lv' := [(2, .int 0), (1, .int q1.1), (0, .ref (B + k))]) hx hb dX1_heatRooms_13 rfl hl (by decide) rfl (fun ls hl => ?_)
  exact L14 _ _ _ _  _ _ _ hM (lv_sub hl [2, 1, 0] rfl) h
def rm_X3_giveToOthers : Jvm.Room := { frames := 0, cells := 0, slots := 0, locals := 0 }
set_option maxHeartbeats 4000000 in
set_option maxRecDepth 100000 in
theorem c_X3_giveToOthers (l : Launch) (E : xE) (B : Nat) {k : Nat} {x1 : Int32} {σ : xM} {q : Unit × xM} (hk_k : kd k = 3) (h : F_X3_giveToOthers k x1 σ = some q) : Met l yX3_giveToOthers (Cond.code yX3_giveToOthers cX3_giveToOthers 2 none :: AL) rm_X3_giveToOthers (xP E B 160 (layX E B) [.ref (B + k), .int x1] σ) (xQ E B 160 (layX E B) none q.2) 0 0 (wA B 160) := by
  refine x_met (plainFor_of_name (by decide +kernel)) (Nat.le_of_ble_eq_true rfl) rfl ?_
  intro p e s m below meth c ls CX hr hlk hM hl
  have hx := CX.1.1
  have hb := CX.1.2.1
  unfold F_X3_giveToOthers at h
  refine lv_aload_n hx hb dX3_giveToOthers_0 rfl (lv_at hl 0 rfl) ?_
  refine lv_dup hx hb dX3_giveToOthers_1 rfl ?_
  refine g3_4 CX hM hk_k wf_X3_28 dX3_giveToOthers_2 ?_
  refine lv_iload_n hx hb dX3_giveToOthers_5 rfl (lv_at hl 1 rfl) ?_
  refine lv_isub hx hb dX3_giveToOthers_6 ?_
  refine p3_4 (y := ((σ k 4) - x1)) CX hM hk_k wf_X3_28 dX3_giveToOthers_7 (fun H locs σ1 eσ1 hM => ?_)
  replace h := nm_h eσ1 h
  refine lv_aload_n hx hb dX3_giveToOthers_10 rfl (lv_at hl 0 rfl) ?_
  refine g3_0 CX hM hk_k wf_X3_12 dX3_giveToOthers_11 ?_
  refine lv_dup hx hb dX3_giveToOthers_14 rfl ?_
  refine g0_3 CX hM (kd3_f hk_k) wf_X3_103 dX3_giveToOthers_15 ?_
  refine lv_iload_n hx hb dX3_giveToOthers_18 rfl (lv_at hl 1 rfl) ?_
  refine lv_iadd hx hb dX3_giveToOthers_19 ?_
  refine p0_3 (y := ((σ1 (k + 1) 3) + x1)) CX hM (kd3_f hk_k) wf_X3_103 dX3_giveToOthers_20 (fun H locs σ2 eσ2 hM => ?_)
  replace h := nm_h eσ2 h
  obtain rfl := Option.some.inj h
  exact x_vret CX hr hlk hM rfl dX3_giveToOthers_23
def rm_X1_exchangeHeat : Jvm.Room := { frames := 2, cells := 0, slots := 0, locals := 44 }
set_option maxHeartbeats 4000000 in
set_option maxRecDepth 100000 in
theorem c_X1_exchangeHeat (l : Launch) (E : xE) (B : Nat) {k : Nat} {σ : xM} {q : Unit × xM} (hk_k : kd k = 1) (h : F_X1_exchangeHeat k σ = some q) : Met l yX1_exchangeHeat (Cond.code yX1_exchangeHeat cX1_exchangeHeat 7 none :: AL) rm_X1_exchangeHeat (xP E B 160 (layX E B) [.ref (B + k)] σ) (xQ E B 160 (layX E B) none q.2) 0 0 (wA B 160) := by
  refine x_met (plainFor_of_name (by decide +kernel)) (Nat.le_of_ble_eq_true rfl) rfl ?_
  intro p e s m below meth c ls CX hr hlk hM hl
  have hx := CX.1.1
  have hb := CX.1.2.1
  unfold F_X1_exchangeHeat at h
  have LL : ∀ (N : Nat), (∀ (v1 : Int32) (σ : xM) (H : Heap) (locs : List Loc) (ls : Array Slot), xS E B 160 (layX E B) s σ H locs → lv_has ls 7 [(0, .ref (B + k)), (1, .int v1)] → F_X1_exchangeHeat_LL k N 2 v1 0 σ = some q → W p l e rm_X1_exchangeHeat s m ([.ref (B + k)] : List Value).toArray below meth c H locs 0 0 (MQ below (xQ E B 160 (layX E B) none q.2) ([.ref (B + k)] : List Value).toArray s 0 0 (wA B 160)) (F0 m 2 ls [])) ∧ (∀ (v1 : Int32) (v2 : Int32) (σ : xM) (H : Heap) (locs : List Loc) (ls : Array Slot), xS E B 160 (layX E B) s σ H locs → lv_has ls 7 [(0, .ref (B + k)), (1, .int v1), (2, .int v2)] → F_X1_exchangeHeat_LL k N 14 v1 v2 σ = some q → W p l e rm_X1_exchangeHeat s m ([.ref (B + k)] : List Value).toArray below meth c H locs 0 0 (MQ below (xQ E B 160 (layX E B) none q.2) ([.ref (B + k)] : List Value).toArray s 0 0 (wA B 160)) (F0 m 14 ls [])) := by
    clear hM hl h
    intro N
    induction N with
    | zero =>
      refine ⟨?_, ?_⟩
      · intro v1 σ H locs ls hM hl h
        cases h
      · intro v1 v2 σ H locs ls hM hl h
        cases h
    | succ N ih =>
      refine ⟨?_, ?_⟩
      · intro v1 σ H locs ls hM hl h
        rw [F_X1_exchangeHeat_LL] at h
        replace h := it_h rfl h
        refine lv_iload_n hx hb dX1_exchangeHeat_2 rfl (lv_at hl 1 rfl) ?_
        refine lv_aload_n hx hb dX1_exchangeHeat_3 rfl (lv_at hl 0 rfl) ?_
        refine g1_4 CX hM hk_k wf_X1_45 dX1_exchangeHeat_4 ?_
        refine lv_icmp_ge (tgt := 97) hx hb dX1_exchangeHeat_7 (by decide) (fun c1 => ?_) (fun c1 => ?_)
        · replace h := it_h c1 h
          obtain rfl := Option.some.inj h
          exact x_vret CX hr hlk hM rfl dX1_exchangeHeat_97
        · replace h := if_h c1 h
          refine lv_iload_n hx hb dX1_exchangeHeat_10 rfl (lv_at hl 1 rfl) ?_
          refine lv_iconst (v := 1) hx hb dX1_exchangeHeat_11 (by decide) ?_
          refine lv_iadd hx hb dX1_exchangeHeat_12 ?_
          refine lv_topi (fun x2_2 ex2_2 => ?_)
          replace h := nm_h ex2_2 h
          refine lv_istore_n (lv' := [(2, .int x2_2), (0, .ref (B + k)), (1, .int v1)]) hx hb dX1_exchangeHeat_13 rfl hl (by decide) rfl (fun ls hl => ?_)
          exact ih.2 _ _ _ _ _ _ hM (lv_sub hl [1, 2, 0] rfl) h
      · intro v1 v2 σ H locs ls hM hl h
        rw [F_X1_exchangeHeat_LL] at h
        replace h := if_h (by decide) h
        refine lv_iload_n hx hb dX1_exchangeHeat_14 rfl (lv_at hl 2 rfl) ?_
        refine lv_aload_n hx hb dX1_exchangeHeat_15 rfl (lv_at hl 0 rfl) ?_
        refine g1_4 CX hM hk_k wf_X1_45 dX1_exchangeHeat_16 ?_
        refine lv_icmp_ge (tgt := 91) hx hb dX1_exchangeHeat_19 (by decide) (fun c3 => ?_) (fun c3 => ?_)
        · replace h := it_h c3 h
          refine lv_iinc (v := (v1 + 1)) (lv' := [(1, .int (v1 + 1)), (0, .ref (B + k)), (2, .int v2)]) hx hb dX1_exchangeHeat_91 hl (k := 1) rfl rfl (by decide) rfl (fun ls hl => ?_)
          refine lv_goto (tgt := 2) hx hb dX1_exchangeHeat_94 (by decide) ?_
          exact ih.1 _ _ _ _ _ hM (lv_sub hl [1, 0] rfl) h
        · replace h := if_h c3 h
          refine lv_aload_n hx hb dX1_exchangeHeat_22 rfl (lv_at hl 0 rfl) ?_
          refine lv_iload_n hx hb dX1_exchangeHeat_23 rfl (lv_at hl 1 rfl) ?_
          obtain ⟨q4, eq4, h⟩ := bd_h h
          refine x_callV (As := [.int v1]) CX hM (kdl hk_k rfl) (ly1 hk_k _) rfl lk_X1_52 (c_X1_roomAt l E B hk_k eq4) ⟨rfl, rfl, by decide, by decide⟩ rfl hl.1 rfl (Nat.le_of_ble_eq_true rfl) dX1_exchangeHeat_24 (fun H locs hM => ?_)
          rcases hq4 : q4.1 with _ | r5
          · rw [hq4] at h
            replace h := oc_n h
            refine W.eq (g2 := F0 m 27 ls [.null]) rfl ?_
            refine lv_astore_nN (lv' := [(3, .null), (0, .ref (B + k)), (1, .int v1), (2, .int v2)]) hx hb dX1_exchangeHeat_27 rfl hl (by decide) rfl (fun ls hl => ?_)
            refine lv_aload_n hx hb dX1_exchangeHeat_28 rfl (lv_at hl 1 rfl) ?_
            refine lv_iload_n hx hb dX1_exchangeHeat_29 rfl (lv_at hl 3 rfl) ?_
            obtain ⟨q6, eq6, h⟩ := bd_h h
            refine x_callV (As := [.int v2]) CX hM (kdl hk_k rfl) (ly1 hk_k _) rfl lk_X1_52 (c_X1_roomAt l E B hk_k eq6) ⟨rfl, rfl, by decide, by decide⟩ rfl hl.1 rfl (Nat.le_of_ble_eq_true rfl) dX1_exchangeHeat_30 (fun H locs hM => ?_)
            rcases hq6 : q6.1 with _ | r7
            · rw [hq6] at h
              replace h := oc_n h
              refine W.eq (g2 := F0 m 33 ls [.null]) rfl ?_
              refine lv_astoreN (lv' := [(4, .null), (3, .null), (0, .ref (B + k)), (1, .int v1), (2, .int v2)]) hx hb dX1_exchangeHeat_33 hl (by decide) rfl (fun ls hl => ?_)
              refine lv_aload_nN hx hb dX1_exchangeHeat_35 rfl (lv_at hl 1 rfl) ?_
              refine lv_ifnullN (tgt := 85) hx hb dX1_exchangeHeat_36 (by decide) ?_
              refine lv_iinc (v := (v2 + 1)) (lv' := [(2, .int (v2 + 1)), (4, .null), (3, .null), (0, .ref (B + k)), (1, .int v1)]) hx hb dX1_exchangeHeat_85 hl (k := 4) rfl rfl (by decide) rfl (fun ls hl => ?_)
              refine lv_goto (tgt := 14) hx hb dX1_exchangeHeat_88 (by decide) ?_
              exact ih.2 _ _ _ _ _ _ hM (lv_sub hl [3, 4, 0] rfl) h
            · rw [hq6] at h
              replace h := oc_s h
              obtain ⟨hk_r7, h⟩ := ck_h h
              refine W.eq (g2 := F0 m 33 ls [.ref (B + r7)]) rfl ?_
              refine lv_astore (lv' := [(4, .ref (B + r7)), (3, .null), (0, .ref (B + k)), (1, .int v1), (2, .int v2)]) hx hb dX1_exchangeHeat_33 hl (by decide) rfl (fun ls hl => ?_)
              refine lv_aload_nN hx hb dX1_exchangeHeat_35 rfl (lv_at hl 1 rfl) ?_
              refine lv_ifnullN (tgt := 85) hx hb dX1_exchangeHeat_36 (by decide) ?_
              refine lv_iinc (v := (v2 + 1)) (lv' := [(2, .int (v2 + 1)), (4, .ref (B + r7)), (3, .null), (0, .ref (B + k)), (1, .int v1)]) hx hb dX1_exchangeHeat_85 hl (k := 4) rfl rfl (by decide) rfl (fun ls hl => ?_)
              refine lv_goto (tgt := 14) hx hb dX1_exchangeHeat_88 (by decide) ?_
              exact ih.2 _ _ _ _ _ _ hM (lv_sub hl [3, 4, 0] rfl) h
          · rw [hq4] at h
            replace h := oc_s h
            obtain ⟨hk_r5, h⟩ := ck_h h
            refine W.eq (g2 := F0 m 27 ls [.ref (B + r5)]) rfl ?_
            refine lv_astore_n (lv' := [(3, .ref (B + r5)), (0, .ref (B + k)), (1, .int v1), (2, .int v2)]) hx hb dX1_exchangeHeat_27 rfl hl (by decide) rfl (fun ls hl => ?_)
            refine lv_aload_n hx hb dX1_exchangeHeat_28 rfl (lv_at hl 1 rfl) ?_
            refine lv_iload_n hx hb dX1_exchangeHeat_29 rfl (lv_at hl 3 rfl) ?_
            obtain ⟨q8, eq8, h⟩ := bd_h h
            refine x_callV (As := [.int v2]) CX hM (kdl hk_k rfl) (ly1 hk_k _) rfl lk_X1_52 (c_X1_roomAt l E B hk_k eq8) ⟨rfl, rfl, by decide, by decide⟩ rfl hl.1 rfl (Nat.le_of_ble_eq_true rfl) dX1_exchangeHeat_30 (fun H locs hM => ?_)
            rcases hq8 : q8.1 with _ | r9
            · rw [hq8] at h
              replace h := oc_n h
              refine W.eq (g2 := F0 m 33 ls [.null]) rfl ?_
              refine lv_astoreN (lv' := [(4, .null), (3, .ref (B + r5)), (0, .ref (B + k)), (1, .int v1), (2, .int v2)]) hx hb dX1_exchangeHeat_33 hl (by decide) rfl (fun ls hl => ?_)
              refine lv_aload_n hx hb dX1_exchangeHeat_35 rfl (lv_at hl 1 rfl) ?_
              refine lv_ifnull hx hb dX1_exchangeHeat_36 ?_
              refine lv_aloadN hx hb dX1_exchangeHeat_39 (lv_at hl 0 rfl) ?_
              refine lv_ifnullN (tgt := 85) hx hb dX1_exchangeHeat_41 (by decide) ?_
              refine lv_iinc (v := (v2 + 1)) (lv' := [(2, .int (v2 + 1)), (4, .null), (3, .ref (B + r5)), (0, .ref (B + k)), (1, .int v1)]) hx hb dX1_exchangeHeat_85 hl (k := 4) rfl rfl (by decide) rfl (fun ls hl => ?_)
              refine lv_goto (tgt := 14) hx hb dX1_exchangeHeat_88 (by decide) ?_
              exact ih.2 _ _ _ _ _ _ hM (lv_sub hl [3, 4, 0] rfl) h
            · rw [hq8] at h
              replace h := oc_s h
              obtain ⟨hk_r9, h⟩ := ck_h h
              refine W.eq (g2 := F0 m 33 ls [.ref (B + r9)]) rfl ?_
              refine lv_astore (lv' := [(4, .ref (B + r9)), (3, .ref (B + r5)), (0, .ref (B + k)), (1, .int v1), (2, .int v2)]) hx hb dX1_exchangeHeat_33 hl (by decide) rfl (fun ls hl => ?_)
              refine lv_aload_n hx hb dX1_exchangeHeat_35 rfl (lv_at hl 1 rfl) ?_
              refine lv_ifnull hx hb dX1_exchangeHeat_36 ?_
              refine lv_aload hx hb dX1_exchangeHeat_39 (lv_at hl 0 rfl) ?_
              refine lv_ifnull hx hb dX1_exchangeHeat_41 ?_
              refine lv_aload_n hx hb dX1_exchangeHeat_44 rfl (lv_at hl 1 rfl) ?_
              refine g3_17 CX hM hk_r5 wf_X1_123 dX1_exchangeHeat_45 ?_
              refine lv_aload hx hb dX1_exchangeHeat_48 (lv_at hl 0 rfl) ?_
              refine g3_17 CX hM hk_r9 wf_X1_123 dX1_exchangeHeat_50 ?_
              refine lv_isub hx hb dX1_exchangeHeat_53 ?_
              refine lv_topi (fun x5_10 ex5_10 => ?_)
              replace h := nm_h ex5_10 h
              refine lv_istore (lv' := [(5, .int x5_10), (4, .ref (B + r9)), (3, .ref (B + r5)), (0, .ref (B + k)), (1, .int v1), (2, .int v2)]) hx hb dX1_exchangeHeat_54 hl (by decide) rfl (fun ls hl => ?_)
              refine lv_aload_n hx hb dX1_exchangeHeat_56 rfl (lv_at hl 3 rfl) ?_
              refine lv_iload_n hx hb dX1_exchangeHeat_57 rfl (lv_at hl 4 rfl) ?_
              refine lv_iload_n hx hb dX1_exchangeHeat_58 rfl (lv_at hl 5 rfl) ?_
              obtain ⟨q11, eq11, h⟩ := bd_h h
              refine x_callV (As := [.int v1, .int v2]) CX hM (kdl hk_k rfl) (ly1 hk_k _) rfl lk_X1_74 (c_X1_linkOf l E B hk_k eq11) ⟨rfl, rfl, by decide, by decide⟩ rfl hl.1 rfl (Nat.le_of_ble_eq_true rfl) dX1_exchangeHeat_59 (fun H locs hM => ?_)
              refine W.eq (g2 := F0 m 62 ls [.int q11.1]) rfl ?_
              refine lv_iload hx hb dX1_exchangeHeat_62 (lv_at hl 0 rfl) ?_
              refine lv_imul hx hb dX1_exchangeHeat_64 ?_
              refine lv_sipush (v := 1000) hx hb dX1_exchangeHeat_65 (by decide) ?_
              refine lv_idiv hx hb dX1_exchangeHeat_68 (by decide) ?_
              refine lv_topi (fun x6_12 ex6_12 => ?_)
              replace h := nm_h ex6_12 h
              refine lv_istore (lv' := [(6, .int x6_12), (5, .int x5_10), (4, .ref (B + r9)), (3, .ref (B + r5)), (0, .ref (B + k)), (1, .int v1), (2, .int v2)]) hx hb dX1_exchangeHeat_69 hl (by decide) rfl (fun ls hl => ?_)
              refine lv_aload_n hx hb dX1_exchangeHeat_71 rfl (lv_at hl 3 rfl) ?_
              refine lv_iload hx hb dX1_exchangeHeat_72 (lv_at hl 0 rfl) ?_
              obtain ⟨q13, eq13, h⟩ := bd_h h
              refine x_callV (As := [.int x6_12]) CX hM (kdl hk_r5 rfl) (ly3 hk_r5 _) rfl lk_X1_126 (c_X3_giveToOthers l E B hk_r5 eq13) ⟨rfl, rfl, by decide, by decide⟩ rfl hl.1 rfl (Nat.le_of_ble_eq_true rfl) dX1_exchangeHeat_74 (fun H locs hM => ?_)
              refine W.eq (g2 := F0 m 77 ls []) rfl ?_
              refine lv_aload hx hb dX1_exchangeHeat_77 (lv_at hl 2 rfl) ?_
              refine lv_iload hx hb dX1_exchangeHeat_79 (lv_at hl 0 rfl) ?_
              refine lv_ineg hx hb dX1_exchangeHeat_81 ?_
              obtain ⟨q14, eq14, h⟩ := bd_h h
              refine x_callV (As := [.int (-x6_12)]) CX hM (kdl hk_r9 rfl) (ly3 hk_r9 _) rfl lk_X1_126 (c_X3_giveToOthers l E B hk_r9 eq14) ⟨rfl, rfl, by decide, by decide⟩ rfl hl.1 rfl (Nat.le_of_ble_eq_true rfl) dX1_exchangeHeat_82 (fun H locs hM => ?_)
              refine W.eq (g2 := F0 m 85 ls []) rfl ?_
              refine lv_iinc (v := (v2 + 1)) (lv' := [(2, .int (v2 + 1)), (6, .int x6_12), (5, .int x5_10), (4, .ref (B + r9)), (3, .ref (B + r5)), (0, .ref (B + k)), (1, .int v1)]) hx hb dX1_exchangeHeat_85 hl (k := 6) rfl rfl (by decide) rfl (fun ls hl => ?_)
              refine lv_goto (tgt := 14) hx hb dX1_exchangeHeat_88 (by decide) ?_
              exact ih.2 _ _ _ _ _ _ hM (lv_sub hl [5, 6, 0] rfl) h
  refine lv_iconst (v := 0) hx hb dX1_exchangeHeat_0 (by decide) ?_
  refine lv_istore_n (lv' := [(1, .int 0), (0, .ref (B + k))]) hx hb dX1_exchangeHeat_1 rfl hl (by decide) rfl (fun ls hl => ?_)
  exact (LL _).1 _ _ _ _ _ hM (lv_sub hl [1, 0] rfl) h
end
section
def rm_X3_isBladeCold : Jvm.Room := { frames := 0, cells := 0, slots := 0, locals := 0 }
set_option maxHeartbeats 4000000 in
set_option maxRecDepth 100000 in
theorem c_X3_isBladeCold (l : Launch) (E : xE) (B : Nat) {k : Nat} {σ : xM} {q : Int32 × xM} (hk_k : kd k = 3) (h : F_X3_isBladeCold k σ = some q) : Met l yX3_isBladeCold (Cond.code yX3_isBladeCold cX3_isBladeCold 1 (some .boolean) :: AL) rm_X3_isBladeCold (xP E B 160 (layX E B) [.ref (B + k)] σ) (xQ E B 160 (layX E B) (some (.int (bz q.1))) q.2) 0 0 (wA B 160) := by
  refine x_met (plainFor_of_name (by decide +kernel)) (Nat.le_of_ble_eq_true rfl) rfl ?_
  intro p e s m below meth c ls CX hr hlk hM hl
  have hx := CX.1.1
  have hb := CX.1.2.1
  unfold F_X3_isBladeCold at h
  refine lv_aload_n hx hb dX3_isBladeCold_0 rfl (lv_at hl 0 rfl) ?_
  refine g3_7 CX hM hk_k wf_X3_41 dX3_isBladeCold_1 ?_
  refine lv_aload_n hx hb dX3_isBladeCold_4 rfl (lv_at hl 0 rfl) ?_
  refine g3_5 CX hM hk_k wf_X3_31 dX3_isBladeCold_5 ?_
  refine lv_aload_n hx hb dX3_isBladeCold_8 rfl (lv_at hl 0 rfl) ?_
  refine g3_6 CX hM hk_k wf_X3_34 dX3_isBladeCold_9 ?_
  refine lv_isub hx hb dX3_isBladeCold_12 ?_
  refine lv_icmp_gt (tgt := 20) hx hb dX3_isBladeCold_13 (by decide) (fun c1 => ?_) (fun c1 => ?_)
  · replace h := it_h c1 h
    refine lv_iconst (v := 0) hx hb dX3_isBladeCold_20 (by decide) ?_
    obtain rfl := Option.some.inj h
    exact x_zret (y := 0) CX hr hlk hM rfl rfl dX3_isBladeCold_21
  · replace h := if_h c1 h
    refine lv_iconst (v := 1) hx hb dX3_isBladeCold_16 (by decide) ?_
    refine lv_goto (tgt := 21) hx hb dX3_isBladeCold_17 (by decide) ?_
    obtain rfl := Option.some.inj h
    exact x_zret (y := 1) CX hr hlk hM rfl rfl dX3_isBladeCold_21
def rm_X1_close : Jvm.Room := { frames := 1, cells := 0, slots := 0, locals := 21 }
set_option maxHeartbeats 4000000 in
set_option maxRecDepth 100000 in
theorem c_X1_close (l : Launch) (E : xE) (B : Nat) {k : Nat} {r1 : Nat} {σ : xM} {q : Unit × xM} (hk_k : kd k = 1) (hk_r1 : kd r1 = 3) (h : F_X1_close k r1 σ = some q) : Met l yX1_close (Cond.code yX1_close cX1_close 2 none :: AL) rm_X1_close (xP E B 160 (layX E B) [.ref (B + k), .ref (B + r1)] σ) (xQ E B 160 (layX E B) none q.2) 0 0 (wA B 160) := by
  refine x_met (plainFor_of_name (by decide +kernel)) (Nat.le_of_ble_eq_true rfl) rfl ?_
  intro p e s m below meth c ls CX hr hlk hM hl
  have hx := CX.1.1
  have hb := CX.1.2.1
  unfold F_X1_close at h
  have J38 : ∀ (σ : xM), ∀ (H : Heap) (locs : List Loc) (ls : Array Slot), xS E B 160 (layX E B) s σ H locs → lv_has ls 2 [(0, .ref (B + k)), (1, .ref (B + r1))] → F_X1_close_J38 k r1  σ = some q → W p l e rm_X1_close s m ([.ref (B + k), .ref (B + r1)] : List Value).toArray below meth c H locs 0 0 (MQ below (xQ E B 160 (layX E B) none q.2) ([.ref (B + k), .ref (B + r1)] : List Value).toArray s 0 0 (wA B 160)) (F0 m 38 ls []) := by
    clear hM hl h
    intro  σ  H locs ls hM hl h
    unfold F_X1_close_J38 at h
    refine lv_aload_n hx hb dX1_close_38 rfl (lv_at hl 1 rfl) ?_
    refine lv_iconst (v := 1) hx hb dX1_close_39 (by decide) ?_
    refine p3_8 (y := 1) CX hM hk_r1 wf_X1_129 dX1_close_40 (fun H locs σ2 eσ2 hM => ?_)
    replace h := nm_h eσ2 h
    refine lv_aload_n hx hb dX1_close_43 rfl (lv_at hl 1 rfl) ?_
    refine lv_dup hx hb dX1_close_44 rfl ?_
    refine g3_13 CX hM hk_r1 wf_X1_155 dX1_close_45 ?_
    refine lv_iconst (v := 1) hx hb dX1_close_48 (by decide) ?_
    refine lv_iadd hx hb dX1_close_49 ?_
    refine p3_13 (y := ((σ2 r1 13) + 1)) CX hM hk_r1 wf_X1_155 dX1_close_50 (fun H locs σ3 eσ3 hM => ?_)
    replace h := nm_h eσ3 h
    refine lv_aload_n hx hb dX1_close_53 rfl (lv_at hl 1 rfl) ?_
    refine lv_aload_n hx hb dX1_close_54 rfl (lv_at hl 0 rfl) ?_
    refine g1_5 CX hM hk_k wf_X1_49 dX1_close_55 ?_
    refine p3_14 (y := (σ3 k 5)) CX hM hk_r1 wf_X1_158 dX1_close_58 (fun H locs σ4 eσ4 hM => ?_)
    replace h := nm_h eσ4 h
    refine lv_aload_n hx hb dX1_close_61 rfl (lv_at hl 1 rfl) ?_
    refine lv_dup hx hb dX1_close_62 rfl ?_
    refine g3_11 CX hM hk_r1 wf_X1_161 dX1_close_63 ?_
    refine lv_aload_n hx hb dX1_close_66 rfl (lv_at hl 1 rfl) ?_
    refine g3_2 CX hM hk_r1 wf_X1_164 dX1_close_67 ?_
    refine lv_iadd hx hb dX1_close_70 ?_
    refine p3_11 (y := ((σ4 r1 11) + (σ4 r1 2))) CX hM hk_r1 wf_X1_161 dX1_close_71 (fun H locs σ5 eσ5 hM => ?_)
    replace h := nm_h eσ5 h
    refine lv_aload_n hx hb dX1_close_74 rfl (lv_at hl 1 rfl) ?_
    refine g3_11 CX hM hk_r1 wf_X1_161 dX1_close_75 ?_
    refine lv_aload_n hx hb dX1_close_78 rfl (lv_at hl 0 rfl) ?_
    refine lv_iconst (v := 1) hx hb dX1_close_79 (by decide) ?_
    obtain ⟨q6, eq6, h⟩ := bd_h h
    refine x_callV (As := [.int 1]) CX hM (kdl hk_k rfl) (ly1 hk_k _) rfl lk_X1_83 (c_X1_number l E B hk_k eq6) ⟨rfl, rfl, by decide, by decide⟩ rfl hl.1 rfl (Nat.le_of_ble_eq_true rfl) dX1_close_80 (fun H locs hM => ?_)
    refine W.eq (g2 := F0 m 83 ls [.int q6.1, .int (σ5 r1 11)]) rfl ?_
    refine lv_icmp_lt (tgt := 91) hx hb dX1_close_83 (by decide) (fun c7 => ?_) (fun c7 => ?_)
    · replace h := it_h c7 h
      obtain rfl := Option.some.inj h
      exact x_vret CX hr hlk hM rfl dX1_close_91
    · replace h := if_h c7 h
      refine lv_aload_n hx hb dX1_close_86 rfl (lv_at hl 1 rfl) ?_
      refine lv_iconst (v := 1) hx hb dX1_close_87 (by decide) ?_
      refine p3_9 (y := 1) CX hM hk_r1 wf_X1_167 dX1_close_88 (fun H locs σ8 eσ8 hM => ?_)
      replace h := nm_h eσ8 h
      obtain rfl := Option.some.inj h
      exact x_vret CX hr hlk hM rfl dX1_close_91
  refine lv_aload_n hx hb dX1_close_0 rfl (lv_at hl 1 rfl) ?_
  refine g3_13 CX hM hk_r1 wf_X1_155 dX1_close_1 ?_
  refine lv_if_le (tgt := 38) hx hb dX1_close_4 (by decide) (fun c1 => ?_) (fun c1 => ?_)
  · replace h := it_h c1 h
    exact J38 _  _ _ _ hM (lv_sub hl [0, 1] rfl) h
  · replace h := if_h c1 h
    refine lv_aload_n hx hb dX1_close_7 rfl (lv_at hl 0 rfl) ?_
    refine g1_5 CX hM hk_k wf_X1_49 dX1_close_8 ?_
    refine lv_aload_n hx hb dX1_close_11 rfl (lv_at hl 1 rfl) ?_
    refine g3_14 CX hM hk_r1 wf_X1_158 dX1_close_12 ?_
    refine lv_isub hx hb dX1_close_15 ?_
    refine lv_aload_n hx hb dX1_close_16 rfl (lv_at hl 0 rfl) ?_
    refine lv_iconst (v := 3) hx hb dX1_close_17 (by decide) ?_
    obtain ⟨q9, eq9, h⟩ := bd_h h
    refine x_callV (As := [.int 3]) CX hM (kdl hk_k rfl) (ly1 hk_k _) rfl lk_X1_83 (c_X1_number l E B hk_k eq9) ⟨rfl, rfl, by decide, by decide⟩ rfl hl.1 rfl (Nat.le_of_ble_eq_true rfl) dX1_close_18 (fun H locs hM => ?_)
    refine W.eq (g2 := F0 m 21 ls [.int q9.1, .int ((σ k 5) - (σ r1 14))]) rfl ?_
    refine lv_icmp_ge (tgt := 38) hx hb dX1_close_21 (by decide) (fun c10 => ?_) (fun c10 => ?_)
    · replace h := it_h c10 h
      exact J38 _  _ _ _ hM (lv_sub hl [0, 1] rfl) h
    · replace h := if_h c10 h
      refine lv_aload_n hx hb dX1_close_24 rfl (lv_at hl 1 rfl) ?_
      refine lv_dup hx hb dX1_close_25 rfl ?_
      refine g3_15 CX hM hk_r1 wf_X1_91 dX1_close_26 ?_
      refine lv_aload_n hx hb dX1_close_29 rfl (lv_at hl 0 rfl) ?_
      refine lv_iconst (v := 4) hx hb dX1_close_30 (by decide) ?_
      obtain ⟨q11, eq11, h⟩ := bd_h h
      refine x_callV (As := [.int 4]) CX hM (kdl hk_k rfl) (ly1 hk_k _) rfl lk_X1_83 (c_X1_number l E B hk_k eq11) ⟨rfl, rfl, by decide, by decide⟩ rfl hl.1 rfl (Nat.le_of_ble_eq_true rfl) dX1_close_31 (fun H locs hM => ?_)
      refine W.eq (g2 := F0 m 34 ls [.int q11.1, .int (q9.2 r1 15), .ref (B + r1)]) rfl ?_
      refine lv_iadd hx hb dX1_close_34 ?_
      refine p3_15 (y := ((q9.2 r1 15) + q11.1)) CX hM hk_r1 wf_X1_91 dX1_close_35 (fun H locs σ12 eσ12 hM => ?_)
      replace h := nm_h eσ12 h
      exact J38 _  _ _ _ hM (lv_sub hl [0, 1] rfl) h
def rm_X3_isBladeHot : Jvm.Room := { frames := 0, cells := 0, slots := 0, locals := 0 }
set_option maxHeartbeats 4000000 in
set_option maxRecDepth 100000 in
theorem c_X3_isBladeHot (l : Launch) (E : xE) (B : Nat) {k : Nat} {σ : xM} {q : Int32 × xM} (hk_k : kd k = 3) (h : F_X3_isBladeHot k σ = some q) : Met l yX3_isBladeHot (Cond.code yX3_isBladeHot cX3_isBladeHot 1 (some .boolean) :: AL) rm_X3_isBladeHot (xP E B 160 (layX E B) [.ref (B + k)] σ) (xQ E B 160 (layX E B) (some (.int (bz q.1))) q.2) 0 0 (wA B 160) := by
  refine x_met (plainFor_of_name (by decide +kernel)) (Nat.le_of_ble_eq_true rfl) rfl ?_
  intro p e s m below meth c ls CX hr hlk hM hl
  have hx := CX.1.1
  have hb := CX.1.2.1
  unfold F_X3_isBladeHot at h
  refine lv_aload_n hx hb dX3_isBladeHot_0 rfl (lv_at hl 0 rfl) ?_
  refine g3_7 CX hM hk_k wf_X3_41 dX3_isBladeHot_1 ?_
  refine lv_aload_n hx hb dX3_isBladeHot_4 rfl (lv_at hl 0 rfl) ?_
  refine g3_5 CX hM hk_k wf_X3_31 dX3_isBladeHot_5 ?_
  refine lv_aload_n hx hb dX3_isBladeHot_8 rfl (lv_at hl 0 rfl) ?_
  refine g3_6 CX hM hk_k wf_X3_34 dX3_isBladeHot_9 ?_
  refine lv_iadd hx hb dX3_isBladeHot_12 ?_
  refine lv_icmp_lt (tgt := 20) hx hb dX3_isBladeHot_13 (by decide) (fun c1 => ?_) (fun c1 => ?_)
  · replace h := it_h c1 h
    refine lv_iconst (v := 0) hx hb dX3_isBladeHot_20 (by decide) ?_
    obtain rfl := Option.some.inj h
    exact x_zret (y := 0) CX hr hlk hM rfl rfl dX3_isBladeHot_21
  · replace h := if_h c1 h
    refine lv_iconst (v := 1) hx hb dX3_isBladeHot_16 (by decide) ?_
    refine lv_goto (tgt := 21) hx hb dX3_isBladeHot_17 (by decide) ?_
    obtain rfl := Option.some.inj h
    exact x_zret (y := 1) CX hr hlk hM rfl rfl dX3_isBladeHot_21
def rm_X3_tryToOpen : Jvm.Room := { frames := 0, cells := 0, slots := 0, locals := 0 }
set_option maxHeartbeats 4000000 in
set_option maxRecDepth 100000 in
theorem c_X3_tryToOpen (l : Launch) (E : xE) (B : Nat) {k : Nat} {x1 : Int32} {σ : xM} {q : Unit × xM} (hk_k : kd k = 3) (h : F_X3_tryToOpen k x1 σ = some q) : Met l yX3_tryToOpen (Cond.code yX3_tryToOpen cX3_tryToOpen 2 none :: AL) rm_X3_tryToOpen (xP E B 160 (layX E B) [.ref (B + k), .int x1] σ) (xQ E B 160 (layX E B) none q.2) 0 0 (wA B 160) := by
  refine x_met (plainFor_of_name (by decide +kernel)) (Nat.le_of_ble_eq_true rfl) rfl ?_
  intro p e s m below meth c ls CX hr hlk hM hl
  have hx := CX.1.1
  have hb := CX.1.2.1
  unfold F_X3_tryToOpen at h
  refine lv_aload_n hx hb dX3_tryToOpen_0 rfl (lv_at hl 0 rfl) ?_
  refine g3_9 CX hM hk_k wf_X3_48 dX3_tryToOpen_1 ?_
  refine lv_if_ne (tgt := 13) hx hb dX3_tryToOpen_4 (by decide) (fun c1 => ?_) (fun c1 => ?_)
  · replace h := if_h c1 h
    refine lv_aload_n hx hb dX3_tryToOpen_13 rfl (lv_at hl 0 rfl) ?_
    refine lv_dup hx hb dX3_tryToOpen_14 rfl ?_
    refine g3_12 CX hM hk_k wf_X3_57 dX3_tryToOpen_15 ?_
    refine lv_iconst (v := 1) hx hb dX3_tryToOpen_18 (by decide) ?_
    refine lv_iadd hx hb dX3_tryToOpen_19 ?_
    refine p3_12 (y := ((σ k 12) + 1)) CX hM hk_k wf_X3_57 dX3_tryToOpen_20 (fun H locs σ2 eσ2 hM => ?_)
    replace h := nm_h eσ2 h
    refine lv_aload_n hx hb dX3_tryToOpen_23 rfl (lv_at hl 0 rfl) ?_
    refine g3_12 CX hM hk_k wf_X3_57 dX3_tryToOpen_24 ?_
    refine lv_iload_n hx hb dX3_tryToOpen_27 rfl (lv_at hl 1 rfl) ?_
    refine lv_icmp_lt (tgt := 56) hx hb dX3_tryToOpen_28 (by decide) (fun c3 => ?_) (fun c3 => ?_)
    · replace h := it_h c3 h
      obtain rfl := Option.some.inj h
      exact x_vret CX hr hlk hM rfl dX3_tryToOpen_56
    · replace h := if_h c3 h
      refine lv_aload_n hx hb dX3_tryToOpen_31 rfl (lv_at hl 0 rfl) ?_
      refine lv_iconst (v := 0) hx hb dX3_tryToOpen_32 (by decide) ?_
      refine p3_8 (y := 0) CX hM hk_k wf_X3_44 dX3_tryToOpen_33 (fun H locs σ4 eσ4 hM => ?_)
      replace h := nm_h eσ4 h
      refine lv_aload_n hx hb dX3_tryToOpen_36 rfl (lv_at hl 0 rfl) ?_
      refine lv_iconst (v := 0) hx hb dX3_tryToOpen_37 (by decide) ?_
      refine p3_9 (y := 0) CX hM hk_k wf_X3_48 dX3_tryToOpen_38 (fun H locs σ5 eσ5 hM => ?_)
      replace h := nm_h eσ5 h
      refine lv_aload_n hx hb dX3_tryToOpen_41 rfl (lv_at hl 0 rfl) ?_
      refine lv_iconst (v := 0) hx hb dX3_tryToOpen_42 (by decide) ?_
      refine p3_12 (y := 0) CX hM hk_k wf_X3_57 dX3_tryToOpen_43 (fun H locs σ6 eσ6 hM => ?_)
      replace h := nm_h eσ6 h
      refine lv_aload_n hx hb dX3_tryToOpen_46 rfl (lv_at hl 0 rfl) ?_
      refine lv_dup hx hb dX3_tryToOpen_47 rfl ?_
      refine g3_11 CX hM hk_k wf_X3_54 dX3_tryToOpen_48 ?_
      refine lv_iconst (v := 2) hx hb dX3_tryToOpen_51 (by decide) ?_
      refine lv_idiv hx hb dX3_tryToOpen_52 (by decide) ?_
      refine p3_11 (y := ((σ6 k 11) / 2)) CX hM hk_k wf_X3_54 dX3_tryToOpen_53 (fun H locs σ7 eσ7 hM => ?_)
      replace h := nm_h eσ7 h
      obtain rfl := Option.some.inj h
      exact x_vret CX hr hlk hM rfl dX3_tryToOpen_56
  · replace h := it_h c1 h
    refine lv_aload_n hx hb dX3_tryToOpen_7 rfl (lv_at hl 0 rfl) ?_
    refine lv_iconst (v := 0) hx hb dX3_tryToOpen_8 (by decide) ?_
    refine p3_8 (y := 0) CX hM hk_k wf_X3_44 dX3_tryToOpen_9 (fun H locs σ8 eσ8 hM => ?_)
    replace h := nm_h eσ8 h
    obtain rfl := Option.some.inj h
    exact x_vret CX hr hlk hM rfl dX3_tryToOpen_12
def rm_X1_settle : Jvm.Room := { frames := 3, cells := 0, slots := 0, locals := 63 }
set_option maxHeartbeats 4000000 in
set_option maxRecDepth 100000 in
theorem c_X1_settle (l : Launch) (E : xE) (B : Nat) {k : Nat} {r1 : Nat} {σ : xM} {q : Int32 × xM} (hk_k : kd k = 1) (hk_r1 : kd r1 = 3) (h : F_X1_settle k r1 σ = some q) : Met l yX1_settle (Cond.code yX1_settle cX1_settle 4 (some .boolean) :: AL) rm_X1_settle (xP E B 160 (layX E B) [.ref (B + k), .ref (B + r1)] σ) (xQ E B 160 (layX E B) (some (.int (bz q.1))) q.2) 0 0 (wA B 160) := by
  refine x_met (plainFor_of_name (by decide +kernel)) (Nat.le_of_ble_eq_true rfl) rfl ?_
  intro p e s m below meth c ls CX hr hlk hM hl
  have hx := CX.1.1
  have hb := CX.1.2.1
  unfold F_X1_settle at h
  have J118 : ∀ (v2 : Int32) (y0 : Int32) (σ : xM), ∀ (H : Heap) (locs : List Loc) (ls : Array Slot), xS E B 160 (layX E B) s σ H locs → lv_has ls 4 [(1, .ref (B + r1)), (2, .int v2)] → F_X1_settle_J118 r1 v2 y0 σ = some q → W p l e rm_X1_settle s m ([.ref (B + k), .ref (B + r1)] : List Value).toArray below meth c H locs 0 0 (MQ below (xQ E B 160 (layX E B) (some (.int (bz q.1))) q.2) ([.ref (B + k), .ref (B + r1)] : List Value).toArray s 0 0 (wA B 160)) (F0 m 118 ls [.int y0, .ref (B + r1)]) := by
    clear hM hl h
    intro v2 y0 σ  H locs ls hM hl h
    unfold F_X1_settle_J118 at h
    refine p3_16 (y := y0) CX hM hk_r1 wf_X1_80 dX1_settle_118 (fun H locs σ9 eσ9 hM => ?_)
    replace h := nm_h eσ9 h
    refine lv_aload_n hx hb dX1_settle_121 rfl (lv_at hl 0 rfl) ?_
    refine g3_8 CX hM hk_r1 wf_X1_129 dX1_settle_122 ?_
    refine lv_iload_n hx hb dX1_settle_125 rfl (lv_at hl 1 rfl) ?_
    refine lv_icmp_eq (tgt := 133) hx hb dX1_settle_126 (by decide) (fun c10 => ?_) (fun c10 => ?_)
    · replace h := it_h c10 h
      refine lv_iconst (v := 0) hx hb dX1_settle_133 (by decide) ?_
      obtain rfl := Option.some.inj h
      exact x_zret (y := 0) CX hr hlk hM rfl rfl dX1_settle_134
    · replace h := if_h c10 h
      refine lv_iconst (v := 1) hx hb dX1_settle_129 (by decide) ?_
      refine lv_goto (tgt := 134) hx hb dX1_settle_130 (by decide) ?_
      obtain rfl := Option.some.inj h
      exact x_zret (y := 1) CX hr hlk hM rfl rfl dX1_settle_134
  have J117 : ∀ (v2 : Int32) (σ : xM), ∀ (H : Heap) (locs : List Loc) (ls : Array Slot), xS E B 160 (layX E B) s σ H locs → lv_has ls 4 [(1, .ref (B + r1)), (2, .int v2)] → F_X1_settle_J117 r1 v2 σ = some q → W p l e rm_X1_settle s m ([.ref (B + k), .ref (B + r1)] : List Value).toArray below meth c H locs 0 0 (MQ below (xQ E B 160 (layX E B) (some (.int (bz q.1))) q.2) ([.ref (B + k), .ref (B + r1)] : List Value).toArray s 0 0 (wA B 160)) (F0 m 117 ls [.ref (B + r1)]) := by
    clear hM hl h
    intro v2 σ  H locs ls hM hl h
    unfold F_X1_settle_J117 at h
    refine lv_iconst (v := 0) hx hb dX1_settle_117 (by decide) ?_
    exact J118 _ _ _  _ _ _ hM (lv_sub hl [0, 1] rfl) h
  have J93 : ∀ (v2 : Int32) (σ : xM), ∀ (H : Heap) (locs : List Loc) (ls : Array Slot), xS E B 160 (layX E B) s σ H locs → lv_has ls 4 [(1, .ref (B + r1)), (2, .int v2)] → F_X1_settle_J93 r1 v2 σ = some q → W p l e rm_X1_settle s m ([.ref (B + k), .ref (B + r1)] : List Value).toArray below meth c H locs 0 0 (MQ below (xQ E B 160 (layX E B) (some (.int (bz q.1))) q.2) ([.ref (B + k), .ref (B + r1)] : List Value).toArray s 0 0 (wA B 160)) (F0 m 93 ls []) := by
    clear hM hl h
    intro v2 σ  H locs ls hM hl h
    unfold F_X1_settle_J93 at h
    refine lv_aload_n hx hb dX1_settle_93 rfl (lv_at hl 0 rfl) ?_
    refine lv_aload_n hx hb dX1_settle_94 rfl (lv_at hl 0 rfl) ?_
    refine g3_8 CX hM hk_r1 wf_X1_129 dX1_settle_95 ?_
    refine lv_if_eq (tgt := 117) hx hb dX1_settle_98 (by decide) (fun c8 => ?_) (fun c8 => ?_)
    · replace h := it_h c8 h
      exact J117 _ _  _ _ _ hM (lv_sub hl [0, 1] rfl) h
    · replace h := if_h c8 h
      refine lv_aload_n hx hb dX1_settle_101 rfl (lv_at hl 0 rfl) ?_
      obtain ⟨q11, eq11, h⟩ := bd_h h
      refine x_callV (As := []) CX hM (kdl hk_r1 rfl) (ly3 hk_r1 _) rfl lk_X1_149 (c_X3_isBladeHot l E B hk_r1 eq11) ⟨rfl, rfl, by decide, by decide⟩ rfl hl.1 rfl (Nat.le_of_ble_eq_true rfl) dX1_settle_102 (fun H locs hM => ?_)
      refine W.eq (g2 := F0 m 105 ls [.int (bz q11.1), .ref (B + r1)]) rfl ?_
      refine lv_if_eq (tgt := 117) hx hb dX1_settle_105 (by decide) (fun c12 => ?_) (fun c12 => ?_)
      · replace h := it_h c12 h
        exact J117 _ _  _ _ _ hM (lv_sub hl [0, 1] rfl) h
      · replace h := if_h c12 h
        refine lv_aload_n hx hb dX1_settle_108 rfl (lv_at hl 0 rfl) ?_
        refine g3_16 CX hM hk_r1 wf_X1_80 dX1_settle_109 ?_
        refine lv_iconst (v := 1) hx hb dX1_settle_112 (by decide) ?_
        refine lv_iadd hx hb dX1_settle_113 ?_
        refine lv_goto (tgt := 118) hx hb dX1_settle_114 (by decide) ?_
        exact J118 _ _ _  _ _ _ hM (lv_sub hl [0, 1] rfl) h
  have J70 : ∀ (v2 : Int32) (σ : xM), ∀ (H : Heap) (locs : List Loc) (ls : Array Slot), xS E B 160 (layX E B) s σ H locs → lv_has ls 4 [(0, .ref (B + k)), (1, .ref (B + r1)), (2, .int v2)] → F_X1_settle_J70 k r1 v2 σ = some q → W p l e rm_X1_settle s m ([.ref (B + k), .ref (B + r1)] : List Value).toArray below meth c H locs 0 0 (MQ below (xQ E B 160 (layX E B) (some (.int (bz q.1))) q.2) ([.ref (B + k), .ref (B + r1)] : List Value).toArray s 0 0 (wA B 160)) (F0 m 70 ls []) := by
    clear hM hl h
    intro v2 σ  H locs ls hM hl h
    unfold F_X1_settle_J70 at h
    refine lv_aload_n hx hb dX1_settle_70 rfl (lv_at hl 1 rfl) ?_
    refine g3_8 CX hM hk_r1 wf_X1_129 dX1_settle_71 ?_
    refine lv_if_eq (tgt := 93) hx hb dX1_settle_74 (by decide) (fun c7 => ?_) (fun c7 => ?_)
    · replace h := it_h c7 h
      exact J93 _ _  _ _ _ hM (lv_sub hl [1, 2] rfl) h
    · replace h := if_h c7 h
      refine lv_aload_n hx hb dX1_settle_77 rfl (lv_at hl 1 rfl) ?_
      obtain ⟨q13, eq13, h⟩ := bd_h h
      refine x_callV (As := []) CX hM (kdl hk_r1 rfl) (ly3 hk_r1 _) rfl lk_X1_149 (c_X3_isBladeHot l E B hk_r1 eq13) ⟨rfl, rfl, by decide, by decide⟩ rfl hl.1 rfl (Nat.le_of_ble_eq_true rfl) dX1_settle_78 (fun H locs hM => ?_)
      refine W.eq (g2 := F0 m 81 ls [.int (bz q13.1)]) rfl ?_
      refine lv_if_eq (tgt := 93) hx hb dX1_settle_81 (by decide) (fun c14 => ?_) (fun c14 => ?_)
      · replace h := it_h c14 h
        exact J93 _ _  _ _ _ hM (lv_sub hl [1, 2] rfl) h
      · replace h := if_h c14 h
        refine lv_aload_n hx hb dX1_settle_84 rfl (lv_at hl 1 rfl) ?_
        refine lv_aload_n hx hb dX1_settle_85 rfl (lv_at hl 0 rfl) ?_
        refine lv_iconst (v := 2) hx hb dX1_settle_86 (by decide) ?_
        obtain ⟨q15, eq15, h⟩ := bd_h h
        refine x_callV (As := [.int 2]) CX hM (kdl hk_k rfl) (ly1 hk_k _) rfl lk_X1_83 (c_X1_number l E B hk_k eq15) ⟨rfl, rfl, by decide, by decide⟩ rfl hl.1 rfl (Nat.le_of_ble_eq_true rfl) dX1_settle_87 (fun H locs hM => ?_)
        refine W.eq (g2 := F0 m 90 ls [.int q15.1, .ref (B + r1)]) rfl ?_
        obtain ⟨q16, eq16, h⟩ := bd_h h
        refine x_callV (As := [.int q15.1]) CX hM (kdl hk_r1 rfl) (ly3 hk_r1 _) rfl lk_X1_152 (c_X3_tryToOpen l E B hk_r1 eq16) ⟨rfl, rfl, by decide, by decide⟩ rfl hl.1 rfl (Nat.le_of_ble_eq_true rfl) dX1_settle_90 (fun H locs hM => ?_)
        refine W.eq (g2 := F0 m 93 ls []) rfl ?_
        exact J93 _ _  _ _ _ hM (lv_sub hl [1, 2] rfl) h
  have J24 : ∀ (v2 : Int32) (v3 : Int32) (σ : xM), ∀ (H : Heap) (locs : List Loc) (ls : Array Slot), xS E B 160 (layX E B) s σ H locs → lv_has ls 4 [(0, .ref (B + k)), (1, .ref (B + r1)), (2, .int v2), (3, .int v3)] → F_X1_settle_J24 k r1 v2 v3 σ = some q → W p l e rm_X1_settle s m ([.ref (B + k), .ref (B + r1)] : List Value).toArray below meth c H locs 0 0 (MQ below (xQ E B 160 (layX E B) (some (.int (bz q.1))) q.2) ([.ref (B + k), .ref (B + r1)] : List Value).toArray s 0 0 (wA B 160)) (F0 m 24 ls []) := by
    clear hM hl h
    intro v2 v3 σ  H locs ls hM hl h
    unfold F_X1_settle_J24 at h
    refine lv_aload_n hx hb dX1_settle_24 rfl (lv_at hl 1 rfl) ?_
    refine lv_dup hx hb dX1_settle_25 rfl ?_
    refine g3_7 CX hM hk_r1 wf_X1_139 dX1_settle_26 ?_
    refine lv_iload_n hx hb dX1_settle_29 rfl (lv_at hl 3 rfl) ?_
    refine lv_aload_n hx hb dX1_settle_30 rfl (lv_at hl 1 rfl) ?_
    refine g3_7 CX hM hk_r1 wf_X1_139 dX1_settle_31 ?_
    refine lv_isub hx hb dX1_settle_34 ?_
    refine lv_aload_n hx hb dX1_settle_35 rfl (lv_at hl 0 rfl) ?_
    refine lv_iconst (v := 0) hx hb dX1_settle_36 (by decide) ?_
    obtain ⟨q4, eq4, h⟩ := bd_h h
    refine x_callV (As := [.int 0]) CX hM (kdl hk_k rfl) (ly1 hk_k _) rfl lk_X1_83 (c_X1_number l E B hk_k eq4) ⟨rfl, rfl, by decide, by decide⟩ rfl hl.1 rfl (Nat.le_of_ble_eq_true rfl) dX1_settle_37 (fun H locs hM => ?_)
    refine W.eq (g2 := F0 m 40 ls [.int q4.1, .int (v3 - (σ r1 7)), .int (σ r1 7), .ref (B + r1)]) rfl ?_
    refine lv_imul hx hb dX1_settle_40 ?_
    refine lv_bipush (v := 100) hx hb dX1_settle_41 (by decide) ?_
    refine lv_idiv hx hb dX1_settle_43 (by decide) ?_
    refine lv_iadd hx hb dX1_settle_44 ?_
    refine p3_7 (y := ((σ r1 7) + (((v3 - (σ r1 7)) * q4.1) / 100))) CX hM hk_r1 wf_X1_139 dX1_settle_45 (fun H locs σ5 eσ5 hM => ?_)
    replace h := nm_h eσ5 h
    refine lv_aload_n hx hb dX1_settle_48 rfl (lv_at hl 1 rfl) ?_
    refine g3_8 CX hM hk_r1 wf_X1_129 dX1_settle_49 ?_
    refine lv_if_ne (tgt := 70) hx hb dX1_settle_52 (by decide) (fun c6 => ?_) (fun c6 => ?_)
    · replace h := if_h c6 h
      exact J70 _ _  _ _ _ hM (lv_sub hl [0, 1, 2] rfl) h
    · replace h := it_h c6 h
      refine lv_aload_n hx hb dX1_settle_55 rfl (lv_at hl 1 rfl) ?_
      obtain ⟨q17, eq17, h⟩ := bd_h h
      refine x_callV (As := []) CX hM (kdl hk_r1 rfl) (ly3 hk_r1 _) rfl lk_X1_142 (c_X3_isBladeCold l E B hk_r1 eq17) ⟨rfl, rfl, by decide, by decide⟩ rfl hl.1 rfl (Nat.le_of_ble_eq_true rfl) dX1_settle_56 (fun H locs hM => ?_)
      refine W.eq (g2 := F0 m 59 ls [.int (bz q17.1)]) rfl ?_
      refine lv_if_eq (tgt := 70) hx hb dX1_settle_59 (by decide) (fun c18 => ?_) (fun c18 => ?_)
      · replace h := it_h c18 h
        exact J70 _ _  _ _ _ hM (lv_sub hl [0, 1, 2] rfl) h
      · replace h := if_h c18 h
        refine lv_aload_n hx hb dX1_settle_62 rfl (lv_at hl 0 rfl) ?_
        refine lv_aload_n hx hb dX1_settle_63 rfl (lv_at hl 1 rfl) ?_
        obtain ⟨q19, eq19, h⟩ := bd_h h
        refine x_callV (As := [.ref (B + r1)]) CX hM (kdl hk_k rfl) (ly1 hk_k _) rfl lk_X1_146 (c_X1_close l E B hk_k hk_r1 eq19) ⟨rfl, rfl, by decide, by decide⟩ rfl hl.1 rfl (Nat.le_of_ble_eq_true rfl) dX1_settle_64 (fun H locs hM => ?_)
        refine W.eq (g2 := F0 m 67 ls []) rfl ?_
        refine lv_goto (tgt := 93) hx hb dX1_settle_67 (by decide) ?_
        exact J93 _ _  _ _ _ hM (lv_sub hl [1, 2] rfl) h
  refine lv_aload_n hx hb dX1_settle_0 rfl (lv_at hl 1 rfl) ?_
  refine g3_8 CX hM hk_r1 wf_X1_129 dX1_settle_1 ?_
  refine lv_istore_n (lv' := [(2, .int (bz (σ r1 8))), (0, .ref (B + k)), (1, .ref (B + r1))]) hx hb dX1_settle_4 rfl hl (by decide) rfl (fun ls hl => ?_)
  refine lv_aload_n hx hb dX1_settle_5 rfl (lv_at hl 2 rfl) ?_
  obtain ⟨q1, eq1, h⟩ := bd_h h
  refine x_callV (As := []) CX hM (kdl hk_r1 rfl) (ly3 hk_r1 _) rfl lk_X1_133 (c_X3_temperature l E B hk_r1 eq1) ⟨rfl, rfl, by decide, by decide⟩ rfl hl.1 rfl (Nat.le_of_ble_eq_true rfl) dX1_settle_6 (fun H locs hM => ?_)
  refine W.eq (g2 := F0 m 9 ls [.int q1.1]) rfl ?_
  refine lv_istore_n (lv' := [(3, .int q1.1), (2, .int (bz (σ r1 8))), (0, .ref (B + k)), (1, .ref (B + r1))]) hx hb dX1_settle_9 rfl hl (by decide) rfl (fun ls hl => ?_)
  refine lv_iload_n hx hb dX1_settle_10 rfl (lv_at hl 0 rfl) ?_
  refine lv_aload_n hx hb dX1_settle_11 rfl (lv_at hl 2 rfl) ?_
  refine lv_iconst (v := 5) hx hb dX1_settle_12 (by decide) ?_
  obtain ⟨q2, eq2, h⟩ := bd_h h
  refine x_callV (As := [.int 5]) CX hM (kdl hk_k rfl) (ly1 hk_k _) rfl lk_X1_83 (c_X1_number l E B hk_k eq2) ⟨rfl, rfl, by decide, by decide⟩ rfl hl.1 rfl (Nat.le_of_ble_eq_true rfl) dX1_settle_13 (fun H locs hM => ?_)
  refine W.eq (g2 := F0 m 16 ls [.int q2.1, .int q1.1]) rfl ?_
  refine lv_icmp_le (tgt := 24) hx hb dX1_settle_16 (by decide) (fun c3 => ?_) (fun c3 => ?_)
  · replace h := it_h c3 h
    exact J24 _ _ _  _ _ _ hM (lv_sub hl [2, 3, 1, 0] rfl) h
  · replace h := if_h c3 h
    refine lv_aload_n hx hb dX1_settle_19 rfl (lv_at hl 3 rfl) ?_
    refine lv_iconst (v := 1) hx hb dX1_settle_20 (by decide) ?_
    refine p3_10 (y := 1) CX hM hk_r1 wf_X1_136 dX1_settle_21 (fun H locs σ20 eσ20 hM => ?_)
    replace h := nm_h eσ20 h
    exact J24 _ _ _  _ _ _ hM (lv_sub hl [2, 3, 1, 0] rfl) h
def rm_X1_passMinute : Jvm.Room := { frames := 5, cells := 0, slots := 0, locals := 108 }
set_option maxHeartbeats 4000000 in
set_option maxRecDepth 100000 in
theorem c_X1_passMinute (l : Launch) (E : xE) (B : Nat) {k : Nat} {σ : xM} {q : Int32 × xM} (hk_k : kd k = 1) (h : F_X1_passMinute k σ = some q) : Met l yX1_passMinute (Cond.code yX1_passMinute cX1_passMinute 4 (some .int) :: AL) rm_X1_passMinute (xP E B 160 (layX E B) [.ref (B + k)] σ) (xQ E B 160 (layX E B) (some (.int q.1)) q.2) 0 0 (wA B 160) := by
  refine x_met (plainFor_of_name (by decide +kernel)) (Nat.le_of_ble_eq_true rfl) rfl ?_
  intro p e s m below meth c ls CX hr hlk hM hl
  have hx := CX.1.1
  have hb := CX.1.2.1
  unfold F_X1_passMinute at h
  have L12 : ∀ (N : Nat) (v1 : Int32) (v2 : Int32) (σ : xM), ∀ (H : Heap) (locs : List Loc) (ls : Array Slot), xS E B 160 (layX E B) s σ H locs → lv_has ls 4 [(0, .ref (B + k)), (1, .int v1), (2, .int v2)] → F_X1_passMinute_L12 k N v1 v2 σ = some q → W p l e rm_X1_passMinute s m ([.ref (B + k)] : List Value).toArray below meth c H locs 0 0 (MQ below (xQ E B 160 (layX E B) (some (.int q.1)) q.2) ([.ref (B + k)] : List Value).toArray s 0 0 (wA B 160)) (F0 m 12 ls []) := by
    clear hM hl h
    intro N
    induction N with
    | zero =>
      intro v1 v2 σ  H locs ls hM hl h
      cases h
    | succ N ih =>
      intro v1 v2 σ  H locs ls hM hl h
      rw [F_X1_passMinute_L12] at h
      refine lv_iload_n hx hb dX1_passMinute_12 rfl (lv_at hl 2 rfl) ?_
      refine lv_aload_n hx hb dX1_passMinute_13 rfl (lv_at hl 0 rfl) ?_
      refine g1_4 CX hM hk_k wf_X1_45 dX1_passMinute_14 ?_
      refine lv_icmp_ge (tgt := 47) hx hb dX1_passMinute_17 (by decide) (fun c3 => ?_) (fun c3 => ?_)
      · replace h := it_h c3 h
        refine lv_aload_n hx hb dX1_passMinute_47 rfl (lv_at hl 0 rfl) ?_
        refine lv_dup hx hb dX1_passMinute_48 rfl ?_
        refine g1_5 CX hM hk_k wf_X1_49 dX1_passMinute_49 ?_
        refine lv_iconst (v := 1) hx hb dX1_passMinute_52 (by decide) ?_
        refine lv_iadd hx hb dX1_passMinute_53 ?_
        refine p1_5 (y := ((σ k 5) + 1)) CX hM hk_k wf_X1_49 dX1_passMinute_54 (fun H locs σ4 eσ4 hM => ?_)
        replace h := nm_h eσ4 h
        refine lv_iload_n hx hb dX1_passMinute_57 rfl (lv_at hl 1 rfl) ?_
        obtain rfl := Option.some.inj h
        exact x_iret CX hr hlk hM rfl dX1_passMinute_58
      · replace h := if_h c3 h
        refine lv_aload_n hx hb dX1_passMinute_20 rfl (lv_at hl 0 rfl) ?_
        refine lv_iload_n hx hb dX1_passMinute_21 rfl (lv_at hl 2 rfl) ?_
        obtain ⟨q5, eq5, h⟩ := bd_h h
        refine x_callV (As := [.int v2]) CX hM (kdl hk_k rfl) (ly1 hk_k _) rfl lk_X1_52 (c_X1_roomAt l E B hk_k eq5) ⟨rfl, rfl, by decide, by decide⟩ rfl hl.1 rfl (Nat.le_of_ble_eq_true rfl) dX1_passMinute_22 (fun H locs hM => ?_)
        rcases hq5 : q5.1 with _ | r6
        · rw [hq5] at h
          replace h := oc_n h
          refine W.eq (g2 := F0 m 25 ls [.null]) rfl ?_
          refine lv_astore_nN (lv' := [(3, .null), (0, .ref (B + k)), (1, .int v1), (2, .int v2)]) hx hb dX1_passMinute_25 rfl hl (by decide) rfl (fun ls hl => ?_)
          refine lv_aload_nN hx hb dX1_passMinute_26 rfl (lv_at hl 0 rfl) ?_
          refine lv_ifnullN (tgt := 41) hx hb dX1_passMinute_27 (by decide) ?_
          refine lv_iinc (v := (v2 + 1)) (lv' := [(2, .int (v2 + 1)), (3, .null), (0, .ref (B + k)), (1, .int v1)]) hx hb dX1_passMinute_41 hl (k := 3) rfl rfl (by decide) rfl (fun ls hl => ?_)
          refine lv_goto (tgt := 12) hx hb dX1_passMinute_44 (by decide) ?_
          exact ih _ _ _  _ _ _ hM (lv_sub hl [2, 3, 0] rfl) h
        · rw [hq5] at h
          replace h := oc_s h
          obtain ⟨hk_r6, h⟩ := ck_h h
          refine W.eq (g2 := F0 m 25 ls [.ref (B + r6)]) rfl ?_
          refine lv_astore_n (lv' := [(3, .ref (B + r6)), (0, .ref (B + k)), (1, .int v1), (2, .int v2)]) hx hb dX1_passMinute_25 rfl hl (by decide) rfl (fun ls hl => ?_)
          refine lv_aload_n hx hb dX1_passMinute_26 rfl (lv_at hl 0 rfl) ?_
          refine lv_ifnull hx hb dX1_passMinute_27 ?_
          refine lv_aload_n hx hb dX1_passMinute_30 rfl (lv_at hl 1 rfl) ?_
          refine lv_aload_n hx hb dX1_passMinute_31 rfl (lv_at hl 0 rfl) ?_
          obtain ⟨q7, eq7, h⟩ := bd_h h
          refine x_callV (As := [.ref (B + r6)]) CX hM (kdl hk_k rfl) (ly1 hk_k _) rfl lk_X1_113 (c_X1_settle l E B hk_k hk_r6 eq7) ⟨rfl, rfl, by decide, by decide⟩ rfl hl.1 rfl (Nat.le_of_ble_eq_true rfl) dX1_passMinute_32 (fun H locs hM => ?_)
          refine W.eq (g2 := F0 m 35 ls [.int (bz q7.1)]) rfl ?_
          refine lv_if_eq (tgt := 41) hx hb dX1_passMinute_35 (by decide) (fun c8 => ?_) (fun c8 => ?_)
          · replace h := it_h c8 h
            refine lv_iinc (v := (v2 + 1)) (lv' := [(2, .int (v2 + 1)), (3, .ref (B + r6)), (0, .ref (B + k)), (1, .int v1)]) hx hb dX1_passMinute_41 hl (k := 3) rfl rfl (by decide) rfl (fun ls hl => ?_)
            refine lv_goto (tgt := 12) hx hb dX1_passMinute_44 (by decide) ?_
            exact ih _ _ _  _ _ _ hM (lv_sub hl [2, 3, 0] rfl) h
          · replace h := if_h c8 h
            refine lv_iinc (v := (v1 + 1)) (lv' := [(1, .int (v1 + 1)), (3, .ref (B + r6)), (0, .ref (B + k)), (2, .int v2)]) hx hb dX1_passMinute_38 hl (k := 2) rfl rfl (by decide) rfl (fun ls hl => ?_)
            refine lv_iinc (v := (v2 + 1)) (lv' := [(2, .int (v2 + 1)), (1, .int (v1 + 1)), (3, .ref (B + r6)), (0, .ref (B + k))]) hx hb dX1_passMinute_41 hl (k := 3) rfl rfl (by decide) rfl (fun ls hl => ?_)
            refine lv_goto (tgt := 12) hx hb dX1_passMinute_44 (by decide) ?_
            exact ih _ _ _  _ _ _ hM (lv_sub hl [3, 1, 0] rfl) h
  refine lv_aload_n hx hb dX1_passMinute_0 rfl (lv_at hl 0 rfl) ?_
  obtain ⟨q1, eq1, h⟩ := bd_h h
  refine x_callV (As := []) CX hM (kdl hk_k rfl) (ly1 hk_k _) rfl lk_X1_107 (c_X1_heatRooms l E B hk_k eq1) ⟨rfl, rfl, by decide, by decide⟩ rfl hl.1 rfl (Nat.le_of_ble_eq_true rfl) dX1_passMinute_1 (fun H locs hM => ?_)
  refine W.eq (g2 := F0 m 4 ls []) rfl ?_
  refine lv_aload_n hx hb dX1_passMinute_4 rfl (lv_at hl 0 rfl) ?_
  obtain ⟨q2, eq2, h⟩ := bd_h h
  refine x_callV (As := []) CX hM (kdl hk_k rfl) (ly1 hk_k _) rfl lk_X1_110 (c_X1_exchangeHeat l E B hk_k eq2) ⟨rfl, rfl, by decide, by decide⟩ rfl hl.1 rfl (Nat.le_of_ble_eq_true rfl) dX1_passMinute_5 (fun H locs hM => ?_)
  refine W.eq (g2 := F0 m 8 ls []) rfl ?_
  refine lv_iconst (v := 0) hx hb dX1_passMinute_8 (by decide) ?_
  refine lv_istore_n (lv' := [(1, .int 0), (0, .ref (B + k))]) hx hb dX1_passMinute_9 rfl hl (by decide) rfl (fun ls hl => ?_)
  refine lv_iconst (v := 0) hx hb dX1_passMinute_10 (by decide) ?_
  refine lv_istore_n (lv' := [(2, .int 0), (1, .int 0), (0, .ref (B + k))]) hx hb dX1_passMinute_11 rfl hl (by decide) rfl (fun ls hl => ?_)
  exact L12 _ _ _ _  _ _ _ hM (lv_sub hl [2, 1, 0] rfl) h
def rm_X1_passMinutes : Jvm.Room := { frames := 6, cells := 0, slots := 0, locals := 131 }
set_option maxHeartbeats 4000000 in
set_option maxRecDepth 100000 in
theorem c_X1_passMinutes (l : Launch) (E : xE) (B : Nat) {k : Nat} {x1 : Int32} {σ : xM} {q : Int32 × xM} (hk_k : kd k = 1) (h : F_X1_passMinutes k x1 σ = some q) : Met l yX1_passMinutes (Cond.code yX1_passMinutes cX1_passMinutes 4 (some .int) :: AL) rm_X1_passMinutes (xP E B 160 (layX E B) [.ref (B + k), .int x1] σ) (xQ E B 160 (layX E B) (some (.int q.1)) q.2) 0 0 (wA B 160) := by
  refine x_met (plainFor_of_name (by decide +kernel)) (Nat.le_of_ble_eq_true rfl) rfl ?_
  intro p e s m below meth c ls CX hr hlk hM hl
  have hx := CX.1.1
  have hb := CX.1.2.1
  unfold F_X1_passMinutes at h
  have L4 : ∀ (N : Nat) (v1 : Int32) (v2 : Int32) (v3 : Int32) (σ : xM), ∀ (H : Heap) (locs : List Loc) (ls : Array Slot), xS E B 160 (layX E B) s σ H locs → lv_has ls 4 [(0, .ref (B + k)), (1, .int v1), (2, .int v2), (3, .int v3)] → F_X1_passMinutes_L4 k N v1 v2 v3 σ = some q → W p l e rm_X1_passMinutes s m ([.ref (B + k), .int x1] : List Value).toArray below meth c H locs 0 0 (MQ below (xQ E B 160 (layX E B) (some (.int q.1)) q.2) ([.ref (B + k), .int x1] : List Value).toArray s 0 0 (wA B 160)) (F0 m 4 ls []) := by
    clear hM hl h
    intro N
    induction N with
    | zero =>
      intro v1 v2 v3 σ  H locs ls hM hl h
      cases h
    | succ N ih =>
      intro v1 v2 v3 σ  H locs ls hM hl h
      rw [F_X1_passMinutes_L4] at h
      refine lv_iload_n hx hb dX1_passMinutes_4 rfl (lv_at hl 3 rfl) ?_
      refine lv_iload_n hx hb dX1_passMinutes_5 rfl (lv_at hl 1 rfl) ?_
      refine lv_icmp_ge (tgt := 22) hx hb dX1_passMinutes_6 (by decide) (fun c1 => ?_) (fun c1 => ?_)
      · replace h := it_h c1 h
        refine lv_iload_n hx hb dX1_passMinutes_22 rfl (lv_at hl 2 rfl) ?_
        obtain rfl := Option.some.inj h
        exact x_iret CX hr hlk hM rfl dX1_passMinutes_23
      · replace h := if_h c1 h
        refine lv_iload_n hx hb dX1_passMinutes_9 rfl (lv_at hl 2 rfl) ?_
        refine lv_aload_n hx hb dX1_passMinutes_10 rfl (lv_at hl 0 rfl) ?_
        obtain ⟨q2, eq2, h⟩ := bd_h h
        refine x_callV (As := []) CX hM (kdl hk_k rfl) (ly1 hk_k _) rfl lk_X1_103 (c_X1_passMinute l E B hk_k eq2) ⟨rfl, rfl, by decide, by decide⟩ rfl hl.1 rfl (Nat.le_of_ble_eq_true rfl) dX1_passMinutes_11 (fun H locs hM => ?_)
        refine W.eq (g2 := F0 m 14 ls [.int q2.1, .int v2]) rfl ?_
        refine lv_iadd hx hb dX1_passMinutes_14 ?_
        refine lv_topi (fun x2_3 ex2_3 => ?_)
        replace h := nm_h ex2_3 h
        refine lv_istore_n (lv' := [(2, .int x2_3), (0, .ref (B + k)), (1, .int v1), (3, .int v3)]) hx hb dX1_passMinutes_15 rfl hl (by decide) rfl (fun ls hl => ?_)
        refine lv_iinc (v := (v3 + 1)) (lv' := [(3, .int (v3 + 1)), (2, .int x2_3), (0, .ref (B + k)), (1, .int v1)]) hx hb dX1_passMinutes_16 hl (k := 3) rfl rfl (by decide) rfl (fun ls hl => ?_)
        refine lv_goto (tgt := 4) hx hb dX1_passMinutes_19 (by decide) ?_
        exact ih _ _ _ _  _ _ _ hM (lv_sub hl [2, 3, 1, 0] rfl) h
  refine lv_iconst (v := 0) hx hb dX1_passMinutes_0 (by decide) ?_
  refine lv_istore_n (lv' := [(2, .int 0), (0, .ref (B + k)), (1, .int x1)]) hx hb dX1_passMinutes_1 rfl hl (by decide) rfl (fun ls hl => ?_)
  refine lv_iconst (v := 0) hx hb dX1_passMinutes_2 (by decide) ?_
  refine lv_istore_n (lv' := [(3, .int 0), (2, .int 0), (0, .ref (B + k)), (1, .int x1)]) hx hb dX1_passMinutes_3 rfl hl (by decide) rfl (fun ls hl => ?_)
  exact L4 _ _ _ _ _  _ _ _ hM (lv_sub hl [2, 3, 1, 0] rfl) h
def rm_X2_stateAt : Jvm.Room := { frames := 0, cells := 0, slots := 0, locals := 0 }
set_option maxHeartbeats 4000000 in
set_option maxRecDepth 100000 in
theorem c_X2_stateAt (l : Launch) (E : xE) (B : Nat) {k : Nat} {x1 : Int32} {σ : xM} {q : Option Nat × xM} (hk_k : kd k = 2) (h : F_X2_stateAt k x1 σ = some q) : Met l yX2_stateAt (Cond.code yX2_stateAt cX2_stateAt 2 (some (.object "ThermostatColony$Colony")) :: AL) rm_X2_stateAt (xP E B 160 (layX E B) [.ref (B + k), .int x1] σ) (xQ E B 160 (layX E B) (some (va_rf (q.1.map (fun k => B + k)))) q.2) 0 0 (wA B 160) := by
  refine x_met (plainFor_of_name (by decide +kernel)) (Nat.le_of_ble_eq_true rfl) rfl ?_
  intro p e s m below meth c ls CX hr hlk hM hl
  have hx := CX.1.1
  have hb := CX.1.2.1
  unfold F_X2_stateAt at h
  refine lv_iload_n hx hb dX2_stateAt_0 rfl (lv_at hl 1 rfl) ?_
  refine lv_if_lt (tgt := 22) hx hb dX2_stateAt_1 (by decide) (fun c1 => ?_) (fun c1 => ?_)
  · replace h := it_h c1 h
    refine lv_null hx hb dX2_stateAt_22 ?_
    obtain rfl := Option.some.inj h
    exact x_aret CX hr hlk hM (Or.inl rfl) rfl dX2_stateAt_23
  · replace h := if_h c1 h
    refine lv_iload_n hx hb dX2_stateAt_4 rfl (lv_at hl 1 rfl) ?_
    refine lv_aload_n hx hb dX2_stateAt_5 rfl (lv_at hl 0 rfl) ?_
    refine g2_0 CX hM hk_k wf_X2_11 dX2_stateAt_6 ?_
    refine x_alen (v := 6) CX hM 3 (kdl (kd2_f hk_k) rfl) (ly14 (kd2_f hk_k) _) rfl rfl dX2_stateAt_9 ?_
    refine lv_icmp_ge (tgt := 22) hx hb dX2_stateAt_10 (by decide) (fun c2 => ?_) (fun c2 => ?_)
    · replace h := it_h c2 h
      refine lv_null hx hb dX2_stateAt_22 ?_
      obtain rfl := Option.some.inj h
      exact x_aret CX hr hlk hM (Or.inl rfl) rfl dX2_stateAt_23
    · replace h := if_h c2 h
      refine lv_aload_n hx hb dX2_stateAt_13 rfl (lv_at hl 0 rfl) ?_
      refine g2_0 CX hM hk_k wf_X2_11 dX2_stateAt_14 ?_
      refine lv_iload_n hx hb dX2_stateAt_17 rfl (lv_at hl 1 rfl) ?_
      obtain ⟨g3, h⟩ := ck_h h
      refine x_aald CX hM 3 (kdl (kd2_f hk_k) rfl) (ly14 (kd2_f hk_k) _) rfl g3 rfl dX2_stateAt_18 ?_
      refine lv_goto (tgt := 23) hx hb dX2_stateAt_19 (by decide) ?_
      obtain rfl := Option.some.inj h
      exact x_aret CX hr hlk hM (Or.inr ⟨_, rfl⟩) rfl dX2_stateAt_23
def rm_J9_min_7cf53 : Jvm.Room := { frames := 0, cells := 0, slots := 0, locals := 0 }
set_option maxHeartbeats 4000000 in
set_option maxRecDepth 100000 in
theorem c_J9_min_7cf53 (l : Launch) (E : xE) (B : Nat) {x0 : Int32} {x1 : Int32} {σ : xM} {q : Int32 × xM}  (h : F_J9_min_7cf53 x0 x1 σ = some q) : Met l yJ9_min_7cf53 (Cond.code yJ9_min_7cf53 cJ9_min_7cf53 2 (some .int) :: AL) rm_J9_min_7cf53 (xP E B 160 (layX E B) [.int x0, .int x1] σ) (xQ E B 160 (layX E B) (some (.int q.1)) q.2) 0 0 (wA B 160) := by
  refine x_met (by decide +kernel) (Nat.le_of_ble_eq_true rfl) rfl ?_
  intro p e s m below meth c ls CX hr hlk hM hl
  have hx := CX.1.1
  have hb := CX.1.2.1
  unfold F_J9_min_7cf53 at h
  refine lv_iload_n hx hb dJ9_min_7cf53_0 rfl (lv_at hl 0 rfl) ?_
  refine lv_iload_n hx hb dJ9_min_7cf53_1 rfl (lv_at hl 1 rfl) ?_
  refine lv_icmp_gt (tgt := 9) hx hb dJ9_min_7cf53_2 (by decide) (fun c1 => ?_) (fun c1 => ?_)
  · replace h := it_h c1 h
    refine lv_iload_n hx hb dJ9_min_7cf53_9 rfl (lv_at hl 1 rfl) ?_
    obtain rfl := Option.some.inj h
    exact x_iret CX hr hlk hM rfl dJ9_min_7cf53_10
  · replace h := if_h c1 h
    refine lv_iload_n hx hb dJ9_min_7cf53_5 rfl (lv_at hl 0 rfl) ?_
    refine lv_goto (tgt := 10) hx hb dJ9_min_7cf53_6 (by decide) ?_
    obtain rfl := Option.some.inj h
    exact x_iret CX hr hlk hM rfl dJ9_min_7cf53_10
def rm_X2_save : Jvm.Room := { frames := 3, cells := 0, slots := 0, locals := 71 }
set_option maxHeartbeats 4000000 in
set_option maxRecDepth 100000 in
theorem c_X2_save (l : Launch) (E : xE) (B : Nat) {k : Nat} {r1 : Nat} {σ : xM} {q : Unit × xM} (hk_k : kd k = 2) (hk_r1 : kd r1 = 1) (h : F_X2_save k r1 σ = some q) : Met l yX2_save (Cond.code yX2_save cX2_save 3 none :: AL) rm_X2_save (xP E B 160 (layX E B) [.ref (B + k), .ref (B + r1)] σ) (xQ E B 160 (layX E B) none q.2) 0 0 (wA B 160) := by
  refine x_met (plainFor_of_name (by decide +kernel)) (Nat.le_of_ble_eq_true rfl) rfl ?_
  intro p e s m below meth c ls CX hr hlk hM hl
  have hx := CX.1.1
  have hb := CX.1.2.1
  unfold F_X2_save at h
  refine lv_aload_n hx hb dX2_save_0 rfl (lv_at hl 0 rfl) ?_
  refine lv_aload_n hx hb dX2_save_1 rfl (lv_at hl 0 rfl) ?_
  refine g2_1 CX hM hk_k wf_X2_18 dX2_save_2 ?_
  obtain ⟨q1, eq1, h⟩ := bd_h h
  refine x_callV (As := [.int (σ k 1)]) CX hM (kdl hk_k rfl) (ly2 hk_k _) rfl lk_X2_22 (c_X2_stateAt l E B hk_k eq1) ⟨rfl, rfl, by decide, by decide⟩ rfl hl.1 rfl (Nat.le_of_ble_eq_true rfl) dX2_save_5 (fun H locs hM => ?_)
  rcases hq1 : q1.1 with _ | r2
  · rw [hq1] at h
    replace h := oc_n h
    refine W.eq (g2 := F0 m 8 ls [.null]) rfl ?_
    refine lv_astore_nN (lv' := [(2, .null), (0, .ref (B + k)), (1, .ref (B + r1))]) hx hb dX2_save_8 rfl hl (by decide) rfl (fun ls hl => ?_)
    refine lv_aload_nN hx hb dX2_save_9 rfl (lv_at hl 0 rfl) ?_
    refine lv_ifnullN (tgt := 46) hx hb dX2_save_10 (by decide) ?_
    obtain rfl := Option.some.inj h
    exact x_vret CX hr hlk hM rfl dX2_save_46
  · rw [hq1] at h
    replace h := oc_s h
    obtain ⟨hk_r2, h⟩ := ck_h h
    refine W.eq (g2 := F0 m 8 ls [.ref (B + r2)]) rfl ?_
    refine lv_astore_n (lv' := [(2, .ref (B + r2)), (0, .ref (B + k)), (1, .ref (B + r1))]) hx hb dX2_save_8 rfl hl (by decide) rfl (fun ls hl => ?_)
    refine lv_aload_n hx hb dX2_save_9 rfl (lv_at hl 0 rfl) ?_
    refine lv_ifnull hx hb dX2_save_10 ?_
    refine lv_aload_n hx hb dX2_save_13 rfl (lv_at hl 0 rfl) ?_
    refine lv_aload_n hx hb dX2_save_14 rfl (lv_at hl 2 rfl) ?_
    obtain ⟨q3, eq3, h⟩ := bd_h h
    refine x_callV (As := [.ref (B + r1)]) CX hM (kdl hk_r2 rfl) (ly1 hk_r2 _) rfl lk_X2_26 (c_X1_copyFrom l E B hk_r2 hk_r1 eq3) ⟨rfl, rfl, by decide, by decide⟩ rfl hl.1 rfl (Nat.le_of_ble_eq_true rfl) dX2_save_15 (fun H locs hM => ?_)
    refine W.eq (g2 := F0 m 18 ls []) rfl ?_
    refine lv_aload_n hx hb dX2_save_18 rfl (lv_at hl 1 rfl) ?_
    refine lv_aload_n hx hb dX2_save_19 rfl (lv_at hl 1 rfl) ?_
    refine g2_1 CX hM hk_k wf_X2_18 dX2_save_20 ?_
    refine lv_iconst (v := 1) hx hb dX2_save_23 (by decide) ?_
    refine lv_iadd hx hb dX2_save_24 ?_
    refine lv_bipush (v := 6) hx hb dX2_save_25 (by decide) ?_
    refine lv_irem hx hb dX2_save_27 (by decide) ?_
    refine p2_1 (y := (((q3.2 k 1) + 1) - ((q3.2 k 1) + 1) / 6 * 6)) CX hM hk_k wf_X2_18 dX2_save_28 (fun H locs σ4 eσ4 hM => ?_)
    replace h := nm_h eσ4 h
    refine lv_aload_n hx hb dX2_save_31 rfl (lv_at hl 1 rfl) ?_
    refine lv_aload_n hx hb dX2_save_32 rfl (lv_at hl 1 rfl) ?_
    refine g2_2 CX hM hk_k wf_X2_30 dX2_save_33 ?_
    refine lv_iconst (v := 1) hx hb dX2_save_36 (by decide) ?_
    refine lv_iadd hx hb dX2_save_37 ?_
    refine lv_bipush (v := 6) hx hb dX2_save_38 (by decide) ?_
    obtain ⟨q5, eq5, h⟩ := bd_h h
    refine x_callS (As := [.int ((σ4 k 2) + 1), .int 6]) CX hM lk_X2_33 (c_J9_min_7cf53 l E B  eq5) ⟨rfl, rfl, by decide, by decide⟩ rfl hl.1 rfl (Nat.le_of_ble_eq_true rfl) dX2_save_40 (fun H locs hM => ?_)
    refine W.eq (g2 := F0 m 43 ls [.int q5.1, .ref (B + k)]) rfl ?_
    refine p2_2 (y := q5.1) CX hM hk_k wf_X2_30 dX2_save_43 (fun H locs σ6 eσ6 hM => ?_)
    replace h := nm_h eσ6 h
    obtain rfl := Option.some.inj h
    exact x_vret CX hr hlk hM rfl dX2_save_46
end
section
def rm_X2_restore : Jvm.Room := { frames := 3, cells := 0, slots := 0, locals := 71 }
set_option maxHeartbeats 4000000 in
set_option maxRecDepth 100000 in
theorem c_X2_restore (l : Launch) (E : xE) (B : Nat) {k : Nat} {r1 : Nat} {σ : xM} {q : Unit × xM} (hk_k : kd k = 2) (hk_r1 : kd r1 = 1) (h : F_X2_restore k r1 σ = some q) : Met l yX2_restore (Cond.code yX2_restore cX2_restore 4 none :: AL) rm_X2_restore (xP E B 160 (layX E B) [.ref (B + k), .ref (B + r1)] σ) (xQ E B 160 (layX E B) none q.2) 0 0 (wA B 160) := by
  refine x_met (plainFor_of_name (by decide +kernel)) (Nat.le_of_ble_eq_true rfl) rfl ?_
  intro p e s m below meth c ls CX hr hlk hM hl
  have hx := CX.1.1
  have hb := CX.1.2.1
  unfold F_X2_restore at h
  refine lv_aload_n hx hb dX2_restore_0 rfl (lv_at hl 0 rfl) ?_
  refine g2_1 CX hM hk_k wf_X2_18 dX2_restore_1 ?_
  refine lv_bipush (v := 6) hx hb dX2_restore_4 (by decide) ?_
  refine lv_iadd hx hb dX2_restore_6 ?_
  refine lv_iconst (v := 1) hx hb dX2_restore_7 (by decide) ?_
  refine lv_isub hx hb dX2_restore_8 ?_
  refine lv_bipush (v := 6) hx hb dX2_restore_9 (by decide) ?_
  refine lv_irem hx hb dX2_restore_11 (by decide) ?_
  refine lv_topi (fun x2_1 ex2_1 => ?_)
  replace h := nm_h ex2_1 h
  refine lv_istore_n (lv' := [(2, .int x2_1), (0, .ref (B + k)), (1, .ref (B + r1))]) hx hb dX2_restore_12 rfl hl (by decide) rfl (fun ls hl => ?_)
  refine lv_aload_n hx hb dX2_restore_13 rfl (lv_at hl 1 rfl) ?_
  refine lv_iload_n hx hb dX2_restore_14 rfl (lv_at hl 0 rfl) ?_
  obtain ⟨q2, eq2, h⟩ := bd_h h
  refine x_callV (As := [.int x2_1]) CX hM (kdl hk_k rfl) (ly2 hk_k _) rfl lk_X2_22 (c_X2_stateAt l E B hk_k eq2) ⟨rfl, rfl, by decide, by decide⟩ rfl hl.1 rfl (Nat.le_of_ble_eq_true rfl) dX2_restore_15 (fun H locs hM => ?_)
  rcases hq2 : q2.1 with _ | r3
  · rw [hq2] at h
    replace h := oc_n h
    refine W.eq (g2 := F0 m 18 ls [.null]) rfl ?_
    refine lv_astore_nN (lv' := [(3, .null), (2, .int x2_1), (0, .ref (B + k)), (1, .ref (B + r1))]) hx hb dX2_restore_18 rfl hl (by decide) rfl (fun ls hl => ?_)
    refine lv_aload_nN hx hb dX2_restore_19 rfl (lv_at hl 0 rfl) ?_
    refine lv_ifnullN (tgt := 50) hx hb dX2_restore_20 (by decide) ?_
    obtain rfl := Option.some.inj h
    exact x_vret CX hr hlk hM rfl dX2_restore_50
  · rw [hq2] at h
    replace h := oc_s h
    obtain ⟨hk_r3, h⟩ := ck_h h
    refine W.eq (g2 := F0 m 18 ls [.ref (B + r3)]) rfl ?_
    refine lv_astore_n (lv' := [(3, .ref (B + r3)), (2, .int x2_1), (0, .ref (B + k)), (1, .ref (B + r1))]) hx hb dX2_restore_18 rfl hl (by decide) rfl (fun ls hl => ?_)
    refine lv_aload_n hx hb dX2_restore_19 rfl (lv_at hl 0 rfl) ?_
    refine lv_ifnull hx hb dX2_restore_20 ?_
    refine lv_aload_n hx hb dX2_restore_23 rfl (lv_at hl 2 rfl) ?_
    refine g2_2 CX hM hk_k wf_X2_30 dX2_restore_24 ?_
    refine lv_if_le (tgt := 50) hx hb dX2_restore_27 (by decide) (fun c4 => ?_) (fun c4 => ?_)
    · replace h := it_h c4 h
      obtain rfl := Option.some.inj h
      exact x_vret CX hr hlk hM rfl dX2_restore_50
    · replace h := if_h c4 h
      refine lv_aload_n hx hb dX2_restore_30 rfl (lv_at hl 3 rfl) ?_
      refine lv_aload_n hx hb dX2_restore_31 rfl (lv_at hl 0 rfl) ?_
      obtain ⟨q5, eq5, h⟩ := bd_h h
      refine x_callV (As := [.ref (B + r3)]) CX hM (kdl hk_r1 rfl) (ly1 hk_r1 _) rfl lk_X2_26 (c_X1_copyFrom l E B hk_r1 hk_r3 eq5) ⟨rfl, rfl, by decide, by decide⟩ rfl hl.1 rfl (Nat.le_of_ble_eq_true rfl) dX2_restore_32 (fun H locs hM => ?_)
      refine W.eq (g2 := F0 m 35 ls []) rfl ?_
      refine lv_aload_n hx hb dX2_restore_35 rfl (lv_at hl 2 rfl) ?_
      refine lv_iload_n hx hb dX2_restore_36 rfl (lv_at hl 1 rfl) ?_
      refine p2_1 (y := x2_1) CX hM hk_k wf_X2_18 dX2_restore_37 (fun H locs σ6 eσ6 hM => ?_)
      replace h := nm_h eσ6 h
      refine lv_aload_n hx hb dX2_restore_40 rfl (lv_at hl 2 rfl) ?_
      refine lv_dup hx hb dX2_restore_41 rfl ?_
      refine g2_2 CX hM hk_k wf_X2_30 dX2_restore_42 ?_
      refine lv_iconst (v := 1) hx hb dX2_restore_45 (by decide) ?_
      refine lv_isub hx hb dX2_restore_46 ?_
      refine p2_2 (y := ((σ6 k 2) - 1)) CX hM hk_k wf_X2_30 dX2_restore_47 (fun H locs σ7 eσ7 hM => ?_)
      replace h := nm_h eσ7 h
      obtain rfl := Option.some.inj h
      exact x_vret CX hr hlk hM rfl dX2_restore_50
def rm_X3_bringIn : Jvm.Room := { frames := 0, cells := 0, slots := 0, locals := 0 }
set_option maxHeartbeats 4000000 in
set_option maxRecDepth 100000 in
theorem c_X3_bringIn (l : Launch) (E : xE) (B : Nat) {k : Nat} {x1 : Int32} {σ : xM} {q : Unit × xM} (hk_k : kd k = 3) (h : F_X3_bringIn k x1 σ = some q) : Met l yX3_bringIn (Cond.code yX3_bringIn cX3_bringIn 2 none :: AL) rm_X3_bringIn (xP E B 160 (layX E B) [.ref (B + k), .int x1] σ) (xQ E B 160 (layX E B) none q.2) 0 0 (wA B 160) := by
  refine x_met (plainFor_of_name (by decide +kernel)) (Nat.le_of_ble_eq_true rfl) rfl ?_
  intro p e s m below meth c ls CX hr hlk hM hl
  have hx := CX.1.1
  have hb := CX.1.2.1
  unfold F_X3_bringIn at h
  refine lv_aload_n hx hb dX3_bringIn_0 rfl (lv_at hl 0 rfl) ?_
  refine lv_dup hx hb dX3_bringIn_1 rfl ?_
  refine g3_4 CX hM hk_k wf_X3_28 dX3_bringIn_2 ?_
  refine lv_iload_n hx hb dX3_bringIn_5 rfl (lv_at hl 1 rfl) ?_
  refine lv_iadd hx hb dX3_bringIn_6 ?_
  refine p3_4 (y := ((σ k 4) + x1)) CX hM hk_k wf_X3_28 dX3_bringIn_7 (fun H locs σ1 eσ1 hM => ?_)
  replace h := nm_h eσ1 h
  refine lv_aload_n hx hb dX3_bringIn_10 rfl (lv_at hl 0 rfl) ?_
  refine g3_0 CX hM hk_k wf_X3_12 dX3_bringIn_11 ?_
  refine lv_dup hx hb dX3_bringIn_14 rfl ?_
  refine g0_4 CX hM (kd3_f hk_k) wf_X3_94 dX3_bringIn_15 ?_
  refine lv_iload_n hx hb dX3_bringIn_18 rfl (lv_at hl 1 rfl) ?_
  refine lv_iadd hx hb dX3_bringIn_19 ?_
  refine p0_4 (y := ((σ1 (k + 1) 4) + x1)) CX hM (kd3_f hk_k) wf_X3_94 dX3_bringIn_20 (fun H locs σ2 eσ2 hM => ?_)
  replace h := nm_h eσ2 h
  obtain rfl := Option.some.inj h
  exact x_vret CX hr hlk hM rfl dX3_bringIn_23
def rm_X3_renewContact : Jvm.Room := { frames := 0, cells := 0, slots := 0, locals := 0 }
set_option maxHeartbeats 4000000 in
set_option maxRecDepth 100000 in
theorem c_X3_renewContact (l : Launch) (E : xE) (B : Nat) {k : Nat} {σ : xM} {q : Unit × xM} (hk_k : kd k = 3) (h : F_X3_renewContact k σ = some q) : Met l yX3_renewContact (Cond.code yX3_renewContact cX3_renewContact 1 none :: AL) rm_X3_renewContact (xP E B 160 (layX E B) [.ref (B + k)] σ) (xQ E B 160 (layX E B) none q.2) 0 0 (wA B 160) := by
  refine x_met (plainFor_of_name (by decide +kernel)) (Nat.le_of_ble_eq_true rfl) rfl ?_
  intro p e s m below meth c ls CX hr hlk hM hl
  have hx := CX.1.1
  have hb := CX.1.2.1
  unfold F_X3_renewContact at h
  refine lv_aload_n hx hb dX3_renewContact_0 rfl (lv_at hl 0 rfl) ?_
  refine lv_iconst (v := 0) hx hb dX3_renewContact_1 (by decide) ?_
  refine p3_11 (y := 0) CX hM hk_k wf_X3_54 dX3_renewContact_2 (fun H locs σ1 eσ1 hM => ?_)
  replace h := nm_h eσ1 h
  refine lv_aload_n hx hb dX3_renewContact_5 rfl (lv_at hl 0 rfl) ?_
  refine lv_iconst (v := 0) hx hb dX3_renewContact_6 (by decide) ?_
  refine p3_12 (y := 0) CX hM hk_k wf_X3_57 dX3_renewContact_7 (fun H locs σ2 eσ2 hM => ?_)
  replace h := nm_h eσ2 h
  refine lv_aload_n hx hb dX3_renewContact_10 rfl (lv_at hl 0 rfl) ?_
  refine lv_iconst (v := 0) hx hb dX3_renewContact_11 (by decide) ?_
  refine p3_9 (y := 0) CX hM hk_k wf_X3_48 dX3_renewContact_12 (fun H locs σ3 eσ3 hM => ?_)
  replace h := nm_h eσ3 h
  refine lv_aload_n hx hb dX3_renewContact_15 rfl (lv_at hl 0 rfl) ?_
  refine lv_iconst (v := 0) hx hb dX3_renewContact_16 (by decide) ?_
  refine p3_8 (y := 0) CX hM hk_k wf_X3_44 dX3_renewContact_17 (fun H locs σ4 eσ4 hM => ?_)
  replace h := nm_h eσ4 h
  obtain rfl := Option.some.inj h
  exact x_vret CX hr hlk hM rfl dX3_renewContact_20
def rm_X3_property : Jvm.Room := { frames := 3, cells := 0, slots := 0, locals := 63 }
set_option maxHeartbeats 4000000 in
set_option maxRecDepth 100000 in
theorem c_X3_property (l : Launch) (E : xE) (B : Nat) {k : Nat} {x1 : Int32} {σ : xM} {q : Int32 × xM} (hk_k : kd k = 3) (h : F_X3_property k x1 σ = some q) : Met l yX3_property (Cond.code yX3_property cX3_property 2 (some .int) :: AL) rm_X3_property (xP E B 160 (layX E B) [.ref (B + k), .int x1] σ) (xQ E B 160 (layX E B) (some (.int q.1)) q.2) 0 0 (wA B 160) := by
  refine x_met (plainFor_of_name (by decide +kernel)) (Nat.le_of_ble_eq_true rfl) rfl ?_
  intro p e s m below meth c ls CX hr hlk hM hl
  have hx := CX.1.1
  have hb := CX.1.2.1
  unfold F_X3_property at h
  refine lv_iload_n hx hb dX3_property_0 rfl (lv_at hl 1 rfl) ?_
  by_cases c1 : x1 = 0
  · replace h := it_h c1 h
    refine lv_tableIn (off := 71) (tgt := 72) hx hb dX3_property_1 (by rw [c1]; decide) (by rw [c1]; decide) (by rw [c1]; decide) (by decide) ?_
    refine lv_aload_n hx hb dX3_property_72 rfl (lv_at hl 0 rfl) ?_
    obtain ⟨q2, eq2, h⟩ := bd_h h
    refine x_callV (As := []) CX hM (kdl hk_k rfl) (ly3 hk_k _) rfl lk_X3_37 (c_X3_temperature l E B hk_k eq2) ⟨rfl, rfl, by decide, by decide⟩ rfl hl.1 rfl (Nat.le_of_ble_eq_true rfl) dX3_property_73 (fun H locs hM => ?_)
    refine W.eq (g2 := F0 m 76 ls [.int q2.1]) rfl ?_
    obtain rfl := Option.some.inj h
    exact x_iret CX hr hlk hM rfl dX3_property_76
  · replace h := if_h c1 h
    by_cases c3 : x1 = 1
    · replace h := it_h c3 h
      refine lv_tableIn (off := 76) (tgt := 77) hx hb dX3_property_1 (by rw [c3]; decide) (by rw [c3]; decide) (by rw [c3]; decide) (by decide) ?_
      refine lv_aload_n hx hb dX3_property_77 rfl (lv_at hl 0 rfl) ?_
      refine g3_4 CX hM hk_k wf_X3_28 dX3_property_78 ?_
      obtain rfl := Option.some.inj h
      exact x_iret CX hr hlk hM rfl dX3_property_81
    · replace h := if_h c3 h
      by_cases c4 : x1 = 2
      · replace h := it_h c4 h
        refine lv_tableIn (off := 81) (tgt := 82) hx hb dX3_property_1 (by rw [c4]; decide) (by rw [c4]; decide) (by rw [c4]; decide) (by decide) ?_
        refine lv_aload_n hx hb dX3_property_82 rfl (lv_at hl 0 rfl) ?_
        refine g3_7 CX hM hk_k wf_X3_41 dX3_property_83 ?_
        obtain rfl := Option.some.inj h
        exact x_iret CX hr hlk hM rfl dX3_property_86
      · replace h := if_h c4 h
        by_cases c5 : x1 = 3
        · replace h := it_h c5 h
          refine lv_tableIn (off := 86) (tgt := 87) hx hb dX3_property_1 (by rw [c5]; decide) (by rw [c5]; decide) (by rw [c5]; decide) (by decide) ?_
          refine lv_aload_n hx hb dX3_property_87 rfl (lv_at hl 0 rfl) ?_
          refine g3_8 CX hM hk_k wf_X3_44 dX3_property_88 ?_
          refine lv_if_eq (tgt := 98) hx hb dX3_property_91 (by decide) (fun c6 => ?_) (fun c6 => ?_)
          · replace h := it_h c6 h
            refine lv_iconst (v := 0) hx hb dX3_property_98 (by decide) ?_
            obtain rfl := Option.some.inj h
            exact x_iret CX hr hlk hM rfl dX3_property_99
          · replace h := if_h c6 h
            refine lv_iconst (v := 1) hx hb dX3_property_94 (by decide) ?_
            refine lv_goto (tgt := 99) hx hb dX3_property_95 (by decide) ?_
            obtain rfl := Option.some.inj h
            exact x_iret CX hr hlk hM rfl dX3_property_99
        · replace h := if_h c5 h
          by_cases c7 : x1 = 4
          · replace h := it_h c7 h
            refine lv_tableIn (off := 99) (tgt := 100) hx hb dX3_property_1 (by rw [c7]; decide) (by rw [c7]; decide) (by rw [c7]; decide) (by decide) ?_
            refine lv_aload_n hx hb dX3_property_100 rfl (lv_at hl 0 rfl) ?_
            refine g3_9 CX hM hk_k wf_X3_48 dX3_property_101 ?_
            refine lv_if_eq (tgt := 111) hx hb dX3_property_104 (by decide) (fun c8 => ?_) (fun c8 => ?_)
            · replace h := it_h c8 h
              refine lv_iconst (v := 0) hx hb dX3_property_111 (by decide) ?_
              obtain rfl := Option.some.inj h
              exact x_iret CX hr hlk hM rfl dX3_property_112
            · replace h := if_h c8 h
              refine lv_iconst (v := 1) hx hb dX3_property_107 (by decide) ?_
              refine lv_goto (tgt := 112) hx hb dX3_property_108 (by decide) ?_
              obtain rfl := Option.some.inj h
              exact x_iret CX hr hlk hM rfl dX3_property_112
          · replace h := if_h c7 h
            by_cases c9 : x1 = 5
            · replace h := it_h c9 h
              refine lv_tableIn (off := 112) (tgt := 113) hx hb dX3_property_1 (by rw [c9]; decide) (by rw [c9]; decide) (by rw [c9]; decide) (by decide) ?_
              refine lv_aload_n hx hb dX3_property_113 rfl (lv_at hl 0 rfl) ?_
              refine g3_11 CX hM hk_k wf_X3_54 dX3_property_114 ?_
              obtain rfl := Option.some.inj h
              exact x_iret CX hr hlk hM rfl dX3_property_117
            · replace h := if_h c9 h
              by_cases c10 : x1 = 6
              · replace h := it_h c10 h
                refine lv_tableIn (off := 117) (tgt := 118) hx hb dX3_property_1 (by rw [c10]; decide) (by rw [c10]; decide) (by rw [c10]; decide) (by decide) ?_
                refine lv_aload_n hx hb dX3_property_118 rfl (lv_at hl 0 rfl) ?_
                refine g3_12 CX hM hk_k wf_X3_57 dX3_property_119 ?_
                obtain rfl := Option.some.inj h
                exact x_iret CX hr hlk hM rfl dX3_property_122
              · replace h := if_h c10 h
                by_cases c11 : x1 = 7
                · replace h := it_h c11 h
                  refine lv_tableIn (off := 122) (tgt := 123) hx hb dX3_property_1 (by rw [c11]; decide) (by rw [c11]; decide) (by rw [c11]; decide) (by decide) ?_
                  refine lv_aload_n hx hb dX3_property_123 rfl (lv_at hl 0 rfl) ?_
                  refine g3_13 CX hM hk_k wf_X3_60 dX3_property_124 ?_
                  obtain rfl := Option.some.inj h
                  exact x_iret CX hr hlk hM rfl dX3_property_127
                · replace h := if_h c11 h
                  by_cases c12 : x1 = 8
                  · replace h := it_h c12 h
                    refine lv_tableIn (off := 127) (tgt := 128) hx hb dX3_property_1 (by rw [c12]; decide) (by rw [c12]; decide) (by rw [c12]; decide) (by decide) ?_
                    refine lv_aload_n hx hb dX3_property_128 rfl (lv_at hl 0 rfl) ?_
                    refine g3_15 CX hM hk_k wf_X3_67 dX3_property_129 ?_
                    obtain rfl := Option.some.inj h
                    exact x_iret CX hr hlk hM rfl dX3_property_132
                  · replace h := if_h c12 h
                    by_cases c13 : x1 = 9
                    · replace h := it_h c13 h
                      refine lv_tableIn (off := 132) (tgt := 133) hx hb dX3_property_1 (by rw [c13]; decide) (by rw [c13]; decide) (by rw [c13]; decide) (by decide) ?_
                      refine lv_aload_n hx hb dX3_property_133 rfl (lv_at hl 0 rfl) ?_
                      refine g3_16 CX hM hk_k wf_X3_70 dX3_property_134 ?_
                      obtain rfl := Option.some.inj h
                      exact x_iret CX hr hlk hM rfl dX3_property_137
                    · replace h := if_h c13 h
                      by_cases c14 : x1 = 10
                      · replace h := it_h c14 h
                        refine lv_tableIn (off := 137) (tgt := 138) hx hb dX3_property_1 (by rw [c14]; decide) (by rw [c14]; decide) (by rw [c14]; decide) (by decide) ?_
                        refine lv_aload_n hx hb dX3_property_138 rfl (lv_at hl 0 rfl) ?_
                        refine g3_10 CX hM hk_k wf_X3_51 dX3_property_139 ?_
                        refine lv_if_eq (tgt := 149) hx hb dX3_property_142 (by decide) (fun c15 => ?_) (fun c15 => ?_)
                        · replace h := it_h c15 h
                          refine lv_iconst (v := 0) hx hb dX3_property_149 (by decide) ?_
                          obtain rfl := Option.some.inj h
                          exact x_iret CX hr hlk hM rfl dX3_property_150
                        · replace h := if_h c15 h
                          refine lv_iconst (v := 1) hx hb dX3_property_145 (by decide) ?_
                          refine lv_goto (tgt := 150) hx hb dX3_property_146 (by decide) ?_
                          obtain rfl := Option.some.inj h
                          exact x_iret CX hr hlk hM rfl dX3_property_150
                      · replace h := if_h c14 h
                        by_cases c16 : x1 = 11
                        · replace h := it_h c16 h
                          refine lv_tableIn (off := 150) (tgt := 151) hx hb dX3_property_1 (by rw [c16]; decide) (by rw [c16]; decide) (by rw [c16]; decide) (by decide) ?_
                          refine lv_aload_n hx hb dX3_property_151 rfl (lv_at hl 0 rfl) ?_
                          refine g3_14 CX hM hk_k wf_X3_64 dX3_property_152 ?_
                          obtain rfl := Option.some.inj h
                          exact x_iret CX hr hlk hM rfl dX3_property_155
                        · replace h := if_h c16 h
                          by_cases c17 : x1 = 12
                          · replace h := it_h c17 h
                            refine lv_tableIn (off := 155) (tgt := 156) hx hb dX3_property_1 (by rw [c17]; decide) (by rw [c17]; decide) (by rw [c17]; decide) (by decide) ?_
                            refine lv_aload_n hx hb dX3_property_156 rfl (lv_at hl 0 rfl) ?_
                            refine g3_5 CX hM hk_k wf_X3_31 dX3_property_157 ?_
                            obtain rfl := Option.some.inj h
                            exact x_iret CX hr hlk hM rfl dX3_property_160
                          · replace h := if_h c17 h
                            by_cases c18 : x1 = 13
                            · replace h := it_h c18 h
                              refine lv_tableIn (off := 160) (tgt := 161) hx hb dX3_property_1 (by rw [c18]; decide) (by rw [c18]; decide) (by rw [c18]; decide) (by decide) ?_
                              refine lv_aload_n hx hb dX3_property_161 rfl (lv_at hl 0 rfl) ?_
                              refine g3_6 CX hM hk_k wf_X3_34 dX3_property_162 ?_
                              obtain rfl := Option.some.inj h
                              exact x_iret CX hr hlk hM rfl dX3_property_165
                            · replace h := if_h c18 h
                              refine lv_tableOut (tgt := 166) hx hb dX3_property_1 (tsw_out [0, 1, 2, 3, 4, 5, 6, 7, 8, 9, 10, 11, 12, 13] (by decide) (by decide) (List.forall_mem_cons.mpr ⟨c1, (List.forall_mem_cons.mpr ⟨c3, (List.forall_mem_cons.mpr ⟨c4, (List.forall_mem_cons.mpr ⟨c5, (List.forall_mem_cons.mpr ⟨c7, (List.forall_mem_cons.mpr ⟨c9, (List.forall_mem_cons.mpr ⟨c10, (List.forall_mem_cons.mpr ⟨c11, (List.forall_mem_cons.mpr ⟨c12, (List.forall_mem_cons.mpr ⟨c13, (List.forall_mem_cons.mpr ⟨c14, (List.forall_mem_cons.mpr ⟨c16, (List.forall_mem_cons.mpr ⟨c17, (List.forall_mem_cons.mpr ⟨c18, (fun _ h => absurd h List.not_mem_nil)⟩)⟩)⟩)⟩)⟩)⟩)⟩)⟩)⟩)⟩)⟩)⟩)⟩)⟩)) (by decide) ?_
                              refine lv_ldc (v := (-1000001)) hx hb CX.1.2.2.2.1 (x_hts CX wc_X3_106) dX3_property_166 ?_
                              obtain rfl := Option.some.inj h
                              exact x_iret CX hr hlk hM rfl dX3_property_168
def rm_X6_within : Jvm.Room := { frames := 0, cells := 0, slots := 0, locals := 0 }
set_option maxHeartbeats 4000000 in
set_option maxRecDepth 100000 in
theorem c_X6_within (l : Launch) (E : xE) (B : Nat) {x0 : Int32} {x1 : Int32} {x2 : Int32} {σ : xM} {q : Int32 × xM}  (h : F_X6_within x0 x1 x2 σ = some q) : Met l yX6_within (Cond.code yX6_within cX6_within 3 (some .boolean) :: AL) rm_X6_within (xP E B 160 (layX E B) [.int x0, .int x1, .int x2] σ) (xQ E B 160 (layX E B) (some (.int (bz q.1))) q.2) 0 0 (wA B 160) := by
  refine x_met (plainFor_of_name (by decide +kernel)) (Nat.le_of_ble_eq_true rfl) rfl ?_
  intro p e s m below meth c ls CX hr hlk hM hl
  have hx := CX.1.1
  have hb := CX.1.2.1
  unfold F_X6_within at h
  refine lv_iload_n hx hb dX6_within_0 rfl (lv_at hl 0 rfl) ?_
  refine lv_iload_n hx hb dX6_within_1 rfl (lv_at hl 1 rfl) ?_
  refine lv_icmp_lt (tgt := 14) hx hb dX6_within_2 (by decide) (fun c1 => ?_) (fun c1 => ?_)
  · replace h := it_h c1 h
    refine lv_iconst (v := 0) hx hb dX6_within_14 (by decide) ?_
    obtain rfl := Option.some.inj h
    exact x_zret (y := 0) CX hr hlk hM rfl rfl dX6_within_15
  · replace h := if_h c1 h
    refine lv_iload_n hx hb dX6_within_5 rfl (lv_at hl 0 rfl) ?_
    refine lv_iload_n hx hb dX6_within_6 rfl (lv_at hl 2 rfl) ?_
    refine lv_icmp_gt (tgt := 14) hx hb dX6_within_7 (by decide) (fun c2 => ?_) (fun c2 => ?_)
    · replace h := it_h c2 h
      refine lv_iconst (v := 0) hx hb dX6_within_14 (by decide) ?_
      obtain rfl := Option.some.inj h
      exact x_zret (y := 0) CX hr hlk hM rfl rfl dX6_within_15
    · replace h := if_h c2 h
      refine lv_iconst (v := 1) hx hb dX6_within_10 (by decide) ?_
      refine lv_goto (tgt := 15) hx hb dX6_within_11 (by decide) ?_
      obtain rfl := Option.some.inj h
      exact x_zret (y := 1) CX hr hlk hM rfl rfl dX6_within_15
def rm_X6_addRoom : Jvm.Room := { frames := 5, cells := 0, slots := 0, locals := 113 }
set_option maxHeartbeats 4000000 in
set_option maxRecDepth 100000 in
theorem c_X6_addRoom (l : Launch) (E : xE) (B : Nat) {k : Nat} {x1 : Int32} {x2 : Int32} {x3 : Int32} {x4 : Int32} {σ : xM} {q : Int32 × xM} (hk_k : kd k = 6) (h : F_X6_addRoom k x1 x2 x3 x4 σ = some q) : Met l yX6_addRoom (Cond.code yX6_addRoom cX6_addRoom 5 (some .int) :: AL) rm_X6_addRoom (xP E B 160 (layX E B) [.ref (B + k), .int x1, .int x2, .int x3, .int x4] σ) (xQ E B 160 (layX E B) (some (.int q.1)) q.2) 0 0 (wA B 160) := by
  refine x_met (plainFor_of_name (by decide +kernel)) (Nat.le_of_ble_eq_true rfl) rfl ?_
  intro p e s m below meth c ls CX hr hlk hM hl
  have hx := CX.1.1
  have hb := CX.1.2.1
  unfold F_X6_addRoom at h
  refine lv_iload_n hx hb dX6_addRoom_0 rfl (lv_at hl 1 rfl) ?_
  refine lv_bipush (v := 10) hx hb dX6_addRoom_1 (by decide) ?_
  refine lv_sipush (v := 500) hx hb dX6_addRoom_3 (by decide) ?_
  obtain ⟨q1, eq1, h⟩ := bd_h h
  refine x_callS (As := [.int x1, .int 10, .int 500]) CX hM lk_X6_40 (c_X6_within l E B  eq1) ⟨rfl, rfl, by decide, by decide⟩ rfl hl.1 rfl (Nat.le_of_ble_eq_true rfl) dX6_addRoom_6 (fun H locs hM => ?_)
  refine W.eq (g2 := F0 m 9 ls [.int (bz q1.1)]) rfl ?_
  refine lv_if_eq (tgt := 52) hx hb dX6_addRoom_9 (by decide) (fun c2 => ?_) (fun c2 => ?_)
  · replace h := it_h c2 h
    refine lv_ldc (v := (-1000001)) hx hb CX.1.2.2.2.1 (x_hts CX wc_X6_44) dX6_addRoom_52 ?_
    obtain rfl := Option.some.inj h
    exact x_iret CX hr hlk hM rfl dX6_addRoom_54
  · replace h := if_h c2 h
    refine lv_iload_n hx hb dX6_addRoom_12 rfl (lv_at hl 2 rfl) ?_
    refine lv_iconst (v := 1) hx hb dX6_addRoom_13 (by decide) ?_
    refine lv_sipush (v := 200) hx hb dX6_addRoom_14 (by decide) ?_
    obtain ⟨q3, eq3, h⟩ := bd_h h
    refine x_callS (As := [.int x2, .int 1, .int 200]) CX hM lk_X6_40 (c_X6_within l E B  eq3) ⟨rfl, rfl, by decide, by decide⟩ rfl hl.1 rfl (Nat.le_of_ble_eq_true rfl) dX6_addRoom_17 (fun H locs hM => ?_)
    refine W.eq (g2 := F0 m 20 ls [.int (bz q3.1)]) rfl ?_
    refine lv_if_eq (tgt := 52) hx hb dX6_addRoom_20 (by decide) (fun c4 => ?_) (fun c4 => ?_)
    · replace h := it_h c4 h
      refine lv_ldc (v := (-1000001)) hx hb CX.1.2.2.2.1 (x_hts CX wc_X6_44) dX6_addRoom_52 ?_
      obtain rfl := Option.some.inj h
      exact x_iret CX hr hlk hM rfl dX6_addRoom_54
    · replace h := if_h c4 h
      refine lv_iload_n hx hb dX6_addRoom_23 rfl (lv_at hl 3 rfl) ?_
      refine lv_iconst (v := 0) hx hb dX6_addRoom_24 (by decide) ?_
      refine lv_bipush (v := 50) hx hb dX6_addRoom_25 (by decide) ?_
      obtain ⟨q5, eq5, h⟩ := bd_h h
      refine x_callS (As := [.int x3, .int 0, .int 50]) CX hM lk_X6_40 (c_X6_within l E B  eq5) ⟨rfl, rfl, by decide, by decide⟩ rfl hl.1 rfl (Nat.le_of_ble_eq_true rfl) dX6_addRoom_27 (fun H locs hM => ?_)
      refine W.eq (g2 := F0 m 30 ls [.int (bz q5.1)]) rfl ?_
      refine lv_if_eq (tgt := 52) hx hb dX6_addRoom_30 (by decide) (fun c6 => ?_) (fun c6 => ?_)
      · replace h := it_h c6 h
        refine lv_ldc (v := (-1000001)) hx hb CX.1.2.2.2.1 (x_hts CX wc_X6_44) dX6_addRoom_52 ?_
        obtain rfl := Option.some.inj h
        exact x_iret CX hr hlk hM rfl dX6_addRoom_54
      · replace h := if_h c6 h
        refine lv_iload_n hx hb dX6_addRoom_33 rfl (lv_at hl 3 rfl) ?_
        refine lv_iload_n hx hb dX6_addRoom_34 rfl (lv_at hl 1 rfl) ?_
        refine lv_iconst (v := 2) hx hb dX6_addRoom_35 (by decide) ?_
        refine lv_idiv hx hb dX6_addRoom_36 (by decide) ?_
        refine lv_icmp_gt (tgt := 52) hx hb dX6_addRoom_37 (by decide) (fun c7 => ?_) (fun c7 => ?_)
        · replace h := it_h c7 h
          refine lv_ldc (v := (-1000001)) hx hb CX.1.2.2.2.1 (x_hts CX wc_X6_44) dX6_addRoom_52 ?_
          obtain rfl := Option.some.inj h
          exact x_iret CX hr hlk hM rfl dX6_addRoom_54
        · replace h := if_h c7 h
          refine lv_iload hx hb dX6_addRoom_40 (lv_at hl 4 rfl) ?_
          refine lv_bipush (v := (-40)) hx hb dX6_addRoom_42 (by decide) ?_
          refine lv_bipush (v := 40) hx hb dX6_addRoom_44 (by decide) ?_
          obtain ⟨q8, eq8, h⟩ := bd_h h
          refine x_callS (As := [.int x4, .int (-40), .int 40]) CX hM lk_X6_40 (c_X6_within l E B  eq8) ⟨rfl, rfl, by decide, by decide⟩ rfl hl.1 rfl (Nat.le_of_ble_eq_true rfl) dX6_addRoom_46 (fun H locs hM => ?_)
          refine W.eq (g2 := F0 m 49 ls [.int (bz q8.1)]) rfl ?_
          refine lv_if_ne (tgt := 55) hx hb dX6_addRoom_49 (by decide) (fun c9 => ?_) (fun c9 => ?_)
          · replace h := if_h c9 h
            refine lv_aload_n hx hb dX6_addRoom_55 rfl (lv_at hl 0 rfl) ?_
            refine g6_0 CX hM hk_k wf_X6_10 dX6_addRoom_56 ?_
            refine g1_4 CX hM (kd6_f hk_k).1 wf_X6_45 dX6_addRoom_59 ?_
            refine lv_bipush (v := 6) hx hb dX6_addRoom_62 (by decide) ?_
            refine lv_icmp_lt (tgt := 70) hx hb dX6_addRoom_64 (by decide) (fun c10 => ?_) (fun c10 => ?_)
            · replace h := it_h c10 h
              refine lv_aload_n hx hb dX6_addRoom_70 rfl (lv_at hl 0 rfl) ?_
              refine g6_2 CX hM hk_k wf_X6_22 dX6_addRoom_71 ?_
              refine lv_aload_n hx hb dX6_addRoom_74 rfl (lv_at hl 0 rfl) ?_
              refine g6_0 CX hM hk_k wf_X6_10 dX6_addRoom_75 ?_
              obtain ⟨q11, eq11, h⟩ := bd_h h
              refine x_callV (As := [.ref (B + (k + 1))]) CX hM (kdl (kd6_f hk_k).2.2.1 rfl) (ly2 (kd6_f hk_k).2.2.1 _) rfl lk_X6_50 (c_X2_save l E B ((kd6_f hk_k).2.2.1) ((kd6_f hk_k).1) eq11) ⟨rfl, rfl, by decide, by decide⟩ rfl hl.1 rfl (Nat.le_of_ble_eq_true rfl) dX6_addRoom_78 (fun H locs hM => ?_)
              refine W.eq (g2 := F0 m 81 ls []) rfl ?_
              refine lv_aload_n hx hb dX6_addRoom_81 rfl (lv_at hl 0 rfl) ?_
              refine g6_0 CX hM hk_k wf_X6_10 dX6_addRoom_82 ?_
              refine lv_iload_n hx hb dX6_addRoom_85 rfl (lv_at hl 1 rfl) ?_
              refine lv_iload_n hx hb dX6_addRoom_86 rfl (lv_at hl 2 rfl) ?_
              refine lv_iload_n hx hb dX6_addRoom_87 rfl (lv_at hl 3 rfl) ?_
              refine lv_iload hx hb dX6_addRoom_88 (lv_at hl 4 rfl) ?_
              obtain ⟨q12, eq12, h⟩ := bd_h h
              refine x_callV (As := [.int x1, .int x2, .int x3, .int x4]) CX hM (kdl (kd6_f hk_k).1 rfl) (ly1 (kd6_f hk_k).1 _) rfl lk_X6_54 (c_X1_beginRoom l E B ((kd6_f hk_k).1) eq12) ⟨rfl, rfl, by decide, by decide⟩ rfl hl.1 rfl (Nat.le_of_ble_eq_true rfl) dX6_addRoom_90 (fun H locs hM => ?_)
              refine W.eq (g2 := F0 m 93 ls [.int q12.1]) rfl ?_
              obtain rfl := Option.some.inj h
              exact x_iret CX hr hlk hM rfl dX6_addRoom_93
            · replace h := if_h c10 h
              refine lv_ldc (v := (-1000003)) hx hb CX.1.2.2.2.1 (x_hts CX wc_X6_49) dX6_addRoom_67 ?_
              obtain rfl := Option.some.inj h
              exact x_iret CX hr hlk hM rfl dX6_addRoom_69
          · replace h := it_h c9 h
            refine lv_ldc (v := (-1000001)) hx hb CX.1.2.2.2.1 (x_hts CX wc_X6_44) dX6_addRoom_52 ?_
            obtain rfl := Option.some.inj h
            exact x_iret CX hr hlk hM rfl dX6_addRoom_54
def rm_X6_setLink : Jvm.Room := { frames := 4, cells := 0, slots := 0, locals := 93 }
set_option maxHeartbeats 4000000 in
set_option maxRecDepth 100000 in
theorem c_X6_setLink (l : Launch) (E : xE) (B : Nat) {k : Nat} {x1 : Int32} {x2 : Int32} {x3 : Int32} {σ : xM} {q : Int32 × xM} (hk_k : kd k = 6) (h : F_X6_setLink k x1 x2 x3 σ = some q) : Met l yX6_setLink (Cond.code yX6_setLink cX6_setLink 6 (some .int) :: AL) rm_X6_setLink (xP E B 160 (layX E B) [.ref (B + k), .int x1, .int x2, .int x3] σ) (xQ E B 160 (layX E B) (some (.int q.1)) q.2) 0 0 (wA B 160) := by
  refine x_met (plainFor_of_name (by decide +kernel)) (Nat.le_of_ble_eq_true rfl) rfl ?_
  intro p e s m below meth c ls CX hr hlk hM hl
  have hx := CX.1.1
  have hb := CX.1.2.1
  unfold F_X6_setLink at h
  refine lv_aload_n hx hb dX6_setLink_0 rfl (lv_at hl 0 rfl) ?_
  refine g6_0 CX hM hk_k wf_X6_10 dX6_setLink_1 ?_
  refine lv_iload_n hx hb dX6_setLink_4 rfl (lv_at hl 1 rfl) ?_
  refine lv_iload_n hx hb dX6_setLink_5 rfl (lv_at hl 2 rfl) ?_
  obtain ⟨q1, eq1, h⟩ := bd_h h
  refine x_callV (As := [.int x1, .int x2]) CX hM (kdl (kd6_f hk_k).1 rfl) (ly1 (kd6_f hk_k).1 _) rfl lk_X6_58 (c_X1_hasPair l E B ((kd6_f hk_k).1) eq1) ⟨rfl, rfl, by decide, by decide⟩ rfl hl.1 rfl (Nat.le_of_ble_eq_true rfl) dX6_setLink_6 (fun H locs hM => ?_)
  refine W.eq (g2 := F0 m 9 ls [.int (bz q1.1)]) rfl ?_
  refine lv_if_eq (tgt := 22) hx hb dX6_setLink_9 (by decide) (fun c2 => ?_) (fun c2 => ?_)
  · replace h := it_h c2 h
    refine lv_ldc (v := (-1000001)) hx hb CX.1.2.2.2.1 (x_hts CX wc_X6_44) dX6_setLink_22 ?_
    obtain rfl := Option.some.inj h
    exact x_iret CX hr hlk hM rfl dX6_setLink_24
  · replace h := if_h c2 h
    refine lv_iload_n hx hb dX6_setLink_12 rfl (lv_at hl 3 rfl) ?_
    refine lv_iconst (v := 0) hx hb dX6_setLink_13 (by decide) ?_
    refine lv_bipush (v := 50) hx hb dX6_setLink_14 (by decide) ?_
    obtain ⟨q3, eq3, h⟩ := bd_h h
    refine x_callS (As := [.int x3, .int 0, .int 50]) CX hM lk_X6_40 (c_X6_within l E B  eq3) ⟨rfl, rfl, by decide, by decide⟩ rfl hl.1 rfl (Nat.le_of_ble_eq_true rfl) dX6_setLink_16 (fun H locs hM => ?_)
    refine W.eq (g2 := F0 m 19 ls [.int (bz q3.1)]) rfl ?_
    refine lv_if_ne (tgt := 25) hx hb dX6_setLink_19 (by decide) (fun c4 => ?_) (fun c4 => ?_)
    · replace h := if_h c4 h
      refine lv_aload_n hx hb dX6_setLink_25 rfl (lv_at hl 0 rfl) ?_
      refine g6_0 CX hM hk_k wf_X6_10 dX6_setLink_26 ?_
      refine lv_iload_n hx hb dX6_setLink_29 rfl (lv_at hl 1 rfl) ?_
      refine lv_iload_n hx hb dX6_setLink_30 rfl (lv_at hl 2 rfl) ?_
      obtain ⟨q5, eq5, h⟩ := bd_h h
      refine x_callV (As := [.int x1, .int x2]) CX hM (kdl (kd6_f hk_k).1 rfl) (ly1 (kd6_f hk_k).1 _) rfl lk_X6_62 (c_X1_linkOf l E B ((kd6_f hk_k).1) eq5) ⟨rfl, rfl, by decide, by decide⟩ rfl hl.1 rfl (Nat.le_of_ble_eq_true rfl) dX6_setLink_31 (fun H locs hM => ?_)
      refine W.eq (g2 := F0 m 34 ls [.int q5.1]) rfl ?_
      refine lv_istore (lv' := [(4, .int q5.1), (0, .ref (B + k)), (1, .int x1), (2, .int x2), (3, .int x3)]) hx hb dX6_setLink_34 hl (by decide) rfl (fun ls hl => ?_)
      refine lv_iload_n hx hb dX6_setLink_36 rfl (lv_at hl 4 rfl) ?_
      refine lv_iload hx hb dX6_setLink_37 (lv_at hl 0 rfl) ?_
      refine lv_isub hx hb dX6_setLink_39 ?_
      refine lv_topi (fun x5_6 ex5_6 => ?_)
      replace h := nm_h ex5_6 h
      refine lv_istore (lv' := [(5, .int x5_6), (4, .int q5.1), (0, .ref (B + k)), (1, .int x1), (2, .int x2), (3, .int x3)]) hx hb dX6_setLink_40 hl (by decide) rfl (fun ls hl => ?_)
      refine lv_aload_n hx hb dX6_setLink_42 rfl (lv_at hl 2 rfl) ?_
      refine g6_0 CX hM hk_k wf_X6_10 dX6_setLink_43 ?_
      refine lv_iload_n hx hb dX6_setLink_46 rfl (lv_at hl 3 rfl) ?_
      refine lv_iload hx hb dX6_setLink_47 (lv_at hl 0 rfl) ?_
      obtain ⟨q7, eq7, h⟩ := bd_h h
      refine x_callV (As := [.int x1, .int x5_6]) CX hM (kdl (kd6_f hk_k).1 rfl) (ly1 (kd6_f hk_k).1 _) rfl lk_X6_66 (c_X1_canCarry l E B ((kd6_f hk_k).1) eq7) ⟨rfl, rfl, by decide, by decide⟩ rfl hl.1 rfl (Nat.le_of_ble_eq_true rfl) dX6_setLink_49 (fun H locs hM => ?_)
      refine W.eq (g2 := F0 m 52 ls [.int (bz q7.1)]) rfl ?_
      refine lv_if_eq (tgt := 68) hx hb dX6_setLink_52 (by decide) (fun c8 => ?_) (fun c8 => ?_)
      · replace h := it_h c8 h
        refine lv_ldc (v := (-1000002)) hx hb CX.1.2.2.2.1 (x_hts CX wc_X6_69) dX6_setLink_68 ?_
        obtain rfl := Option.some.inj h
        exact x_iret CX hr hlk hM rfl dX6_setLink_70
      · replace h := if_h c8 h
        refine lv_aload_n hx hb dX6_setLink_55 rfl (lv_at hl 2 rfl) ?_
        refine g6_0 CX hM hk_k wf_X6_10 dX6_setLink_56 ?_
        refine lv_iload_n hx hb dX6_setLink_59 rfl (lv_at hl 4 rfl) ?_
        refine lv_iload hx hb dX6_setLink_60 (lv_at hl 0 rfl) ?_
        obtain ⟨q9, eq9, h⟩ := bd_h h
        refine x_callV (As := [.int x2, .int x5_6]) CX hM (kdl (kd6_f hk_k).1 rfl) (ly1 (kd6_f hk_k).1 _) rfl lk_X6_66 (c_X1_canCarry l E B ((kd6_f hk_k).1) eq9) ⟨rfl, rfl, by decide, by decide⟩ rfl hl.1 rfl (Nat.le_of_ble_eq_true rfl) dX6_setLink_62 (fun H locs hM => ?_)
        refine W.eq (g2 := F0 m 65 ls [.int (bz q9.1)]) rfl ?_
        refine lv_if_ne (tgt := 71) hx hb dX6_setLink_65 (by decide) (fun c10 => ?_) (fun c10 => ?_)
        · replace h := if_h c10 h
          refine lv_aload_n hx hb dX6_setLink_71 rfl (lv_at hl 2 rfl) ?_
          refine g6_2 CX hM hk_k wf_X6_22 dX6_setLink_72 ?_
          refine lv_aload_n hx hb dX6_setLink_75 rfl (lv_at hl 2 rfl) ?_
          refine g6_0 CX hM hk_k wf_X6_10 dX6_setLink_76 ?_
          obtain ⟨q11, eq11, h⟩ := bd_h h
          refine x_callV (As := [.ref (B + (k + 1))]) CX hM (kdl (kd6_f hk_k).2.2.1 rfl) (ly2 (kd6_f hk_k).2.2.1 _) rfl lk_X6_50 (c_X2_save l E B ((kd6_f hk_k).2.2.1) ((kd6_f hk_k).1) eq11) ⟨rfl, rfl, by decide, by decide⟩ rfl hl.1 rfl (Nat.le_of_ble_eq_true rfl) dX6_setLink_79 (fun H locs hM => ?_)
          refine W.eq (g2 := F0 m 82 ls []) rfl ?_
          refine lv_aload_n hx hb dX6_setLink_82 rfl (lv_at hl 2 rfl) ?_
          refine g6_0 CX hM hk_k wf_X6_10 dX6_setLink_83 ?_
          refine lv_iload_n hx hb dX6_setLink_86 rfl (lv_at hl 3 rfl) ?_
          refine lv_iload_n hx hb dX6_setLink_87 rfl (lv_at hl 4 rfl) ?_
          refine lv_iload_n hx hb dX6_setLink_88 rfl (lv_at hl 5 rfl) ?_
          obtain ⟨q12, eq12, h⟩ := bd_h h
          refine x_callV (As := [.int x1, .int x2, .int x3]) CX hM (kdl (kd6_f hk_k).1 rfl) (ly1 (kd6_f hk_k).1 _) rfl lk_X6_70 (c_X1_putLink l E B ((kd6_f hk_k).1) eq12) ⟨rfl, rfl, by decide, by decide⟩ rfl hl.1 rfl (Nat.le_of_ble_eq_true rfl) dX6_setLink_89 (fun H locs hM => ?_)
          refine W.eq (g2 := F0 m 92 ls []) rfl ?_
          refine lv_iload hx hb dX6_setLink_92 (lv_at hl 1 rfl) ?_
          obtain rfl := Option.some.inj h
          exact x_iret CX hr hlk hM rfl dX6_setLink_94
        · replace h := it_h c10 h
          refine lv_ldc (v := (-1000002)) hx hb CX.1.2.2.2.1 (x_hts CX wc_X6_69) dX6_setLink_68 ?_
          obtain rfl := Option.some.inj h
          exact x_iret CX hr hlk hM rfl dX6_setLink_70
    · replace h := it_h c4 h
      refine lv_ldc (v := (-1000001)) hx hb CX.1.2.2.2.1 (x_hts CX wc_X6_44) dX6_setLink_22 ?_
      obtain rfl := Option.some.inj h
      exact x_iret CX hr hlk hM rfl dX6_setLink_24
def rm_X6_setThermostat : Jvm.Room := { frames := 4, cells := 0, slots := 0, locals := 93 }
set_option maxHeartbeats 4000000 in
set_option maxRecDepth 100000 in
theorem c_X6_setThermostat (l : Launch) (E : xE) (B : Nat) {k : Nat} {x1 : Int32} {x2 : Int32} {x3 : Int32} {σ : xM} {q : Int32 × xM} (hk_k : kd k = 6) (h : F_X6_setThermostat k x1 x2 x3 σ = some q) : Met l yX6_setThermostat (Cond.code yX6_setThermostat cX6_setThermostat 6 (some .int) :: AL) rm_X6_setThermostat (xP E B 160 (layX E B) [.ref (B + k), .int x1, .int x2, .int x3] σ) (xQ E B 160 (layX E B) (some (.int q.1)) q.2) 0 0 (wA B 160) := by
  refine x_met (plainFor_of_name (by decide +kernel)) (Nat.le_of_ble_eq_true rfl) rfl ?_
  intro p e s m below meth c ls CX hr hlk hM hl
  have hx := CX.1.1
  have hb := CX.1.2.1
  unfold F_X6_setThermostat at h
  have J76 : ∀ (v2 : Int32) (v3 : Int32) (u4 : Nat) (y0 : Int32) (σ : xM), kd u4 = 3 → ∀ (H : Heap) (locs : List Loc) (ls : Array Slot), xS E B 160 (layX E B) s σ H locs → lv_has ls 6 [(2, .int v2), (3, .int v3), (4, .ref (B + u4))] → F_X6_setThermostat_J76  v2 v3 u4 y0 σ = some q → W p l e rm_X6_setThermostat s m ([.ref (B + k), .int x1, .int x2, .int x3] : List Value).toArray below meth c H locs 0 0 (MQ below (xQ E B 160 (layX E B) (some (.int q.1)) q.2) ([.ref (B + k), .int x1, .int x2, .int x3] : List Value).toArray s 0 0 (wA B 160)) (F0 m 76 ls [.int y0]) := by
    clear hM hl h
    intro v2 v3 u4 y0 σ hk_u4 H locs ls hM hl h
    unfold F_X6_setThermostat_J76 at h
    refine lv_istore (lv' := [(5, .int y0), (2, .int v2), (3, .int v3), (4, .ref (B + u4))]) hx hb dX6_setThermostat_76 hl (by decide) rfl (fun ls hl => ?_)
    refine lv_aload hx hb dX6_setThermostat_78 (lv_at hl 3 rfl) ?_
    refine lv_iload_n hx hb dX6_setThermostat_80 rfl (lv_at hl 1 rfl) ?_
    refine p3_5 (y := v2) CX hM hk_u4 wf_X6_79 dX6_setThermostat_81 (fun H locs σ9 eσ9 hM => ?_)
    replace h := nm_h eσ9 h
    refine lv_aload hx hb dX6_setThermostat_84 (lv_at hl 3 rfl) ?_
    refine lv_iload_n hx hb dX6_setThermostat_86 rfl (lv_at hl 2 rfl) ?_
    refine p3_6 (y := v3) CX hM hk_u4 wf_X6_84 dX6_setThermostat_87 (fun H locs σ10 eσ10 hM => ?_)
    replace h := nm_h eσ10 h
    refine lv_iload hx hb dX6_setThermostat_90 (lv_at hl 0 rfl) ?_
    refine lv_if_eq (tgt := 99) hx hb dX6_setThermostat_92 (by decide) (fun c11 => ?_) (fun c11 => ?_)
    · replace h := it_h c11 h
      refine lv_iconst (v := 1) hx hb dX6_setThermostat_99 (by decide) ?_
      obtain rfl := Option.some.inj h
      exact x_iret CX hr hlk hM rfl dX6_setThermostat_100
    · replace h := if_h c11 h
      refine lv_iconst (v := 0) hx hb dX6_setThermostat_95 (by decide) ?_
      refine lv_goto (tgt := 100) hx hb dX6_setThermostat_96 (by decide) ?_
      obtain rfl := Option.some.inj h
      exact x_iret CX hr hlk hM rfl dX6_setThermostat_100
  have J75 : ∀ (v2 : Int32) (v3 : Int32) (u4 : Nat) (σ : xM), kd u4 = 3 → ∀ (H : Heap) (locs : List Loc) (ls : Array Slot), xS E B 160 (layX E B) s σ H locs → lv_has ls 6 [(2, .int v2), (3, .int v3), (4, .ref (B + u4))] → F_X6_setThermostat_J75  v2 v3 u4 σ = some q → W p l e rm_X6_setThermostat s m ([.ref (B + k), .int x1, .int x2, .int x3] : List Value).toArray below meth c H locs 0 0 (MQ below (xQ E B 160 (layX E B) (some (.int q.1)) q.2) ([.ref (B + k), .int x1, .int x2, .int x3] : List Value).toArray s 0 0 (wA B 160)) (F0 m 75 ls []) := by
    clear hM hl h
    intro v2 v3 u4 σ hk_u4 H locs ls hM hl h
    unfold F_X6_setThermostat_J75 at h
    refine lv_iconst (v := 0) hx hb dX6_setThermostat_75 (by decide) ?_
    exact J76 _ _ _ _ _ hk_u4 _ _ _ hM (lv_sub hl [0, 1, 2] rfl) h
  refine lv_aload_n hx hb dX6_setThermostat_0 rfl (lv_at hl 0 rfl) ?_
  refine g6_0 CX hM hk_k wf_X6_10 dX6_setThermostat_1 ?_
  refine lv_iload_n hx hb dX6_setThermostat_4 rfl (lv_at hl 1 rfl) ?_
  obtain ⟨q1, eq1, h⟩ := bd_h h
  refine x_callV (As := [.int x1]) CX hM (kdl (kd6_f hk_k).1 rfl) (ly1 (kd6_f hk_k).1 _) rfl lk_X6_74 (c_X1_roomAt l E B ((kd6_f hk_k).1) eq1) ⟨rfl, rfl, by decide, by decide⟩ rfl hl.1 rfl (Nat.le_of_ble_eq_true rfl) dX6_setThermostat_5 (fun H locs hM => ?_)
  rcases hq1 : q1.1 with _ | r2
  · rw [hq1] at h
    replace h := oc_n h
    refine W.eq (g2 := F0 m 8 ls [.null]) rfl ?_
    refine lv_astoreN (lv' := [(4, .null), (0, .ref (B + k)), (1, .int x1), (2, .int x2), (3, .int x3)]) hx hb dX6_setThermostat_8 hl (by decide) rfl (fun ls hl => ?_)
    refine lv_aloadN hx hb dX6_setThermostat_10 (lv_at hl 0 rfl) ?_
    refine lv_ifnullN (tgt := 39) hx hb dX6_setThermostat_12 (by decide) ?_
    refine lv_ldc (v := (-1000001)) hx hb CX.1.2.2.2.1 (x_hts CX wc_X6_44) dX6_setThermostat_39 ?_
    obtain rfl := Option.some.inj h
    exact x_iret CX hr hlk hM rfl dX6_setThermostat_41
  · rw [hq1] at h
    replace h := oc_s h
    obtain ⟨hk_r2, h⟩ := ck_h h
    refine W.eq (g2 := F0 m 8 ls [.ref (B + r2)]) rfl ?_
    refine lv_astore (lv' := [(4, .ref (B + r2)), (0, .ref (B + k)), (1, .int x1), (2, .int x2), (3, .int x3)]) hx hb dX6_setThermostat_8 hl (by decide) rfl (fun ls hl => ?_)
    refine lv_aload hx hb dX6_setThermostat_10 (lv_at hl 0 rfl) ?_
    refine lv_ifnull hx hb dX6_setThermostat_12 ?_
    refine lv_iload_n hx hb dX6_setThermostat_15 rfl (lv_at hl 3 rfl) ?_
    refine lv_sipush (v := 5000) hx hb dX6_setThermostat_16 (by decide) ?_
    refine lv_ldc (v := 35000) hx hb CX.1.2.2.2.1 (x_hts CX wc_X6_78) dX6_setThermostat_19 ?_
    obtain ⟨q3, eq3, h⟩ := bd_h h
    refine x_callS (As := [.int x2, .int 5000, .int 35000]) CX hM lk_X6_40 (c_X6_within l E B  eq3) ⟨rfl, rfl, by decide, by decide⟩ rfl hl.1 rfl (Nat.le_of_ble_eq_true rfl) dX6_setThermostat_21 (fun H locs hM => ?_)
    refine W.eq (g2 := F0 m 24 ls [.int (bz q3.1)]) rfl ?_
    refine lv_if_eq (tgt := 39) hx hb dX6_setThermostat_24 (by decide) (fun c4 => ?_) (fun c4 => ?_)
    · replace h := it_h c4 h
      refine lv_ldc (v := (-1000001)) hx hb CX.1.2.2.2.1 (x_hts CX wc_X6_44) dX6_setThermostat_39 ?_
      obtain rfl := Option.some.inj h
      exact x_iret CX hr hlk hM rfl dX6_setThermostat_41
    · replace h := if_h c4 h
      refine lv_iload_n hx hb dX6_setThermostat_27 rfl (lv_at hl 4 rfl) ?_
      refine lv_bipush (v := 100) hx hb dX6_setThermostat_28 (by decide) ?_
      refine lv_sipush (v := 5000) hx hb dX6_setThermostat_30 (by decide) ?_
      obtain ⟨q5, eq5, h⟩ := bd_h h
      refine x_callS (As := [.int x3, .int 100, .int 5000]) CX hM lk_X6_40 (c_X6_within l E B  eq5) ⟨rfl, rfl, by decide, by decide⟩ rfl hl.1 rfl (Nat.le_of_ble_eq_true rfl) dX6_setThermostat_33 (fun H locs hM => ?_)
      refine W.eq (g2 := F0 m 36 ls [.int (bz q5.1)]) rfl ?_
      refine lv_if_ne (tgt := 42) hx hb dX6_setThermostat_36 (by decide) (fun c6 => ?_) (fun c6 => ?_)
      · replace h := if_h c6 h
        refine lv_aload_n hx hb dX6_setThermostat_42 rfl (lv_at hl 1 rfl) ?_
        refine g6_2 CX hM hk_k wf_X6_22 dX6_setThermostat_43 ?_
        refine lv_aload_n hx hb dX6_setThermostat_46 rfl (lv_at hl 1 rfl) ?_
        refine g6_0 CX hM hk_k wf_X6_10 dX6_setThermostat_47 ?_
        obtain ⟨q7, eq7, h⟩ := bd_h h
        refine x_callV (As := [.ref (B + (k + 1))]) CX hM (kdl (kd6_f hk_k).2.2.1 rfl) (ly2 (kd6_f hk_k).2.2.1 _) rfl lk_X6_50 (c_X2_save l E B ((kd6_f hk_k).2.2.1) ((kd6_f hk_k).1) eq7) ⟨rfl, rfl, by decide, by decide⟩ rfl hl.1 rfl (Nat.le_of_ble_eq_true rfl) dX6_setThermostat_50 (fun H locs hM => ?_)
        refine W.eq (g2 := F0 m 53 ls []) rfl ?_
        refine lv_aload hx hb dX6_setThermostat_53 (lv_at hl 0 rfl) ?_
        refine g3_5 CX hM hk_r2 wf_X6_79 dX6_setThermostat_55 ?_
        refine lv_iload_n hx hb dX6_setThermostat_58 rfl (lv_at hl 3 rfl) ?_
        refine lv_icmp_ne (tgt := 75) hx hb dX6_setThermostat_59 (by decide) (fun c8 => ?_) (fun c8 => ?_)
        · replace h := if_h c8 h
          exact J75 _ _ _ _ hk_r2 _ _ _ hM (lv_sub hl [3, 4, 0] rfl) h
        · replace h := it_h c8 h
          refine lv_aload hx hb dX6_setThermostat_62 (lv_at hl 0 rfl) ?_
          refine g3_6 CX hM hk_r2 wf_X6_84 dX6_setThermostat_64 ?_
          refine lv_iload_n hx hb dX6_setThermostat_67 rfl (lv_at hl 4 rfl) ?_
          refine lv_icmp_ne (tgt := 75) hx hb dX6_setThermostat_68 (by decide) (fun c12 => ?_) (fun c12 => ?_)
          · replace h := if_h c12 h
            exact J75 _ _ _ _ hk_r2 _ _ _ hM (lv_sub hl [3, 4, 0] rfl) h
          · replace h := it_h c12 h
            refine lv_iconst (v := 1) hx hb dX6_setThermostat_71 (by decide) ?_
            refine lv_goto (tgt := 76) hx hb dX6_setThermostat_72 (by decide) ?_
            exact J76 _ _ _ _ _ hk_r2 _ _ _ hM (lv_sub hl [3, 4, 0] rfl) h
      · replace h := it_h c6 h
        refine lv_ldc (v := (-1000001)) hx hb CX.1.2.2.2.1 (x_hts CX wc_X6_44) dX6_setThermostat_39 ?_
        obtain rfl := Option.some.inj h
        exact x_iret CX hr hlk hM rfl dX6_setThermostat_41
end
section
def rm_X6_isNumberInRange : Jvm.Room := { frames := 1, cells := 0, slots := 0, locals := 22 }
set_option maxHeartbeats 4000000 in
set_option maxRecDepth 100000 in
theorem c_X6_isNumberInRange (l : Launch) (E : xE) (B : Nat) {x0 : Int32} {x1 : Int32} {σ : xM} {q : Int32 × xM}  (h : F_X6_isNumberInRange x0 x1 σ = some q) : Met l yX6_isNumberInRange (Cond.code yX6_isNumberInRange cX6_isNumberInRange 2 (some .boolean) :: AL) rm_X6_isNumberInRange (xP E B 160 (layX E B) [.int x0, .int x1] σ) (xQ E B 160 (layX E B) (some (.int (bz q.1))) q.2) 0 0 (wA B 160) := by
  refine x_met (plainFor_of_name (by decide +kernel)) (Nat.le_of_ble_eq_true rfl) rfl ?_
  intro p e s m below meth c ls CX hr hlk hM hl
  have hx := CX.1.1
  have hb := CX.1.2.1
  unfold F_X6_isNumberInRange at h
  refine lv_iload_n hx hb dX6_isNumberInRange_0 rfl (lv_at hl 0 rfl) ?_
  refine lv_if_lt (tgt := 41) hx hb dX6_isNumberInRange_1 (by decide) (fun c1 => ?_) (fun c1 => ?_)
  · replace h := it_h c1 h
    refine lv_iconst (v := 0) hx hb dX6_isNumberInRange_41 (by decide) ?_
    obtain rfl := Option.some.inj h
    exact x_zret (y := 0) CX hr hlk hM rfl rfl dX6_isNumberInRange_42
  · replace h := if_h c1 h
    refine lv_iload_n hx hb dX6_isNumberInRange_4 rfl (lv_at hl 0 rfl) ?_
    refine x_gets CX hM CX.2.2.2.1.2.1 wf_X6_202 dX6_isNumberInRange_5 ?_
    refine x_slen CX hM (CX.2.2.2.2 1 (by decide)) dX6_isNumberInRange_8 ?_
    refine lv_icmp_ge (tgt := 41) hx hb dX6_isNumberInRange_9 (by decide) (fun c2 => ?_) (fun c2 => ?_)
    · replace h := it_h c2 h
      refine lv_iconst (v := 0) hx hb dX6_isNumberInRange_41 (by decide) ?_
      obtain rfl := Option.some.inj h
      exact x_zret (y := 0) CX hr hlk hM rfl rfl dX6_isNumberInRange_42
    · replace h := if_h c2 h
      refine lv_iload_n hx hb dX6_isNumberInRange_12 rfl (lv_at hl 0 rfl) ?_
      refine x_gets CX hM CX.2.2.2.1.2.2 wf_X6_206 dX6_isNumberInRange_13 ?_
      refine x_slen CX hM (CX.2.2.2.2 2 (by decide)) dX6_isNumberInRange_16 ?_
      refine lv_icmp_ge (tgt := 41) hx hb dX6_isNumberInRange_17 (by decide) (fun c3 => ?_) (fun c3 => ?_)
      · replace h := it_h c3 h
        refine lv_iconst (v := 0) hx hb dX6_isNumberInRange_41 (by decide) ?_
        obtain rfl := Option.some.inj h
        exact x_zret (y := 0) CX hr hlk hM rfl rfl dX6_isNumberInRange_42
      · replace h := if_h c3 h
        refine lv_iload_n hx hb dX6_isNumberInRange_20 rfl (lv_at hl 1 rfl) ?_
        refine x_gets CX hM CX.2.2.2.1.2.1 wf_X6_202 dX6_isNumberInRange_21 ?_
        refine lv_iload_n hx hb dX6_isNumberInRange_24 rfl (lv_at hl 0 rfl) ?_
        obtain ⟨g4, h⟩ := ck_h h
        refine x_sald CX hM (CX.2.2.2.2 1 (by decide)) g4 rfl dX6_isNumberInRange_25 ?_
        refine x_gets CX hM CX.2.2.2.1.2.2 wf_X6_206 dX6_isNumberInRange_26 ?_
        refine lv_iload_n hx hb dX6_isNumberInRange_29 rfl (lv_at hl 0 rfl) ?_
        obtain ⟨g5, h⟩ := ck_h h
        refine x_sald CX hM (CX.2.2.2.2 2 (by decide)) g5 rfl dX6_isNumberInRange_30 ?_
        obtain ⟨q6, eq6, h⟩ := bd_h h
        refine x_callS (As := [.int x1, .int (stI 1 (Int32.toNatClampNeg x0)), .int (stI 2 (Int32.toNatClampNeg x0))]) CX hM lk_X6_40 (c_X6_within l E B  eq6) ⟨rfl, rfl, by decide, by decide⟩ rfl hl.1 rfl (Nat.le_of_ble_eq_true rfl) dX6_isNumberInRange_31 (fun H locs hM => ?_)
        refine W.eq (g2 := F0 m 34 ls [.int (bz q6.1)]) rfl ?_
        refine lv_if_eq (tgt := 41) hx hb dX6_isNumberInRange_34 (by decide) (fun c7 => ?_) (fun c7 => ?_)
        · replace h := it_h c7 h
          refine lv_iconst (v := 0) hx hb dX6_isNumberInRange_41 (by decide) ?_
          obtain rfl := Option.some.inj h
          exact x_zret (y := 0) CX hr hlk hM rfl rfl dX6_isNumberInRange_42
        · replace h := if_h c7 h
          refine lv_iconst (v := 1) hx hb dX6_isNumberInRange_37 (by decide) ?_
          refine lv_goto (tgt := 42) hx hb dX6_isNumberInRange_38 (by decide) ?_
          obtain rfl := Option.some.inj h
          exact x_zret (y := 1) CX hr hlk hM rfl rfl dX6_isNumberInRange_42
def rm_X6_setNumber : Jvm.Room := { frames := 4, cells := 0, slots := 0, locals := 93 }
set_option maxHeartbeats 4000000 in
set_option maxRecDepth 100000 in
theorem c_X6_setNumber (l : Launch) (E : xE) (B : Nat) {k : Nat} {x1 : Int32} {x2 : Int32} {σ : xM} {q : Int32 × xM} (hk_k : kd k = 6) (h : F_X6_setNumber k x1 x2 σ = some q) : Met l yX6_setNumber (Cond.code yX6_setNumber cX6_setNumber 4 (some .int) :: AL) rm_X6_setNumber (xP E B 160 (layX E B) [.ref (B + k), .int x1, .int x2] σ) (xQ E B 160 (layX E B) (some (.int q.1)) q.2) 0 0 (wA B 160) := by
  refine x_met (plainFor_of_name (by decide +kernel)) (Nat.le_of_ble_eq_true rfl) rfl ?_
  intro p e s m below meth c ls CX hr hlk hM hl
  have hx := CX.1.1
  have hb := CX.1.2.1
  unfold F_X6_setNumber at h
  refine lv_iload_n hx hb dX6_setNumber_0 rfl (lv_at hl 1 rfl) ?_
  refine lv_iload_n hx hb dX6_setNumber_1 rfl (lv_at hl 2 rfl) ?_
  obtain ⟨q1, eq1, h⟩ := bd_h h
  refine x_callS (As := [.int x1, .int x2]) CX hM lk_X6_87 (c_X6_isNumberInRange l E B  eq1) ⟨rfl, rfl, by decide, by decide⟩ rfl hl.1 rfl (Nat.le_of_ble_eq_true rfl) dX6_setNumber_2 (fun H locs hM => ?_)
  refine W.eq (g2 := F0 m 5 ls [.int (bz q1.1)]) rfl ?_
  refine lv_if_ne (tgt := 11) hx hb dX6_setNumber_5 (by decide) (fun c2 => ?_) (fun c2 => ?_)
  · replace h := if_h c2 h
    refine lv_aload_n hx hb dX6_setNumber_11 rfl (lv_at hl 0 rfl) ?_
    refine g6_2 CX hM hk_k wf_X6_22 dX6_setNumber_12 ?_
    refine lv_aload_n hx hb dX6_setNumber_15 rfl (lv_at hl 0 rfl) ?_
    refine g6_0 CX hM hk_k wf_X6_10 dX6_setNumber_16 ?_
    obtain ⟨q3, eq3, h⟩ := bd_h h
    refine x_callV (As := [.ref (B + (k + 1))]) CX hM (kdl (kd6_f hk_k).2.2.1 rfl) (ly2 (kd6_f hk_k).2.2.1 _) rfl lk_X6_50 (c_X2_save l E B ((kd6_f hk_k).2.2.1) ((kd6_f hk_k).1) eq3) ⟨rfl, rfl, by decide, by decide⟩ rfl hl.1 rfl (Nat.le_of_ble_eq_true rfl) dX6_setNumber_19 (fun H locs hM => ?_)
    refine W.eq (g2 := F0 m 22 ls []) rfl ?_
    refine lv_aload_n hx hb dX6_setNumber_22 rfl (lv_at hl 0 rfl) ?_
    refine g6_0 CX hM hk_k wf_X6_10 dX6_setNumber_23 ?_
    refine lv_iload_n hx hb dX6_setNumber_26 rfl (lv_at hl 1 rfl) ?_
    obtain ⟨q4, eq4, h⟩ := bd_h h
    refine x_callV (As := [.int x1]) CX hM (kdl (kd6_f hk_k).1 rfl) (ly1 (kd6_f hk_k).1 _) rfl lk_X6_90 (c_X1_number l E B ((kd6_f hk_k).1) eq4) ⟨rfl, rfl, by decide, by decide⟩ rfl hl.1 rfl (Nat.le_of_ble_eq_true rfl) dX6_setNumber_27 (fun H locs hM => ?_)
    refine W.eq (g2 := F0 m 30 ls [.int q4.1]) rfl ?_
    refine lv_istore_n (lv' := [(3, .int q4.1), (0, .ref (B + k)), (1, .int x1), (2, .int x2)]) hx hb dX6_setNumber_30 rfl hl (by decide) rfl (fun ls hl => ?_)
    refine lv_aload_n hx hb dX6_setNumber_31 rfl (lv_at hl 1 rfl) ?_
    refine g6_0 CX hM hk_k wf_X6_10 dX6_setNumber_32 ?_
    refine lv_iload_n hx hb dX6_setNumber_35 rfl (lv_at hl 2 rfl) ?_
    refine lv_iload_n hx hb dX6_setNumber_36 rfl (lv_at hl 3 rfl) ?_
    obtain ⟨q5, eq5, h⟩ := bd_h h
    refine x_callV (As := [.int x1, .int x2]) CX hM (kdl (kd6_f hk_k).1 rfl) (ly1 (kd6_f hk_k).1 _) rfl lk_X6_94 (c_X1_putNumber l E B ((kd6_f hk_k).1) eq5) ⟨rfl, rfl, by decide, by decide⟩ rfl hl.1 rfl (Nat.le_of_ble_eq_true rfl) dX6_setNumber_37 (fun H locs hM => ?_)
    refine W.eq (g2 := F0 m 40 ls []) rfl ?_
    refine lv_iload_n hx hb dX6_setNumber_40 rfl (lv_at hl 0 rfl) ?_
    obtain rfl := Option.some.inj h
    exact x_iret CX hr hlk hM rfl dX6_setNumber_41
  · replace h := it_h c2 h
    refine lv_ldc (v := (-1000001)) hx hb CX.1.2.2.2.1 (x_hts CX wc_X6_44) dX6_setNumber_8 ?_
    obtain rfl := Option.some.inj h
    exact x_iret CX hr hlk hM rfl dX6_setNumber_10
def rm_X6_warm : Jvm.Room := { frames := 4, cells := 0, slots := 0, locals := 93 }
set_option maxHeartbeats 4000000 in
set_option maxRecDepth 100000 in
theorem c_X6_warm (l : Launch) (E : xE) (B : Nat) {k : Nat} {x1 : Int32} {x2 : Int32} {σ : xM} {q : Int32 × xM} (hk_k : kd k = 6) (h : F_X6_warm k x1 x2 σ = some q) : Met l yX6_warm (Cond.code yX6_warm cX6_warm 5 (some .int) :: AL) rm_X6_warm (xP E B 160 (layX E B) [.ref (B + k), .int x1, .int x2] σ) (xQ E B 160 (layX E B) (some (.int q.1)) q.2) 0 0 (wA B 160) := by
  refine x_met (plainFor_of_name (by decide +kernel)) (Nat.le_of_ble_eq_true rfl) rfl ?_
  intro p e s m below meth c ls CX hr hlk hM hl
  have hx := CX.1.1
  have hb := CX.1.2.1
  unfold F_X6_warm at h
  refine lv_aload_n hx hb dX6_warm_0 rfl (lv_at hl 0 rfl) ?_
  refine g6_0 CX hM hk_k wf_X6_10 dX6_warm_1 ?_
  refine lv_iload_n hx hb dX6_warm_4 rfl (lv_at hl 1 rfl) ?_
  obtain ⟨q1, eq1, h⟩ := bd_h h
  refine x_callV (As := [.int x1]) CX hM (kdl (kd6_f hk_k).1 rfl) (ly1 (kd6_f hk_k).1 _) rfl lk_X6_74 (c_X1_roomAt l E B ((kd6_f hk_k).1) eq1) ⟨rfl, rfl, by decide, by decide⟩ rfl hl.1 rfl (Nat.le_of_ble_eq_true rfl) dX6_warm_5 (fun H locs hM => ?_)
  rcases hq1 : q1.1 with _ | r2
  · rw [hq1] at h
    replace h := oc_n h
    refine W.eq (g2 := F0 m 8 ls [.null]) rfl ?_
    refine lv_astore_nN (lv' := [(3, .null), (0, .ref (B + k)), (1, .int x1), (2, .int x2)]) hx hb dX6_warm_8 rfl hl (by decide) rfl (fun ls hl => ?_)
    refine lv_aload_nN hx hb dX6_warm_9 rfl (lv_at hl 0 rfl) ?_
    refine lv_ifnullN (tgt := 24) hx hb dX6_warm_10 (by decide) ?_
    refine lv_ldc (v := (-1000001)) hx hb CX.1.2.2.2.1 (x_hts CX wc_X6_44) dX6_warm_24 ?_
    obtain rfl := Option.some.inj h
    exact x_iret CX hr hlk hM rfl dX6_warm_26
  · rw [hq1] at h
    replace h := oc_s h
    obtain ⟨hk_r2, h⟩ := ck_h h
    refine W.eq (g2 := F0 m 8 ls [.ref (B + r2)]) rfl ?_
    refine lv_astore_n (lv' := [(3, .ref (B + r2)), (0, .ref (B + k)), (1, .int x1), (2, .int x2)]) hx hb dX6_warm_8 rfl hl (by decide) rfl (fun ls hl => ?_)
    refine lv_aload_n hx hb dX6_warm_9 rfl (lv_at hl 0 rfl) ?_
    refine lv_ifnull hx hb dX6_warm_10 ?_
    refine lv_iload_n hx hb dX6_warm_13 rfl (lv_at hl 3 rfl) ?_
    refine lv_ldc (v := (-50000)) hx hb CX.1.2.2.2.1 (x_hts CX wc_X6_98) dX6_warm_14 ?_
    refine lv_ldc (v := 50000) hx hb CX.1.2.2.2.1 (x_hts CX wc_X6_99) dX6_warm_16 ?_
    obtain ⟨q3, eq3, h⟩ := bd_h h
    refine x_callS (As := [.int x2, .int (-50000), .int 50000]) CX hM lk_X6_40 (c_X6_within l E B  eq3) ⟨rfl, rfl, by decide, by decide⟩ rfl hl.1 rfl (Nat.le_of_ble_eq_true rfl) dX6_warm_18 (fun H locs hM => ?_)
    refine W.eq (g2 := F0 m 21 ls [.int (bz q3.1)]) rfl ?_
    refine lv_if_ne (tgt := 27) hx hb dX6_warm_21 (by decide) (fun c4 => ?_) (fun c4 => ?_)
    · replace h := if_h c4 h
      refine lv_aload_n hx hb dX6_warm_27 rfl (lv_at hl 0 rfl) ?_
      refine lv_aload_n hx hb dX6_warm_28 rfl (lv_at hl 0 rfl) ?_
      refine g3_4 CX hM hk_r2 wf_X6_100 dX6_warm_29 ?_
      refine lv_iload_n hx hb dX6_warm_32 rfl (lv_at hl 3 rfl) ?_
      refine lv_iadd hx hb dX6_warm_33 ?_
      obtain ⟨q5, eq5, h⟩ := bd_h h
      refine x_callV (As := [.int ((q3.2 r2 4) + x2)]) CX hM (kdl hk_r2 rfl) (ly3 hk_r2 _) rfl lk_X6_103 (c_X3_temperatureWith l E B hk_r2 eq5) ⟨rfl, rfl, by decide, by decide⟩ rfl hl.1 rfl (Nat.le_of_ble_eq_true rfl) dX6_warm_34 (fun H locs hM => ?_)
      refine W.eq (g2 := F0 m 37 ls [.int q5.1]) rfl ?_
      refine lv_istore (lv' := [(4, .int q5.1), (3, .ref (B + r2)), (0, .ref (B + k)), (1, .int x1), (2, .int x2)]) hx hb dX6_warm_37 hl (by decide) rfl (fun ls hl => ?_)
      refine lv_iload hx hb dX6_warm_39 (lv_at hl 0 rfl) ?_
      refine lv_ldc (v := (-200000)) hx hb CX.1.2.2.2.1 (x_hts CX wc_X6_106) dX6_warm_41 ?_
      refine lv_ldc (v := 200000) hx hb CX.1.2.2.2.1 (x_hts CX wc_X6_107) dX6_warm_43 ?_
      obtain ⟨q6, eq6, h⟩ := bd_h h
      refine x_callS (As := [.int q5.1, .int (-200000), .int 200000]) CX hM lk_X6_40 (c_X6_within l E B  eq6) ⟨rfl, rfl, by decide, by decide⟩ rfl hl.1 rfl (Nat.le_of_ble_eq_true rfl) dX6_warm_45 (fun H locs hM => ?_)
      refine W.eq (g2 := F0 m 48 ls [.int (bz q6.1)]) rfl ?_
      refine lv_if_ne (tgt := 54) hx hb dX6_warm_48 (by decide) (fun c7 => ?_) (fun c7 => ?_)
      · replace h := if_h c7 h
        refine lv_aload_n hx hb dX6_warm_54 rfl (lv_at hl 2 rfl) ?_
        refine g6_2 CX hM hk_k wf_X6_22 dX6_warm_55 ?_
        refine lv_aload_n hx hb dX6_warm_58 rfl (lv_at hl 2 rfl) ?_
        refine g6_0 CX hM hk_k wf_X6_10 dX6_warm_59 ?_
        obtain ⟨q8, eq8, h⟩ := bd_h h
        refine x_callV (As := [.ref (B + (k + 1))]) CX hM (kdl (kd6_f hk_k).2.2.1 rfl) (ly2 (kd6_f hk_k).2.2.1 _) rfl lk_X6_50 (c_X2_save l E B ((kd6_f hk_k).2.2.1) ((kd6_f hk_k).1) eq8) ⟨rfl, rfl, by decide, by decide⟩ rfl hl.1 rfl (Nat.le_of_ble_eq_true rfl) dX6_warm_62 (fun H locs hM => ?_)
        refine W.eq (g2 := F0 m 65 ls []) rfl ?_
        refine lv_aload_n hx hb dX6_warm_65 rfl (lv_at hl 1 rfl) ?_
        refine lv_iload_n hx hb dX6_warm_66 rfl (lv_at hl 4 rfl) ?_
        obtain ⟨q9, eq9, h⟩ := bd_h h
        refine x_callV (As := [.int x2]) CX hM (kdl hk_r2 rfl) (ly3 hk_r2 _) rfl lk_X6_108 (c_X3_bringIn l E B hk_r2 eq9) ⟨rfl, rfl, by decide, by decide⟩ rfl hl.1 rfl (Nat.le_of_ble_eq_true rfl) dX6_warm_67 (fun H locs hM => ?_)
        refine W.eq (g2 := F0 m 70 ls []) rfl ?_
        refine lv_iload hx hb dX6_warm_70 (lv_at hl 0 rfl) ?_
        obtain rfl := Option.some.inj h
        exact x_iret CX hr hlk hM rfl dX6_warm_72
      · replace h := it_h c7 h
        refine lv_ldc (v := (-1000002)) hx hb CX.1.2.2.2.1 (x_hts CX wc_X6_69) dX6_warm_51 ?_
        obtain rfl := Option.some.inj h
        exact x_iret CX hr hlk hM rfl dX6_warm_53
    · replace h := it_h c4 h
      refine lv_ldc (v := (-1000001)) hx hb CX.1.2.2.2.1 (x_hts CX wc_X6_44) dX6_warm_24 ?_
      obtain rfl := Option.some.inj h
      exact x_iret CX hr hlk hM rfl dX6_warm_26
def rm_X6_service : Jvm.Room := { frames := 4, cells := 0, slots := 0, locals := 93 }
set_option maxHeartbeats 4000000 in
set_option maxRecDepth 100000 in
theorem c_X6_service (l : Launch) (E : xE) (B : Nat) {k : Nat} {x1 : Int32} {σ : xM} {q : Int32 × xM} (hk_k : kd k = 6) (h : F_X6_service k x1 σ = some q) : Met l yX6_service (Cond.code yX6_service cX6_service 4 (some .int) :: AL) rm_X6_service (xP E B 160 (layX E B) [.ref (B + k), .int x1] σ) (xQ E B 160 (layX E B) (some (.int q.1)) q.2) 0 0 (wA B 160) := by
  refine x_met (plainFor_of_name (by decide +kernel)) (Nat.le_of_ble_eq_true rfl) rfl ?_
  intro p e s m below meth c ls CX hr hlk hM hl
  have hx := CX.1.1
  have hb := CX.1.2.1
  unfold F_X6_service at h
  refine lv_aload_n hx hb dX6_service_0 rfl (lv_at hl 0 rfl) ?_
  refine g6_0 CX hM hk_k wf_X6_10 dX6_service_1 ?_
  refine lv_iload_n hx hb dX6_service_4 rfl (lv_at hl 1 rfl) ?_
  obtain ⟨q1, eq1, h⟩ := bd_h h
  refine x_callV (As := [.int x1]) CX hM (kdl (kd6_f hk_k).1 rfl) (ly1 (kd6_f hk_k).1 _) rfl lk_X6_74 (c_X1_roomAt l E B ((kd6_f hk_k).1) eq1) ⟨rfl, rfl, by decide, by decide⟩ rfl hl.1 rfl (Nat.le_of_ble_eq_true rfl) dX6_service_5 (fun H locs hM => ?_)
  rcases hq1 : q1.1 with _ | r2
  · rw [hq1] at h
    replace h := oc_n h
    refine W.eq (g2 := F0 m 8 ls [.null]) rfl ?_
    refine lv_astore_nN (lv' := [(2, .null), (0, .ref (B + k)), (1, .int x1)]) hx hb dX6_service_8 rfl hl (by decide) rfl (fun ls hl => ?_)
    refine lv_aload_nN hx hb dX6_service_9 rfl (lv_at hl 0 rfl) ?_
    refine lv_ifnonnullN hx hb dX6_service_10 ?_
    refine lv_ldc (v := (-1000001)) hx hb CX.1.2.2.2.1 (x_hts CX wc_X6_44) dX6_service_13 ?_
    obtain rfl := Option.some.inj h
    exact x_iret CX hr hlk hM rfl dX6_service_15
  · rw [hq1] at h
    replace h := oc_s h
    obtain ⟨hk_r2, h⟩ := ck_h h
    refine W.eq (g2 := F0 m 8 ls [.ref (B + r2)]) rfl ?_
    refine lv_astore_n (lv' := [(2, .ref (B + r2)), (0, .ref (B + k)), (1, .int x1)]) hx hb dX6_service_8 rfl hl (by decide) rfl (fun ls hl => ?_)
    refine lv_aload_n hx hb dX6_service_9 rfl (lv_at hl 0 rfl) ?_
    refine lv_ifnonnull (tgt := 16) hx hb dX6_service_10 (by decide) ?_
    refine lv_aload_n hx hb dX6_service_16 rfl (lv_at hl 1 rfl) ?_
    refine g6_2 CX hM hk_k wf_X6_22 dX6_service_17 ?_
    refine lv_aload_n hx hb dX6_service_20 rfl (lv_at hl 1 rfl) ?_
    refine g6_0 CX hM hk_k wf_X6_10 dX6_service_21 ?_
    obtain ⟨q3, eq3, h⟩ := bd_h h
    refine x_callV (As := [.ref (B + (k + 1))]) CX hM (kdl (kd6_f hk_k).2.2.1 rfl) (ly2 (kd6_f hk_k).2.2.1 _) rfl lk_X6_50 (c_X2_save l E B ((kd6_f hk_k).2.2.1) ((kd6_f hk_k).1) eq3) ⟨rfl, rfl, by decide, by decide⟩ rfl hl.1 rfl (Nat.le_of_ble_eq_true rfl) dX6_service_24 (fun H locs hM => ?_)
    refine W.eq (g2 := F0 m 27 ls []) rfl ?_
    refine lv_aload_n hx hb dX6_service_27 rfl (lv_at hl 0 rfl) ?_
    refine g3_11 CX hM hk_r2 wf_X6_112 dX6_service_28 ?_
    refine lv_topi (fun x3_4 ex3_4 => ?_)
    replace h := nm_h ex3_4 h
    refine lv_istore_n (lv' := [(3, .int x3_4), (2, .ref (B + r2)), (0, .ref (B + k)), (1, .int x1)]) hx hb dX6_service_31 rfl hl (by decide) rfl (fun ls hl => ?_)
    refine lv_aload_n hx hb dX6_service_32 rfl (lv_at hl 1 rfl) ?_
    obtain ⟨q5, eq5, h⟩ := bd_h h
    refine x_callV (As := []) CX hM (kdl hk_r2 rfl) (ly3 hk_r2 _) rfl lk_X6_115 (c_X3_renewContact l E B hk_r2 eq5) ⟨rfl, rfl, by decide, by decide⟩ rfl hl.1 rfl (Nat.le_of_ble_eq_true rfl) dX6_service_33 (fun H locs hM => ?_)
    refine W.eq (g2 := F0 m 36 ls []) rfl ?_
    refine lv_iload_n hx hb dX6_service_36 rfl (lv_at hl 0 rfl) ?_
    obtain rfl := Option.some.inj h
    exact x_iret CX hr hlk hM rfl dX6_service_37
def rm_X6_resetCutout : Jvm.Room := { frames := 4, cells := 0, slots := 0, locals := 93 }
set_option maxHeartbeats 4000000 in
set_option maxRecDepth 100000 in
theorem c_X6_resetCutout (l : Launch) (E : xE) (B : Nat) {k : Nat} {x1 : Int32} {σ : xM} {q : Int32 × xM} (hk_k : kd k = 6) (h : F_X6_resetCutout k x1 σ = some q) : Met l yX6_resetCutout (Cond.code yX6_resetCutout cX6_resetCutout 4 (some .int) :: AL) rm_X6_resetCutout (xP E B 160 (layX E B) [.ref (B + k), .int x1] σ) (xQ E B 160 (layX E B) (some (.int q.1)) q.2) 0 0 (wA B 160) := by
  refine x_met (plainFor_of_name (by decide +kernel)) (Nat.le_of_ble_eq_true rfl) rfl ?_
  intro p e s m below meth c ls CX hr hlk hM hl
  have hx := CX.1.1
  have hb := CX.1.2.1
  unfold F_X6_resetCutout at h
  refine lv_aload_n hx hb dX6_resetCutout_0 rfl (lv_at hl 0 rfl) ?_
  refine g6_0 CX hM hk_k wf_X6_10 dX6_resetCutout_1 ?_
  refine lv_iload_n hx hb dX6_resetCutout_4 rfl (lv_at hl 1 rfl) ?_
  obtain ⟨q1, eq1, h⟩ := bd_h h
  refine x_callV (As := [.int x1]) CX hM (kdl (kd6_f hk_k).1 rfl) (ly1 (kd6_f hk_k).1 _) rfl lk_X6_74 (c_X1_roomAt l E B ((kd6_f hk_k).1) eq1) ⟨rfl, rfl, by decide, by decide⟩ rfl hl.1 rfl (Nat.le_of_ble_eq_true rfl) dX6_resetCutout_5 (fun H locs hM => ?_)
  rcases hq1 : q1.1 with _ | r2
  · rw [hq1] at h
    replace h := oc_n h
    refine W.eq (g2 := F0 m 8 ls [.null]) rfl ?_
    refine lv_astore_nN (lv' := [(2, .null), (0, .ref (B + k)), (1, .int x1)]) hx hb dX6_resetCutout_8 rfl hl (by decide) rfl (fun ls hl => ?_)
    refine lv_aload_nN hx hb dX6_resetCutout_9 rfl (lv_at hl 0 rfl) ?_
    refine lv_ifnonnullN hx hb dX6_resetCutout_10 ?_
    refine lv_ldc (v := (-1000001)) hx hb CX.1.2.2.2.1 (x_hts CX wc_X6_44) dX6_resetCutout_13 ?_
    obtain rfl := Option.some.inj h
    exact x_iret CX hr hlk hM rfl dX6_resetCutout_15
  · rw [hq1] at h
    replace h := oc_s h
    obtain ⟨hk_r2, h⟩ := ck_h h
    refine W.eq (g2 := F0 m 8 ls [.ref (B + r2)]) rfl ?_
    refine lv_astore_n (lv' := [(2, .ref (B + r2)), (0, .ref (B + k)), (1, .int x1)]) hx hb dX6_resetCutout_8 rfl hl (by decide) rfl (fun ls hl => ?_)
    refine lv_aload_n hx hb dX6_resetCutout_9 rfl (lv_at hl 0 rfl) ?_
    refine lv_ifnonnull (tgt := 16) hx hb dX6_resetCutout_10 (by decide) ?_
    refine lv_aload_n hx hb dX6_resetCutout_16 rfl (lv_at hl 0 rfl) ?_
    obtain ⟨q3, eq3, h⟩ := bd_h h
    refine x_callV (As := []) CX hM (kdl hk_r2 rfl) (ly3 hk_r2 _) rfl lk_X6_118 (c_X3_temperature l E B hk_r2 eq3) ⟨rfl, rfl, by decide, by decide⟩ rfl hl.1 rfl (Nat.le_of_ble_eq_true rfl) dX6_resetCutout_17 (fun H locs hM => ?_)
    refine W.eq (g2 := F0 m 20 ls [.int q3.1]) rfl ?_
    refine lv_istore_n (lv' := [(3, .int q3.1), (2, .ref (B + r2)), (0, .ref (B + k)), (1, .int x1)]) hx hb dX6_resetCutout_20 rfl hl (by decide) rfl (fun ls hl => ?_)
    refine lv_aload_n hx hb dX6_resetCutout_21 rfl (lv_at hl 1 rfl) ?_
    refine g3_10 CX hM hk_r2 wf_X6_122 dX6_resetCutout_22 ?_
    refine lv_if_eq (tgt := 40) hx hb dX6_resetCutout_25 (by decide) (fun c4 => ?_) (fun c4 => ?_)
    · replace h := it_h c4 h
      refine lv_ldc (v := (-1000002)) hx hb CX.1.2.2.2.1 (x_hts CX wc_X6_69) dX6_resetCutout_40 ?_
      obtain rfl := Option.some.inj h
      exact x_iret CX hr hlk hM rfl dX6_resetCutout_42
    · replace h := if_h c4 h
      refine lv_iload_n hx hb dX6_resetCutout_28 rfl (lv_at hl 0 rfl) ?_
      refine lv_aload_n hx hb dX6_resetCutout_29 rfl (lv_at hl 2 rfl) ?_
      refine g6_0 CX hM hk_k wf_X6_10 dX6_resetCutout_30 ?_
      refine lv_iconst (v := 5) hx hb dX6_resetCutout_33 (by decide) ?_
      obtain ⟨q5, eq5, h⟩ := bd_h h
      refine x_callV (As := [.int 5]) CX hM (kdl (kd6_f hk_k).1 rfl) (ly1 (kd6_f hk_k).1 _) rfl lk_X6_90 (c_X1_number l E B ((kd6_f hk_k).1) eq5) ⟨rfl, rfl, by decide, by decide⟩ rfl hl.1 rfl (Nat.le_of_ble_eq_true rfl) dX6_resetCutout_34 (fun H locs hM => ?_)
      refine W.eq (g2 := F0 m 37 ls [.int q5.1, .int q3.1]) rfl ?_
      refine lv_icmp_le (tgt := 43) hx hb dX6_resetCutout_37 (by decide) (fun c6 => ?_) (fun c6 => ?_)
      · replace h := it_h c6 h
        refine lv_aload_n hx hb dX6_resetCutout_43 rfl (lv_at hl 2 rfl) ?_
        refine g6_2 CX hM hk_k wf_X6_22 dX6_resetCutout_44 ?_
        refine lv_aload_n hx hb dX6_resetCutout_47 rfl (lv_at hl 2 rfl) ?_
        refine g6_0 CX hM hk_k wf_X6_10 dX6_resetCutout_48 ?_
        obtain ⟨q7, eq7, h⟩ := bd_h h
        refine x_callV (As := [.ref (B + (k + 1))]) CX hM (kdl (kd6_f hk_k).2.2.1 rfl) (ly2 (kd6_f hk_k).2.2.1 _) rfl lk_X6_50 (c_X2_save l E B ((kd6_f hk_k).2.2.1) ((kd6_f hk_k).1) eq7) ⟨rfl, rfl, by decide, by decide⟩ rfl hl.1 rfl (Nat.le_of_ble_eq_true rfl) dX6_resetCutout_51 (fun H locs hM => ?_)
        refine W.eq (g2 := F0 m 54 ls []) rfl ?_
        refine lv_aload_n hx hb dX6_resetCutout_54 rfl (lv_at hl 1 rfl) ?_
        refine lv_iconst (v := 0) hx hb dX6_resetCutout_55 (by decide) ?_
        refine p3_10 (y := 0) CX hM hk_r2 wf_X6_122 dX6_resetCutout_56 (fun H locs σ8 eσ8 hM => ?_)
        replace h := nm_h eσ8 h
        refine lv_iload_n hx hb dX6_resetCutout_59 rfl (lv_at hl 0 rfl) ?_
        obtain rfl := Option.some.inj h
        exact x_iret CX hr hlk hM rfl dX6_resetCutout_60
      · replace h := if_h c6 h
        refine lv_ldc (v := (-1000002)) hx hb CX.1.2.2.2.1 (x_hts CX wc_X6_69) dX6_resetCutout_40 ?_
        obtain rfl := Option.some.inj h
        exact x_iret CX hr hlk hM rfl dX6_resetCutout_42
def rm_X6_room : Jvm.Room := { frames := 4, cells := 0, slots := 0, locals := 84 }
set_option maxHeartbeats 4000000 in
set_option maxRecDepth 100000 in
theorem c_X6_room (l : Launch) (E : xE) (B : Nat) {k : Nat} {x1 : Int32} {x2 : Int32} {σ : xM} {q : Int32 × xM} (hk_k : kd k = 6) (h : F_X6_room k x1 x2 σ = some q) : Met l yX6_room (Cond.code yX6_room cX6_room 4 (some .int) :: AL) rm_X6_room (xP E B 160 (layX E B) [.ref (B + k), .int x1, .int x2] σ) (xQ E B 160 (layX E B) (some (.int q.1)) q.2) 0 0 (wA B 160) := by
  refine x_met (plainFor_of_name (by decide +kernel)) (Nat.le_of_ble_eq_true rfl) rfl ?_
  intro p e s m below meth c ls CX hr hlk hM hl
  have hx := CX.1.1
  have hb := CX.1.2.1
  unfold F_X6_room at h
  refine lv_aload_n hx hb dX6_room_0 rfl (lv_at hl 0 rfl) ?_
  refine g6_0 CX hM hk_k wf_X6_10 dX6_room_1 ?_
  refine lv_iload_n hx hb dX6_room_4 rfl (lv_at hl 1 rfl) ?_
  obtain ⟨q1, eq1, h⟩ := bd_h h
  refine x_callV (As := [.int x1]) CX hM (kdl (kd6_f hk_k).1 rfl) (ly1 (kd6_f hk_k).1 _) rfl lk_X6_74 (c_X1_roomAt l E B ((kd6_f hk_k).1) eq1) ⟨rfl, rfl, by decide, by decide⟩ rfl hl.1 rfl (Nat.le_of_ble_eq_true rfl) dX6_room_5 (fun H locs hM => ?_)
  rcases hq1 : q1.1 with _ | r2
  · rw [hq1] at h
    replace h := oc_n h
    refine W.eq (g2 := F0 m 8 ls [.null]) rfl ?_
    refine lv_astore_nN (lv' := [(3, .null), (0, .ref (B + k)), (1, .int x1), (2, .int x2)]) hx hb dX6_room_8 rfl hl (by decide) rfl (fun ls hl => ?_)
    refine lv_aload_nN hx hb dX6_room_9 rfl (lv_at hl 0 rfl) ?_
    refine lv_ifnonnullN hx hb dX6_room_10 ?_
    refine lv_ldc (v := (-1000001)) hx hb CX.1.2.2.2.1 (x_hts CX wc_X6_44) dX6_room_13 ?_
    refine lv_goto (tgt := 23) hx hb dX6_room_15 (by decide) ?_
    obtain rfl := Option.some.inj h
    exact x_iret CX hr hlk hM rfl dX6_room_23
  · rw [hq1] at h
    replace h := oc_s h
    obtain ⟨hk_r2, h⟩ := ck_h h
    refine W.eq (g2 := F0 m 8 ls [.ref (B + r2)]) rfl ?_
    refine lv_astore_n (lv' := [(3, .ref (B + r2)), (0, .ref (B + k)), (1, .int x1), (2, .int x2)]) hx hb dX6_room_8 rfl hl (by decide) rfl (fun ls hl => ?_)
    refine lv_aload_n hx hb dX6_room_9 rfl (lv_at hl 0 rfl) ?_
    refine lv_ifnonnull (tgt := 18) hx hb dX6_room_10 (by decide) ?_
    refine lv_aload_n hx hb dX6_room_18 rfl (lv_at hl 0 rfl) ?_
    refine lv_iload_n hx hb dX6_room_19 rfl (lv_at hl 3 rfl) ?_
    obtain ⟨q3, eq3, h⟩ := bd_h h
    refine x_callV (As := [.int x2]) CX hM (kdl hk_r2 rfl) (ly3 hk_r2 _) rfl lk_X6_126 (c_X3_property l E B hk_r2 eq3) ⟨rfl, rfl, by decide, by decide⟩ rfl hl.1 rfl (Nat.le_of_ble_eq_true rfl) dX6_room_20 (fun H locs hM => ?_)
    refine W.eq (g2 := F0 m 23 ls [.int q3.1]) rfl ?_
    obtain rfl := Option.some.inj h
    exact x_iret CX hr hlk hM rfl dX6_room_23
def rm_X6_book : Jvm.Room := { frames := 1, cells := 0, slots := 0, locals := 21 }
set_option maxHeartbeats 4000000 in
set_option maxRecDepth 100000 in
theorem c_X6_book (l : Launch) (E : xE) (B : Nat) {k : Nat} {x1 : Int32} {x2 : Int32} {σ : xM} {q : Int32 × xM} (hk_k : kd k = 6) (h : F_X6_book k x1 x2 σ = some q) : Met l yX6_book (Cond.code yX6_book cX6_book 4 (some .int) :: AL) rm_X6_book (xP E B 160 (layX E B) [.ref (B + k), .int x1, .int x2] σ) (xQ E B 160 (layX E B) (some (.int q.1)) q.2) 0 0 (wA B 160) := by
  refine x_met (plainFor_of_name (by decide +kernel)) (Nat.le_of_ble_eq_true rfl) rfl ?_
  intro p e s m below meth c ls CX hr hlk hM hl
  have hx := CX.1.1
  have hb := CX.1.2.1
  unfold F_X6_book at h
  refine lv_aload_n hx hb dX6_book_0 rfl (lv_at hl 0 rfl) ?_
  refine g6_0 CX hM hk_k wf_X6_10 dX6_book_1 ?_
  refine lv_iload_n hx hb dX6_book_4 rfl (lv_at hl 1 rfl) ?_
  obtain ⟨q1, eq1, h⟩ := bd_h h
  refine x_callV (As := [.int x1]) CX hM (kdl (kd6_f hk_k).1 rfl) (ly1 (kd6_f hk_k).1 _) rfl lk_X6_74 (c_X1_roomAt l E B ((kd6_f hk_k).1) eq1) ⟨rfl, rfl, by decide, by decide⟩ rfl hl.1 rfl (Nat.le_of_ble_eq_true rfl) dX6_book_5 (fun H locs hM => ?_)
  rcases hq1 : q1.1 with _ | r2
  · rw [hq1] at h
    replace h := oc_n h
    refine W.eq (g2 := F0 m 8 ls [.null]) rfl ?_
    refine lv_astore_nN (lv' := [(3, .null), (0, .ref (B + k)), (1, .int x1), (2, .int x2)]) hx hb dX6_book_8 rfl hl (by decide) rfl (fun ls hl => ?_)
    refine lv_aload_nN hx hb dX6_book_9 rfl (lv_at hl 0 rfl) ?_
    refine lv_ifnonnullN hx hb dX6_book_10 ?_
    refine lv_ldc (v := (-1000001)) hx hb CX.1.2.2.2.1 (x_hts CX wc_X6_44) dX6_book_13 ?_
    refine lv_goto (tgt := 26) hx hb dX6_book_15 (by decide) ?_
    obtain rfl := Option.some.inj h
    exact x_iret CX hr hlk hM rfl dX6_book_26
  · rw [hq1] at h
    replace h := oc_s h
    obtain ⟨hk_r2, h⟩ := ck_h h
    refine W.eq (g2 := F0 m 8 ls [.ref (B + r2)]) rfl ?_
    refine lv_astore_n (lv' := [(3, .ref (B + r2)), (0, .ref (B + k)), (1, .int x1), (2, .int x2)]) hx hb dX6_book_8 rfl hl (by decide) rfl (fun ls hl => ?_)
    refine lv_aload_n hx hb dX6_book_9 rfl (lv_at hl 0 rfl) ?_
    refine lv_ifnonnull (tgt := 18) hx hb dX6_book_10 (by decide) ?_
    refine lv_aload_n hx hb dX6_book_18 rfl (lv_at hl 0 rfl) ?_
    refine g3_0 CX hM hk_r2 wf_X6_129 dX6_book_19 ?_
    refine lv_iload_n hx hb dX6_book_22 rfl (lv_at hl 3 rfl) ?_
    obtain ⟨q3, eq3, h⟩ := bd_h h
    refine x_callV (As := [.int x2]) CX hM (kdl (kd3_f hk_r2) rfl) (ly0 (kd3_f hk_r2) _) rfl lk_X6_133 (c_X0_sum l E B (kd3_f hk_r2) eq3) ⟨rfl, rfl, by decide, by decide⟩ rfl hl.1 rfl (Nat.le_of_ble_eq_true rfl) dX6_book_23 (fun H locs hM => ?_)
    refine W.eq (g2 := F0 m 26 ls [.int q3.1]) rfl ?_
    obtain rfl := Option.some.inj h
    exact x_iret CX hr hlk hM rfl dX6_book_26
def rm_X6_link : Jvm.Room := { frames := 2, cells := 0, slots := 0, locals := 44 }
set_option maxHeartbeats 4000000 in
set_option maxRecDepth 100000 in
theorem c_X6_link (l : Launch) (E : xE) (B : Nat) {k : Nat} {x1 : Int32} {x2 : Int32} {σ : xM} {q : Int32 × xM} (hk_k : kd k = 6) (h : F_X6_link k x1 x2 σ = some q) : Met l yX6_link (Cond.code yX6_link cX6_link 3 (some .int) :: AL) rm_X6_link (xP E B 160 (layX E B) [.ref (B + k), .int x1, .int x2] σ) (xQ E B 160 (layX E B) (some (.int q.1)) q.2) 0 0 (wA B 160) := by
  refine x_met (plainFor_of_name (by decide +kernel)) (Nat.le_of_ble_eq_true rfl) rfl ?_
  intro p e s m below meth c ls CX hr hlk hM hl
  have hx := CX.1.1
  have hb := CX.1.2.1
  unfold F_X6_link at h
  refine lv_aload_n hx hb dX6_link_0 rfl (lv_at hl 0 rfl) ?_
  refine g6_0 CX hM hk_k wf_X6_10 dX6_link_1 ?_
  refine lv_iload_n hx hb dX6_link_4 rfl (lv_at hl 1 rfl) ?_
  refine lv_iload_n hx hb dX6_link_5 rfl (lv_at hl 2 rfl) ?_
  obtain ⟨q1, eq1, h⟩ := bd_h h
  refine x_callV (As := [.int x1, .int x2]) CX hM (kdl (kd6_f hk_k).1 rfl) (ly1 (kd6_f hk_k).1 _) rfl lk_X6_58 (c_X1_hasPair l E B ((kd6_f hk_k).1) eq1) ⟨rfl, rfl, by decide, by decide⟩ rfl hl.1 rfl (Nat.le_of_ble_eq_true rfl) dX6_link_6 (fun H locs hM => ?_)
  refine W.eq (g2 := F0 m 9 ls [.int (bz q1.1)]) rfl ?_
  refine lv_if_eq (tgt := 24) hx hb dX6_link_9 (by decide) (fun c2 => ?_) (fun c2 => ?_)
  · replace h := it_h c2 h
    refine lv_ldc (v := (-1000001)) hx hb CX.1.2.2.2.1 (x_hts CX wc_X6_44) dX6_link_24 ?_
    obtain rfl := Option.some.inj h
    exact x_iret CX hr hlk hM rfl dX6_link_26
  · replace h := if_h c2 h
    refine lv_aload_n hx hb dX6_link_12 rfl (lv_at hl 0 rfl) ?_
    refine g6_0 CX hM hk_k wf_X6_10 dX6_link_13 ?_
    refine lv_iload_n hx hb dX6_link_16 rfl (lv_at hl 1 rfl) ?_
    refine lv_iload_n hx hb dX6_link_17 rfl (lv_at hl 2 rfl) ?_
    obtain ⟨q3, eq3, h⟩ := bd_h h
    refine x_callV (As := [.int x1, .int x2]) CX hM (kdl (kd6_f hk_k).1 rfl) (ly1 (kd6_f hk_k).1 _) rfl lk_X6_62 (c_X1_linkOf l E B ((kd6_f hk_k).1) eq3) ⟨rfl, rfl, by decide, by decide⟩ rfl hl.1 rfl (Nat.le_of_ble_eq_true rfl) dX6_link_18 (fun H locs hM => ?_)
    refine W.eq (g2 := F0 m 21 ls [.int q3.1]) rfl ?_
    refine lv_goto (tgt := 26) hx hb dX6_link_21 (by decide) ?_
    obtain rfl := Option.some.inj h
    exact x_iret CX hr hlk hM rfl dX6_link_26
def rm_X6_count : Jvm.Room := { frames := 3, cells := 0, slots := 0, locals := 65 }
set_option maxHeartbeats 4000000 in
set_option maxRecDepth 100000 in
theorem c_X6_count (l : Launch) (E : xE) (B : Nat) {k : Nat} {x1 : Int32} {σ : xM} {q : Int32 × xM} (hk_k : kd k = 6) (h : F_X6_count k x1 σ = some q) : Met l yX6_count (Cond.code yX6_count cX6_count 2 (some .int) :: AL) rm_X6_count (xP E B 160 (layX E B) [.ref (B + k), .int x1] σ) (xQ E B 160 (layX E B) (some (.int q.1)) q.2) 0 0 (wA B 160) := by
  refine x_met (plainFor_of_name (by decide +kernel)) (Nat.le_of_ble_eq_true rfl) rfl ?_
  intro p e s m below meth c ls CX hr hlk hM hl
  have hx := CX.1.1
  have hb := CX.1.2.1
  unfold F_X6_count at h
  refine lv_iload_n hx hb dX6_count_0 rfl (lv_at hl 1 rfl) ?_
  refine lv_iconst (v := 0) hx hb dX6_count_1 (by decide) ?_
  refine lv_bipush (v := 6) hx hb dX6_count_2 (by decide) ?_
  obtain ⟨q1, eq1, h⟩ := bd_h h
  refine x_callS (As := [.int x1, .int 0, .int 6]) CX hM lk_X6_40 (c_X6_within l E B  eq1) ⟨rfl, rfl, by decide, by decide⟩ rfl hl.1 rfl (Nat.le_of_ble_eq_true rfl) dX6_count_4 (fun H locs hM => ?_)
  refine W.eq (g2 := F0 m 7 ls [.int (bz q1.1)]) rfl ?_
  refine lv_if_eq (tgt := 19) hx hb dX6_count_7 (by decide) (fun c2 => ?_) (fun c2 => ?_)
  · replace h := it_h c2 h
    refine lv_iload_n hx hb dX6_count_19 rfl (lv_at hl 1 rfl) ?_
    by_cases c3 : x1 = 7
    · replace h := it_h c3 h
      refine lv_tableIn (off := 44) (tgt := 64) hx hb dX6_count_20 (by rw [c3]; decide) (by rw [c3]; decide) (by rw [c3]; decide) (by decide) ?_
      refine lv_aload_n hx hb dX6_count_64 rfl (lv_at hl 0 rfl) ?_
      refine g6_0 CX hM hk_k wf_X6_10 dX6_count_65 ?_
      refine g1_4 CX hM (kd6_f hk_k).1 wf_X6_45 dX6_count_68 ?_
      obtain rfl := Option.some.inj h
      exact x_iret CX hr hlk hM rfl dX6_count_71
    · replace h := if_h c3 h
      by_cases c4 : x1 = 8
      · replace h := it_h c4 h
        refine lv_tableIn (off := 52) (tgt := 72) hx hb dX6_count_20 (by rw [c4]; decide) (by rw [c4]; decide) (by rw [c4]; decide) (by decide) ?_
        refine lv_aload_n hx hb dX6_count_72 rfl (lv_at hl 0 rfl) ?_
        refine g6_0 CX hM hk_k wf_X6_10 dX6_count_73 ?_
        refine g1_5 CX hM (kd6_f hk_k).1 wf_X6_138 dX6_count_76 ?_
        obtain rfl := Option.some.inj h
        exact x_iret CX hr hlk hM rfl dX6_count_79
      · replace h := if_h c4 h
        by_cases c5 : x1 = 9
        · replace h := it_h c5 h
          refine lv_tableIn (off := 60) (tgt := 80) hx hb dX6_count_20 (by rw [c5]; decide) (by rw [c5]; decide) (by rw [c5]; decide) (by decide) ?_
          refine lv_aload_n hx hb dX6_count_80 rfl (lv_at hl 0 rfl) ?_
          refine g6_0 CX hM hk_k wf_X6_10 dX6_count_81 ?_
          refine g1_3 CX hM (kd6_f hk_k).1 wf_X6_141 dX6_count_84 ?_
          refine g4_2 CX hM (kd1_f (kd6_f hk_k).1).2.2.2 wf_X6_144 dX6_count_87 ?_
          obtain rfl := Option.some.inj h
          exact x_iret CX hr hlk hM rfl dX6_count_90
        · replace h := if_h c5 h
          by_cases c6 : x1 = 10
          · replace h := it_h c6 h
            refine lv_tableIn (off := 71) (tgt := 91) hx hb dX6_count_20 (by rw [c6]; decide) (by rw [c6]; decide) (by rw [c6]; decide) (by decide) ?_
            refine lv_aload_n hx hb dX6_count_91 rfl (lv_at hl 0 rfl) ?_
            refine g6_0 CX hM hk_k wf_X6_10 dX6_count_92 ?_
            obtain ⟨q7, eq7, h⟩ := bd_h h
            refine x_callV (As := []) CX hM (kdl (kd6_f hk_k).1 rfl) (ly1 (kd6_f hk_k).1 _) rfl lk_X6_147 (c_X1_suspectRooms l E B ((kd6_f hk_k).1) eq7) ⟨rfl, rfl, by decide, by decide⟩ rfl hl.1 rfl (Nat.le_of_ble_eq_true rfl) dX6_count_95 (fun H locs hM => ?_)
            refine W.eq (g2 := F0 m 98 ls [.int q7.1]) rfl ?_
            obtain rfl := Option.some.inj h
            exact x_iret CX hr hlk hM rfl dX6_count_98
          · replace h := if_h c6 h
            by_cases c8 : x1 = 11
            · replace h := it_h c8 h
              refine lv_tableIn (off := 79) (tgt := 99) hx hb dX6_count_20 (by rw [c8]; decide) (by rw [c8]; decide) (by rw [c8]; decide) (by decide) ?_
              refine lv_aload_n hx hb dX6_count_99 rfl (lv_at hl 0 rfl) ?_
              refine g6_0 CX hM hk_k wf_X6_10 dX6_count_100 ?_
              obtain ⟨q9, eq9, h⟩ := bd_h h
              refine x_callV (As := []) CX hM (kdl (kd6_f hk_k).1 rfl) (ly1 (kd6_f hk_k).1 _) rfl lk_X6_150 (c_X1_allFines l E B ((kd6_f hk_k).1) eq9) ⟨rfl, rfl, by decide, by decide⟩ rfl hl.1 rfl (Nat.le_of_ble_eq_true rfl) dX6_count_103 (fun H locs hM => ?_)
              refine W.eq (g2 := F0 m 106 ls [.int q9.1]) rfl ?_
              obtain rfl := Option.some.inj h
              exact x_iret CX hr hlk hM rfl dX6_count_106
            · replace h := if_h c8 h
              by_cases c10 : x1 = 12
              · replace h := it_h c10 h
                refine lv_tableIn (off := 87) (tgt := 107) hx hb dX6_count_20 (by rw [c10]; decide) (by rw [c10]; decide) (by rw [c10]; decide) (by decide) ?_
                refine lv_aload_n hx hb dX6_count_107 rfl (lv_at hl 0 rfl) ?_
                refine g6_3 CX hM hk_k wf_X6_29 dX6_count_108 ?_
                refine g5_1 CX hM (kd6_f hk_k).2.2.2.1 wf_X6_153 dX6_count_111 ?_
                obtain rfl := Option.some.inj h
                exact x_iret CX hr hlk hM rfl dX6_count_114
              · replace h := if_h c10 h
                by_cases c11 : x1 = 13
                · replace h := it_h c11 h
                  refine lv_tableIn (off := 95) (tgt := 115) hx hb dX6_count_20 (by rw [c11]; decide) (by rw [c11]; decide) (by rw [c11]; decide) (by decide) ?_
                  refine lv_aload_n hx hb dX6_count_115 rfl (lv_at hl 0 rfl) ?_
                  refine g6_2 CX hM hk_k wf_X6_22 dX6_count_116 ?_
                  refine g2_2 CX hM (kd6_f hk_k).2.2.1 wf_X6_156 dX6_count_119 ?_
                  obtain rfl := Option.some.inj h
                  exact x_iret CX hr hlk hM rfl dX6_count_122
                · replace h := if_h c11 h
                  refine lv_tableOut (tgt := 123) hx hb dX6_count_20 (tsw_out [7, 8, 9, 10, 11, 12, 13] (by decide) (by decide) (List.forall_mem_cons.mpr ⟨c3, (List.forall_mem_cons.mpr ⟨c4, (List.forall_mem_cons.mpr ⟨c5, (List.forall_mem_cons.mpr ⟨c6, (List.forall_mem_cons.mpr ⟨c8, (List.forall_mem_cons.mpr ⟨c10, (List.forall_mem_cons.mpr ⟨c11, (fun _ h => absurd h List.not_mem_nil)⟩)⟩)⟩)⟩)⟩)⟩)⟩)) (by decide) ?_
                  refine lv_ldc (v := (-1000001)) hx hb CX.1.2.2.2.1 (x_hts CX wc_X6_44) dX6_count_123 ?_
                  obtain rfl := Option.some.inj h
                  exact x_iret CX hr hlk hM rfl dX6_count_125
  · replace h := if_h c2 h
    refine lv_aload_n hx hb dX6_count_10 rfl (lv_at hl 0 rfl) ?_
    refine g6_0 CX hM hk_k wf_X6_10 dX6_count_11 ?_
    refine lv_iload_n hx hb dX6_count_14 rfl (lv_at hl 1 rfl) ?_
    obtain ⟨q12, eq12, h⟩ := bd_h h
    refine x_callV (As := [.int x1]) CX hM (kdl (kd6_f hk_k).1 rfl) (ly1 (kd6_f hk_k).1 _) rfl lk_X6_90 (c_X1_number l E B ((kd6_f hk_k).1) eq12) ⟨rfl, rfl, by decide, by decide⟩ rfl hl.1 rfl (Nat.le_of_ble_eq_true rfl) dX6_count_15 (fun H locs hM => ?_)
    refine W.eq (g2 := F0 m 18 ls [.int q12.1]) rfl ?_
    obtain rfl := Option.some.inj h
    exact x_iret CX hr hlk hM rfl dX6_count_18
def rm_X6_pass : Jvm.Room := { frames := 7, cells := 0, slots := 0, locals := 154 }
set_option maxHeartbeats 4000000 in
set_option maxRecDepth 100000 in
theorem c_X6_pass (l : Launch) (E : xE) (B : Nat) {k : Nat} {x1 : Int32} {σ : xM} {q : Int32 × xM} (hk_k : kd k = 6) (h : F_X6_pass k x1 σ = some q) : Met l yX6_pass (Cond.code yX6_pass cX6_pass 2 (some .int) :: AL) rm_X6_pass (xP E B 160 (layX E B) [.ref (B + k), .int x1] σ) (xQ E B 160 (layX E B) (some (.int q.1)) q.2) 0 0 (wA B 160) := by
  refine x_met (plainFor_of_name (by decide +kernel)) (Nat.le_of_ble_eq_true rfl) rfl ?_
  intro p e s m below meth c ls CX hr hlk hM hl
  have hx := CX.1.1
  have hb := CX.1.2.1
  unfold F_X6_pass at h
  refine lv_iload_n hx hb dX6_pass_0 rfl (lv_at hl 1 rfl) ?_
  refine lv_iconst (v := 1) hx hb dX6_pass_1 (by decide) ?_
  refine lv_sipush (v := 500) hx hb dX6_pass_2 (by decide) ?_
  obtain ⟨q1, eq1, h⟩ := bd_h h
  refine x_callS (As := [.int x1, .int 1, .int 500]) CX hM lk_X6_40 (c_X6_within l E B  eq1) ⟨rfl, rfl, by decide, by decide⟩ rfl hl.1 rfl (Nat.le_of_ble_eq_true rfl) dX6_pass_5 (fun H locs hM => ?_)
  refine W.eq (g2 := F0 m 8 ls [.int (bz q1.1)]) rfl ?_
  refine lv_if_ne (tgt := 14) hx hb dX6_pass_8 (by decide) (fun c2 => ?_) (fun c2 => ?_)
  · replace h := if_h c2 h
    refine lv_aload_n hx hb dX6_pass_14 rfl (lv_at hl 0 rfl) ?_
    refine g6_0 CX hM hk_k wf_X6_10 dX6_pass_15 ?_
    refine g1_4 CX hM (kd6_f hk_k).1 wf_X6_45 dX6_pass_18 ?_
    refine lv_if_ne (tgt := 27) hx hb dX6_pass_21 (by decide) (fun c3 => ?_) (fun c3 => ?_)
    · replace h := if_h c3 h
      refine lv_iload_n hx hb dX6_pass_27 rfl (lv_at hl 1 rfl) ?_
      refine lv_sipush (v := 20000) hx hb dX6_pass_28 (by decide) ?_
      refine lv_aload_n hx hb dX6_pass_31 rfl (lv_at hl 0 rfl) ?_
      refine g6_0 CX hM hk_k wf_X6_10 dX6_pass_32 ?_
      refine g1_5 CX hM (kd6_f hk_k).1 wf_X6_138 dX6_pass_35 ?_
      refine lv_isub hx hb dX6_pass_38 ?_
      refine lv_icmp_le (tgt := 45) hx hb dX6_pass_39 (by decide) (fun c4 => ?_) (fun c4 => ?_)
      · replace h := it_h c4 h
        refine lv_aload_n hx hb dX6_pass_45 rfl (lv_at hl 0 rfl) ?_
        refine g6_2 CX hM hk_k wf_X6_22 dX6_pass_46 ?_
        refine lv_aload_n hx hb dX6_pass_49 rfl (lv_at hl 0 rfl) ?_
        refine g6_0 CX hM hk_k wf_X6_10 dX6_pass_50 ?_
        obtain ⟨q5, eq5, h⟩ := bd_h h
        refine x_callV (As := [.ref (B + (k + 1))]) CX hM (kdl (kd6_f hk_k).2.2.1 rfl) (ly2 (kd6_f hk_k).2.2.1 _) rfl lk_X6_50 (c_X2_save l E B ((kd6_f hk_k).2.2.1) ((kd6_f hk_k).1) eq5) ⟨rfl, rfl, by decide, by decide⟩ rfl hl.1 rfl (Nat.le_of_ble_eq_true rfl) dX6_pass_53 (fun H locs hM => ?_)
        refine W.eq (g2 := F0 m 56 ls []) rfl ?_
        refine lv_aload_n hx hb dX6_pass_56 rfl (lv_at hl 0 rfl) ?_
        refine g6_0 CX hM hk_k wf_X6_10 dX6_pass_57 ?_
        refine lv_iload_n hx hb dX6_pass_60 rfl (lv_at hl 1 rfl) ?_
        obtain ⟨q6, eq6, h⟩ := bd_h h
        refine x_callV (As := [.int x1]) CX hM (kdl (kd6_f hk_k).1 rfl) (ly1 (kd6_f hk_k).1 _) rfl lk_X6_172 (c_X1_passMinutes l E B ((kd6_f hk_k).1) eq6) ⟨rfl, rfl, by decide, by decide⟩ rfl hl.1 rfl (Nat.le_of_ble_eq_true rfl) dX6_pass_61 (fun H locs hM => ?_)
        refine W.eq (g2 := F0 m 64 ls [.int q6.1]) rfl ?_
        obtain rfl := Option.some.inj h
        exact x_iret CX hr hlk hM rfl dX6_pass_64
      · replace h := if_h c4 h
        refine lv_ldc (v := (-1000003)) hx hb CX.1.2.2.2.1 (x_hts CX wc_X6_49) dX6_pass_42 ?_
        obtain rfl := Option.some.inj h
        exact x_iret CX hr hlk hM rfl dX6_pass_44
    · replace h := it_h c3 h
      refine lv_ldc (v := (-1000002)) hx hb CX.1.2.2.2.1 (x_hts CX wc_X6_69) dX6_pass_24 ?_
      obtain rfl := Option.some.inj h
      exact x_iret CX hr hlk hM rfl dX6_pass_26
  · replace h := it_h c2 h
    refine lv_ldc (v := (-1000001)) hx hb CX.1.2.2.2.1 (x_hts CX wc_X6_44) dX6_pass_11 ?_
    obtain rfl := Option.some.inj h
    exact x_iret CX hr hlk hM rfl dX6_pass_13
end
section
def rm_X6_minutesToSuspect : Jvm.Room := { frames := 6, cells := 0, slots := 0, locals := 131 }
set_option maxHeartbeats 4000000 in
set_option maxRecDepth 100000 in
theorem c_X6_minutesToSuspect (l : Launch) (E : xE) (B : Nat) {k : Nat} {x1 : Int32} {σ : xM} {q : Int32 × xM} (hk_k : kd k = 6) (h : F_X6_minutesToSuspect k x1 σ = some q) : Met l yX6_minutesToSuspect (Cond.code yX6_minutesToSuspect cX6_minutesToSuspect 4 (some .int) :: AL) rm_X6_minutesToSuspect (xP E B 160 (layX E B) [.ref (B + k), .int x1] σ) (xQ E B 160 (layX E B) (some (.int q.1)) q.2) 0 0 (wA B 160) := by
  refine x_met (plainFor_of_name (by decide +kernel)) (Nat.le_of_ble_eq_true rfl) rfl ?_
  intro p e s m below meth c ls CX hr hlk hM hl
  have hx := CX.1.1
  have hb := CX.1.2.1
  unfold F_X6_minutesToSuspect at h
  have L29 : ∀ (N : Nat) (u2 : Nat) (v3 : Int32) (σ : xM), kd u2 = 3 → ∀ (H : Heap) (locs : List Loc) (ls : Array Slot), xS E B 160 (layX E B) s σ H locs → lv_has ls 4 [(0, .ref (B + k)), (2, .ref (B + u2)), (3, .int v3)] → F_X6_minutesToSuspect_L29 k N u2 v3 σ = some q → W p l e rm_X6_minutesToSuspect s m ([.ref (B + k), .int x1] : List Value).toArray below meth c H locs 0 0 (MQ below (xQ E B 160 (layX E B) (some (.int q.1)) q.2) ([.ref (B + k), .int x1] : List Value).toArray s 0 0 (wA B 160)) (F0 m 29 ls []) := by
    clear hM hl h
    intro N
    induction N with
    | zero =>
      intro u2 v3 σ hk_u2 H locs ls hM hl h
      cases h
    | succ N ih =>
      intro u2 v3 σ hk_u2 H locs ls hM hl h
      rw [F_X6_minutesToSuspect_L29] at h
      refine lv_iload_n hx hb dX6_minutesToSuspect_29 rfl (lv_at hl 2 rfl) ?_
      refine lv_sipush (v := 1000) hx hb dX6_minutesToSuspect_30 (by decide) ?_
      refine lv_icmp_ge (tgt := 63) hx hb dX6_minutesToSuspect_33 (by decide) (fun c4 => ?_) (fun c4 => ?_)
      · replace h := it_h c4 h
        refine lv_aload_n hx hb dX6_minutesToSuspect_63 rfl (lv_at hl 0 rfl) ?_
        refine g6_1 CX hM hk_k wf_X6_16 dX6_minutesToSuspect_64 ?_
        refine lv_aload_n hx hb dX6_minutesToSuspect_67 rfl (lv_at hl 1 rfl) ?_
        obtain ⟨q5, eq5, h⟩ := bd_h h
        refine x_callV (As := [.ref (B + u2)]) CX hM (kdl (kd6_f hk_k).2.1 rfl) (ly1 (kd6_f hk_k).2.1 _) rfl lk_X6_177 (c_X1_isSuspect l E B ((kd6_f hk_k).2.1) hk_u2 eq5) ⟨rfl, rfl, by decide, by decide⟩ rfl hl.1 rfl (Nat.le_of_ble_eq_true rfl) dX6_minutesToSuspect_68 (fun H locs hM => ?_)
        refine W.eq (g2 := F0 m 71 ls [.int (bz q5.1)]) rfl ?_
        refine lv_if_eq (tgt := 80) hx hb dX6_minutesToSuspect_71 (by decide) (fun c6 => ?_) (fun c6 => ?_)
        · replace h := it_h c6 h
          refine lv_ldc (v := (-1000009)) hx hb CX.1.2.2.2.1 (x_hts CX wc_X6_184) dX6_minutesToSuspect_80 ?_
          obtain rfl := Option.some.inj h
          exact x_iret CX hr hlk hM rfl dX6_minutesToSuspect_82
        · replace h := if_h c6 h
          refine lv_sipush (v := 1000) hx hb dX6_minutesToSuspect_74 (by decide) ?_
          refine lv_goto (tgt := 82) hx hb dX6_minutesToSuspect_77 (by decide) ?_
          obtain rfl := Option.some.inj h
          exact x_iret CX hr hlk hM rfl dX6_minutesToSuspect_82
      · replace h := if_h c4 h
        refine lv_aload_n hx hb dX6_minutesToSuspect_36 rfl (lv_at hl 0 rfl) ?_
        refine g6_1 CX hM hk_k wf_X6_16 dX6_minutesToSuspect_37 ?_
        refine lv_aload_n hx hb dX6_minutesToSuspect_40 rfl (lv_at hl 1 rfl) ?_
        obtain ⟨q7, eq7, h⟩ := bd_h h
        refine x_callV (As := [.ref (B + u2)]) CX hM (kdl (kd6_f hk_k).2.1 rfl) (ly1 (kd6_f hk_k).2.1 _) rfl lk_X6_177 (c_X1_isSuspect l E B ((kd6_f hk_k).2.1) hk_u2 eq7) ⟨rfl, rfl, by decide, by decide⟩ rfl hl.1 rfl (Nat.le_of_ble_eq_true rfl) dX6_minutesToSuspect_41 (fun H locs hM => ?_)
        refine W.eq (g2 := F0 m 44 ls [.int (bz q7.1)]) rfl ?_
        refine lv_if_eq (tgt := 49) hx hb dX6_minutesToSuspect_44 (by decide) (fun c8 => ?_) (fun c8 => ?_)
        · replace h := it_h c8 h
          refine lv_aload_n hx hb dX6_minutesToSuspect_49 rfl (lv_at hl 0 rfl) ?_
          refine g6_1 CX hM hk_k wf_X6_16 dX6_minutesToSuspect_50 ?_
          obtain ⟨q9, eq9, h⟩ := bd_h h
          refine x_callV (As := []) CX hM (kdl (kd6_f hk_k).2.1 rfl) (ly1 (kd6_f hk_k).2.1 _) rfl lk_X6_181 (c_X1_passMinute l E B ((kd6_f hk_k).2.1) eq9) ⟨rfl, rfl, by decide, by decide⟩ rfl hl.1 rfl (Nat.le_of_ble_eq_true rfl) dX6_minutesToSuspect_53 (fun H locs hM => ?_)
          refine W.eq (g2 := F0 m 56 ls [.int q9.1]) rfl ?_
          refine lv_pop hx hb dX6_minutesToSuspect_56 rfl ?_
          refine lv_iinc (v := (v3 + 1)) (lv' := [(3, .int (v3 + 1)), (0, .ref (B + k)), (2, .ref (B + u2))]) hx hb dX6_minutesToSuspect_57 hl (k := 2) rfl rfl (by decide) rfl (fun ls hl => ?_)
          refine lv_goto (tgt := 29) hx hb dX6_minutesToSuspect_60 (by decide) ?_
          exact ih _ _ _ hk_u2 _ _ _ hM (lv_sub hl [1, 2, 0] rfl) h
        · replace h := if_h c8 h
          refine lv_iload_n hx hb dX6_minutesToSuspect_47 rfl (lv_at hl 2 rfl) ?_
          obtain rfl := Option.some.inj h
          exact x_iret CX hr hlk hM rfl dX6_minutesToSuspect_48
  refine lv_aload_n hx hb dX6_minutesToSuspect_0 rfl (lv_at hl 0 rfl) ?_
  refine g6_1 CX hM hk_k wf_X6_16 dX6_minutesToSuspect_1 ?_
  refine lv_aload_n hx hb dX6_minutesToSuspect_4 rfl (lv_at hl 0 rfl) ?_
  refine g6_0 CX hM hk_k wf_X6_10 dX6_minutesToSuspect_5 ?_
  obtain ⟨q1, eq1, h⟩ := bd_h h
  refine x_callV (As := [.ref (B + (k + 1))]) CX hM (kdl (kd6_f hk_k).2.1 rfl) (ly1 (kd6_f hk_k).2.1 _) rfl lk_X6_175 (c_X1_copyFrom l E B ((kd6_f hk_k).2.1) ((kd6_f hk_k).1) eq1) ⟨rfl, rfl, by decide, by decide⟩ rfl hl.1 rfl (Nat.le_of_ble_eq_true rfl) dX6_minutesToSuspect_8 (fun H locs hM => ?_)
  refine W.eq (g2 := F0 m 11 ls []) rfl ?_
  refine lv_aload_n hx hb dX6_minutesToSuspect_11 rfl (lv_at hl 0 rfl) ?_
  refine g6_1 CX hM hk_k wf_X6_16 dX6_minutesToSuspect_12 ?_
  refine lv_iload_n hx hb dX6_minutesToSuspect_15 rfl (lv_at hl 1 rfl) ?_
  obtain ⟨q2, eq2, h⟩ := bd_h h
  refine x_callV (As := [.int x1]) CX hM (kdl (kd6_f hk_k).2.1 rfl) (ly1 (kd6_f hk_k).2.1 _) rfl lk_X6_74 (c_X1_roomAt l E B ((kd6_f hk_k).2.1) eq2) ⟨rfl, rfl, by decide, by decide⟩ rfl hl.1 rfl (Nat.le_of_ble_eq_true rfl) dX6_minutesToSuspect_16 (fun H locs hM => ?_)
  rcases hq2 : q2.1 with _ | r3
  · rw [hq2] at h
    replace h := oc_n h
    refine W.eq (g2 := F0 m 19 ls [.null]) rfl ?_
    refine lv_astore_nN (lv' := [(2, .null), (0, .ref (B + k)), (1, .int x1)]) hx hb dX6_minutesToSuspect_19 rfl hl (by decide) rfl (fun ls hl => ?_)
    refine lv_aload_nN hx hb dX6_minutesToSuspect_20 rfl (lv_at hl 0 rfl) ?_
    refine lv_ifnonnullN hx hb dX6_minutesToSuspect_21 ?_
    refine lv_ldc (v := (-1000001)) hx hb CX.1.2.2.2.1 (x_hts CX wc_X6_44) dX6_minutesToSuspect_24 ?_
    obtain rfl := Option.some.inj h
    exact x_iret CX hr hlk hM rfl dX6_minutesToSuspect_26
  · rw [hq2] at h
    replace h := oc_s h
    obtain ⟨hk_r3, h⟩ := ck_h h
    refine W.eq (g2 := F0 m 19 ls [.ref (B + r3)]) rfl ?_
    refine lv_astore_n (lv' := [(2, .ref (B + r3)), (0, .ref (B + k)), (1, .int x1)]) hx hb dX6_minutesToSuspect_19 rfl hl (by decide) rfl (fun ls hl => ?_)
    refine lv_aload_n hx hb dX6_minutesToSuspect_20 rfl (lv_at hl 0 rfl) ?_
    refine lv_ifnonnull (tgt := 27) hx hb dX6_minutesToSuspect_21 (by decide) ?_
    refine lv_iconst (v := 0) hx hb dX6_minutesToSuspect_27 (by decide) ?_
    refine lv_istore_n (lv' := [(3, .int 0), (2, .ref (B + r3)), (0, .ref (B + k)), (1, .int x1)]) hx hb dX6_minutesToSuspect_28 rfl hl (by decide) rfl (fun ls hl => ?_)
    exact L29 _ _ _ _ hk_r3 _ _ _ hM (lv_sub hl [2, 1, 0] rfl) h
def rm_X6_heatIn : Jvm.Room := { frames := 7, cells := 0, slots := 0, locals := 154 }
set_option maxHeartbeats 4000000 in
set_option maxRecDepth 100000 in
theorem c_X6_heatIn (l : Launch) (E : xE) (B : Nat) {k : Nat} {x1 : Int32} {σ : xM} {q : Int32 × xM} (hk_k : kd k = 6) (h : F_X6_heatIn k x1 σ = some q) : Met l yX6_heatIn (Cond.code yX6_heatIn cX6_heatIn 2 (some .int) :: AL) rm_X6_heatIn (xP E B 160 (layX E B) [.ref (B + k), .int x1] σ) (xQ E B 160 (layX E B) (some (.int q.1)) q.2) 0 0 (wA B 160) := by
  refine x_met (plainFor_of_name (by decide +kernel)) (Nat.le_of_ble_eq_true rfl) rfl ?_
  intro p e s m below meth c ls CX hr hlk hM hl
  have hx := CX.1.1
  have hb := CX.1.2.1
  unfold F_X6_heatIn at h
  refine lv_iload_n hx hb dX6_heatIn_0 rfl (lv_at hl 1 rfl) ?_
  refine lv_iconst (v := 1) hx hb dX6_heatIn_1 (by decide) ?_
  refine lv_sipush (v := 1000) hx hb dX6_heatIn_2 (by decide) ?_
  obtain ⟨q1, eq1, h⟩ := bd_h h
  refine x_callS (As := [.int x1, .int 1, .int 1000]) CX hM lk_X6_40 (c_X6_within l E B  eq1) ⟨rfl, rfl, by decide, by decide⟩ rfl hl.1 rfl (Nat.le_of_ble_eq_true rfl) dX6_heatIn_5 (fun H locs hM => ?_)
  refine W.eq (g2 := F0 m 8 ls [.int (bz q1.1)]) rfl ?_
  refine lv_if_ne (tgt := 14) hx hb dX6_heatIn_8 (by decide) (fun c2 => ?_) (fun c2 => ?_)
  · replace h := if_h c2 h
    refine lv_aload_n hx hb dX6_heatIn_14 rfl (lv_at hl 0 rfl) ?_
    refine g6_1 CX hM hk_k wf_X6_16 dX6_heatIn_15 ?_
    refine lv_aload_n hx hb dX6_heatIn_18 rfl (lv_at hl 0 rfl) ?_
    refine g6_0 CX hM hk_k wf_X6_10 dX6_heatIn_19 ?_
    obtain ⟨q3, eq3, h⟩ := bd_h h
    refine x_callV (As := [.ref (B + (k + 1))]) CX hM (kdl (kd6_f hk_k).2.1 rfl) (ly1 (kd6_f hk_k).2.1 _) rfl lk_X6_175 (c_X1_copyFrom l E B ((kd6_f hk_k).2.1) ((kd6_f hk_k).1) eq3) ⟨rfl, rfl, by decide, by decide⟩ rfl hl.1 rfl (Nat.le_of_ble_eq_true rfl) dX6_heatIn_22 (fun H locs hM => ?_)
    refine W.eq (g2 := F0 m 25 ls []) rfl ?_
    refine lv_aload_n hx hb dX6_heatIn_25 rfl (lv_at hl 0 rfl) ?_
    refine g6_1 CX hM hk_k wf_X6_16 dX6_heatIn_26 ?_
    refine lv_iload_n hx hb dX6_heatIn_29 rfl (lv_at hl 1 rfl) ?_
    obtain ⟨q4, eq4, h⟩ := bd_h h
    refine x_callV (As := [.int x1]) CX hM (kdl (kd6_f hk_k).2.1 rfl) (ly1 (kd6_f hk_k).2.1 _) rfl lk_X6_172 (c_X1_passMinutes l E B ((kd6_f hk_k).2.1) eq4) ⟨rfl, rfl, by decide, by decide⟩ rfl hl.1 rfl (Nat.le_of_ble_eq_true rfl) dX6_heatIn_30 (fun H locs hM => ?_)
    refine W.eq (g2 := F0 m 33 ls [.int q4.1]) rfl ?_
    refine lv_pop hx hb dX6_heatIn_33 rfl ?_
    refine lv_aload_n hx hb dX6_heatIn_34 rfl (lv_at hl 0 rfl) ?_
    refine g6_1 CX hM hk_k wf_X6_16 dX6_heatIn_35 ?_
    obtain ⟨q5, eq5, h⟩ := bd_h h
    refine x_callV (As := []) CX hM (kdl (kd6_f hk_k).2.1 rfl) (ly1 (kd6_f hk_k).2.1 _) rfl lk_X6_185 (c_X1_heatFromHeaters l E B ((kd6_f hk_k).2.1) eq5) ⟨rfl, rfl, by decide, by decide⟩ rfl hl.1 rfl (Nat.le_of_ble_eq_true rfl) dX6_heatIn_38 (fun H locs hM => ?_)
    refine W.eq (g2 := F0 m 41 ls [.int q5.1]) rfl ?_
    refine lv_aload_n hx hb dX6_heatIn_41 rfl (lv_at hl 0 rfl) ?_
    refine g6_0 CX hM hk_k wf_X6_10 dX6_heatIn_42 ?_
    obtain ⟨q6, eq6, h⟩ := bd_h h
    refine x_callV (As := []) CX hM (kdl (kd6_f hk_k).1 rfl) (ly1 (kd6_f hk_k).1 _) rfl lk_X6_185 (c_X1_heatFromHeaters l E B ((kd6_f hk_k).1) eq6) ⟨rfl, rfl, by decide, by decide⟩ rfl hl.1 rfl (Nat.le_of_ble_eq_true rfl) dX6_heatIn_45 (fun H locs hM => ?_)
    refine W.eq (g2 := F0 m 48 ls [.int q6.1, .int q5.1]) rfl ?_
    refine lv_isub hx hb dX6_heatIn_48 ?_
    obtain rfl := Option.some.inj h
    exact x_iret CX hr hlk hM rfl dX6_heatIn_49
  · replace h := it_h c2 h
    refine lv_ldc (v := (-1000001)) hx hb CX.1.2.2.2.1 (x_hts CX wc_X6_44) dX6_heatIn_11 ?_
    obtain rfl := Option.some.inj h
    exact x_iret CX hr hlk hM rfl dX6_heatIn_13
def rm_X6_undo : Jvm.Room := { frames := 4, cells := 0, slots := 0, locals := 94 }
set_option maxHeartbeats 4000000 in
set_option maxRecDepth 100000 in
theorem c_X6_undo (l : Launch) (E : xE) (B : Nat) {k : Nat} {σ : xM} {q : Int32 × xM} (hk_k : kd k = 6) (h : F_X6_undo k σ = some q) : Met l yX6_undo (Cond.code yX6_undo cX6_undo 1 (some .int) :: AL) rm_X6_undo (xP E B 160 (layX E B) [.ref (B + k)] σ) (xQ E B 160 (layX E B) (some (.int q.1)) q.2) 0 0 (wA B 160) := by
  refine x_met (plainFor_of_name (by decide +kernel)) (Nat.le_of_ble_eq_true rfl) rfl ?_
  intro p e s m below meth c ls CX hr hlk hM hl
  have hx := CX.1.1
  have hb := CX.1.2.1
  unfold F_X6_undo at h
  refine lv_aload_n hx hb dX6_undo_0 rfl (lv_at hl 0 rfl) ?_
  refine g6_2 CX hM hk_k wf_X6_22 dX6_undo_1 ?_
  refine g2_2 CX hM (kd6_f hk_k).2.2.1 wf_X6_156 dX6_undo_4 ?_
  refine lv_if_ne (tgt := 13) hx hb dX6_undo_7 (by decide) (fun c1 => ?_) (fun c1 => ?_)
  · replace h := if_h c1 h
    refine lv_aload_n hx hb dX6_undo_13 rfl (lv_at hl 0 rfl) ?_
    refine g6_2 CX hM hk_k wf_X6_22 dX6_undo_14 ?_
    refine lv_aload_n hx hb dX6_undo_17 rfl (lv_at hl 0 rfl) ?_
    refine g6_0 CX hM hk_k wf_X6_10 dX6_undo_18 ?_
    obtain ⟨q2, eq2, h⟩ := bd_h h
    refine x_callV (As := [.ref (B + (k + 1))]) CX hM (kdl (kd6_f hk_k).2.2.1 rfl) (ly2 (kd6_f hk_k).2.2.1 _) rfl lk_X6_199 (c_X2_restore l E B ((kd6_f hk_k).2.2.1) ((kd6_f hk_k).1) eq2) ⟨rfl, rfl, by decide, by decide⟩ rfl hl.1 rfl (Nat.le_of_ble_eq_true rfl) dX6_undo_21 (fun H locs hM => ?_)
    refine W.eq (g2 := F0 m 24 ls []) rfl ?_
    refine lv_aload_n hx hb dX6_undo_24 rfl (lv_at hl 0 rfl) ?_
    refine g6_2 CX hM hk_k wf_X6_22 dX6_undo_25 ?_
    refine g2_2 CX hM (kd6_f hk_k).2.2.1 wf_X6_156 dX6_undo_28 ?_
    obtain rfl := Option.some.inj h
    exact x_iret CX hr hlk hM rfl dX6_undo_31
  · replace h := it_h c1 h
    refine lv_ldc (v := (-1000002)) hx hb CX.1.2.2.2.1 (x_hts CX wc_X6_69) dX6_undo_10 ?_
    obtain rfl := Option.some.inj h
    exact x_iret CX hr hlk hM rfl dX6_undo_12
def rm_L_low : Jvm.Room := { frames := 0, cells := 0, slots := 0, locals := 0 }
set_option maxHeartbeats 4000000 in
set_option maxRecDepth 100000 in
theorem c_L_low (l : Launch) (E : xE) (B : Nat) {x0 : Int32} {x1 : Int32} {σ : xM} {q : Int32 × xM}  (h : F_L_low x0 x1 σ = some q) : Met l yL_low (Cond.code yL_low cL_low 2 (some .int) :: AL) rm_L_low (xP E B 160 (layX E B) [.int x0, .int x1] σ) (xQ E B 160 (layX E B) (some (.int q.1)) q.2) 0 0 (wA B 160) := by
  refine x_met (plainFor_of_name (by decide +kernel)) (Nat.le_of_ble_eq_true rfl) rfl ?_
  intro p e s m below meth c ls CX hr hlk hM hl
  have hx := CX.1.1
  have hb := CX.1.2.1
  unfold F_L_low at h
  refine lv_iload_n hx hb dL_low_0 rfl (lv_at hl 0 rfl) ?_
  refine lv_ldc (v := 2147483647) hx hb CX.1.2.2.2.1 (x_hts CX wc_L_7) dL_low_1 ?_
  refine lv_iand hx hb dL_low_3 ?_
  refine lv_iload_n hx hb dL_low_4 rfl (lv_at hl 1 rfl) ?_
  obtain ⟨g1, h⟩ := nz_h h
  refine lv_irem hx hb dL_low_5 g1 ?_
  obtain rfl := Option.some.inj h
  exact x_iret CX hr hlk hM rfl dL_low_6
def rm_L_tale : Jvm.Room := { frames := 5, cells := 0, slots := 0, locals := 107 }
set_option maxHeartbeats 4000000 in
set_option maxRecDepth 100000 in
theorem c_L_tale (l : Launch) (E : xE) (B : Nat) {r0 : Nat} {σ : xM} {q : Int64 × xM} (hk_r0 : kd r0 = 6) (h : F_L_tale r0 σ = some q) : Met l yL_tale (Cond.code yL_tale cL_tale 5 (some .long) :: AL) rm_L_tale (xP E B 160 (layX E B) [.ref (B + r0)] σ) (xQ E B 160 (layX E B) (some (.long q.1)) q.2) 0 0 (wA B 160) := by
  refine x_met (plainFor_of_name (by decide +kernel)) (Nat.le_of_ble_eq_true rfl) rfl ?_
  intro p e s m below meth c ls CX hr hlk hM hl
  have hx := CX.1.1
  have hb := CX.1.2.1
  unfold F_L_tale at h
  have LL : ∀ (N : Nat), (∀ (j1 : Int64) (v3 : Int32) (σ : xM) (H : Heap) (locs : List Loc) (ls : Array Slot), xS E B 160 (layX E B) s σ H locs → lv_has ls 5 [(0, .ref (B + r0)), (1, .long j1), (3, .int v3)] → F_L_tale_LL r0 N 33 j1 v3 0 σ = some q → W p l e rm_L_tale s m ([.ref (B + r0)] : List Value).toArray below meth c H locs 0 0 (MQ below (xQ E B 160 (layX E B) (some (.long q.1)) q.2) ([.ref (B + r0)] : List Value).toArray s 0 0 (wA B 160)) (F0 m 33 ls [])) ∧ (∀ (j1 : Int64) (v3 : Int32) (v4 : Int32) (σ : xM) (H : Heap) (locs : List Loc) (ls : Array Slot), xS E B 160 (layX E B) s σ H locs → lv_has ls 5 [(0, .ref (B + r0)), (1, .long j1), (3, .int v3), (4, .int v4)] → F_L_tale_LL r0 N 46 j1 v3 v4 σ = some q → W p l e rm_L_tale s m ([.ref (B + r0)] : List Value).toArray below meth c H locs 0 0 (MQ below (xQ E B 160 (layX E B) (some (.long q.1)) q.2) ([.ref (B + r0)] : List Value).toArray s 0 0 (wA B 160)) (F0 m 46 ls [])) ∧ (∀ (j1 : Int64) (v3 : Int32) (v4 : Int32) (σ : xM) (H : Heap) (locs : List Loc) (ls : Array Slot), xS E B 160 (layX E B) s σ H locs → lv_has ls 5 [(0, .ref (B + r0)), (1, .long j1), (3, .int v3), (4, .int v4)] → F_L_tale_LL r0 N 77 j1 v3 v4 σ = some q → W p l e rm_L_tale s m ([.ref (B + r0)] : List Value).toArray below meth c H locs 0 0 (MQ below (xQ E B 160 (layX E B) (some (.long q.1)) q.2) ([.ref (B + r0)] : List Value).toArray s 0 0 (wA B 160)) (F0 m 77 ls [])) ∧ (∀ (j1 : Int64) (v3 : Int32) (v4 : Int32) (σ : xM) (H : Heap) (locs : List Loc) (ls : Array Slot), xS E B 160 (layX E B) s σ H locs → lv_has ls 5 [(0, .ref (B + r0)), (1, .long j1), (3, .int v3), (4, .int v4)] → F_L_tale_LL r0 N 107 j1 v3 v4 σ = some q → W p l e rm_L_tale s m ([.ref (B + r0)] : List Value).toArray below meth c H locs 0 0 (MQ below (xQ E B 160 (layX E B) (some (.long q.1)) q.2) ([.ref (B + r0)] : List Value).toArray s 0 0 (wA B 160)) (F0 m 107 ls [])) := by
    clear hM hl h
    intro N
    induction N with
    | zero =>
      refine ⟨?_, ?_, ?_, ?_⟩
      · intro j1 v3 σ H locs ls hM hl h
        cases h
      · intro j1 v3 v4 σ H locs ls hM hl h
        cases h
      · intro j1 v3 v4 σ H locs ls hM hl h
        cases h
      · intro j1 v3 v4 σ H locs ls hM hl h
        cases h
    | succ N ih =>
      refine ⟨?_, ?_, ?_, ?_⟩
      · intro j1 v3 σ H locs ls hM hl h
        rw [F_L_tale_LL] at h
        replace h := it_h rfl h
        refine lv_iload_n hx hb dL_tale_33 rfl (lv_at hl 2 rfl) ?_
        refine lv_aload_n hx hb dL_tale_34 rfl (lv_at hl 0 rfl) ?_
        refine lv_bipush (v := 7) hx hb dL_tale_35 (by decide) ?_
        obtain ⟨q2, eq2, h⟩ := bd_h h
        refine x_callV (As := [.int 7]) CX hM (kdl hk_r0 rfl) (ly6 hk_r0 _) rfl lk_L_12 (c_X6_count l E B hk_r0 eq2) ⟨rfl, rfl, by decide, by decide⟩ rfl hl.1 rfl (Nat.le_of_ble_eq_true rfl) dL_tale_37 (fun H locs hM => ?_)
        refine W.eq (g2 := F0 m 40 ls [.int q2.1, .int v3]) rfl ?_
        refine lv_icmp_ge (tgt := 145) hx hb dL_tale_40 (by decide) (fun c3 => ?_) (fun c3 => ?_)
        · replace h := it_h c3 h
          refine lv_lload_n hx hb dL_tale_145 rfl (lv_at hl 1 rfl) ?_
          obtain rfl := Option.some.inj h
          exact x_lret CX hr hlk hM rfl dL_tale_146
        · replace h := if_h c3 h
          refine lv_iconst (v := 0) hx hb dL_tale_43 (by decide) ?_
          refine lv_istore (lv' := [(4, .int 0), (0, .ref (B + r0)), (1, .long j1), (3, .int v3)]) hx hb dL_tale_44 hl (by decide) rfl (fun ls hl => ?_)
          exact ih.2.1 _ _ _ _ _ _ _ hM (lv_sub hl [1, 2, 3, 0] rfl) h
      · intro j1 v3 v4 σ H locs ls hM hl h
        rw [F_L_tale_LL] at h
        replace h := if_h (by decide) h
        replace h := it_h rfl h
        refine lv_iload hx hb dL_tale_46 (lv_at hl 3 rfl) ?_
        refine lv_bipush (v := 14) hx hb dL_tale_48 (by decide) ?_
        refine lv_icmp_ge (tgt := 74) hx hb dL_tale_50 (by decide) (fun c4 => ?_) (fun c4 => ?_)
        · replace h := it_h c4 h
          refine lv_iconst (v := 0) hx hb dL_tale_74 (by decide) ?_
          refine lv_istore (lv' := [(4, .int 0), (0, .ref (B + r0)), (1, .long j1), (3, .int v3)]) hx hb dL_tale_75 hl (by decide) rfl (fun ls hl => ?_)
          exact ih.2.2.1 _ _ _ _ _ _ _ hM (lv_sub hl [1, 2, 3, 0] rfl) h
        · replace h := if_h c4 h
          refine lv_lload_n hx hb dL_tale_53 rfl (lv_at hl 1 rfl) ?_
          refine lv_ldc2 (v := 37) hx hb CX.1.2.2.2.1 (x_hts CX wc_L_18) dL_tale_54 ?_
          refine lv_lmul hx hb dL_tale_57 ?_
          refine lv_aload_n hx hb dL_tale_58 rfl (lv_at hl 0 rfl) ?_
          refine lv_iload_n hx hb dL_tale_59 rfl (lv_at hl 2 rfl) ?_
          refine lv_iload hx hb dL_tale_60 (lv_at hl 3 rfl) ?_
          obtain ⟨q12, eq12, h⟩ := bd_h h
          refine x_callV (As := [.int v3, .int v4]) CX hM (kdl hk_r0 rfl) (ly6 hk_r0 _) rfl lk_L_20 (c_X6_room l E B hk_r0 eq12) ⟨rfl, rfl, by decide, by decide⟩ rfl hl.1 rfl (Nat.le_of_ble_eq_true rfl) dL_tale_62 (fun H locs hM => ?_)
          refine W.eq (g2 := F0 m 65 ls [.int q12.1, .long (j1 * 37)]) rfl ?_
          refine lv_i2l hx hb dL_tale_65 rfl ?_
          refine lv_ladd hx hb dL_tale_66 ?_
          refine lv_topl (fun j1_13 ej1_13 => ?_)
          replace h := nm_h ej1_13 h
          refine lv_lstore_n (lv' := [(1, .long j1_13), (0, .ref (B + r0)), (3, .int v3), (4, .int v4)]) hx hb dL_tale_67 rfl hl (by decide) rfl (fun ls hl => ?_)
          refine lv_iinc (v := (v4 + 1)) (lv' := [(4, .int (v4 + 1)), (1, .long j1_13), (0, .ref (B + r0)), (3, .int v3)]) hx hb dL_tale_68 hl (k := 3) rfl rfl (by decide) rfl (fun ls hl => ?_)
          refine lv_goto (tgt := 46) hx hb dL_tale_71 (by decide) ?_
          exact ih.2.1 _ _ _ _ _ _ _ hM (lv_sub hl [2, 1, 3, 0] rfl) h
      · intro j1 v3 v4 σ H locs ls hM hl h
        rw [F_L_tale_LL] at h
        replace h := if_h (by decide) h
        replace h := if_h (by decide) h
        replace h := it_h rfl h
        refine lv_iload hx hb dL_tale_77 (lv_at hl 3 rfl) ?_
        refine lv_iconst (v := 5) hx hb dL_tale_79 (by decide) ?_
        refine lv_icmp_ge (tgt := 104) hx hb dL_tale_80 (by decide) (fun c5 => ?_) (fun c5 => ?_)
        · replace h := it_h c5 h
          refine lv_iconst (v := 0) hx hb dL_tale_104 (by decide) ?_
          refine lv_istore (lv' := [(4, .int 0), (0, .ref (B + r0)), (1, .long j1), (3, .int v3)]) hx hb dL_tale_105 hl (by decide) rfl (fun ls hl => ?_)
          exact ih.2.2.2 _ _ _ _ _ _ _ hM (lv_sub hl [1, 2, 3, 0] rfl) h
        · replace h := if_h c5 h
          refine lv_lload_n hx hb dL_tale_83 rfl (lv_at hl 1 rfl) ?_
          refine lv_ldc2 (v := 41) hx hb CX.1.2.2.2.1 (x_hts CX wc_L_24) dL_tale_84 ?_
          refine lv_lmul hx hb dL_tale_87 ?_
          refine lv_aload_n hx hb dL_tale_88 rfl (lv_at hl 0 rfl) ?_
          refine lv_iload_n hx hb dL_tale_89 rfl (lv_at hl 2 rfl) ?_
          refine lv_iload hx hb dL_tale_90 (lv_at hl 3 rfl) ?_
          obtain ⟨q10, eq10, h⟩ := bd_h h
          refine x_callV (As := [.int v3, .int v4]) CX hM (kdl hk_r0 rfl) (ly6 hk_r0 _) rfl lk_L_26 (c_X6_book l E B hk_r0 eq10) ⟨rfl, rfl, by decide, by decide⟩ rfl hl.1 rfl (Nat.le_of_ble_eq_true rfl) dL_tale_92 (fun H locs hM => ?_)
          refine W.eq (g2 := F0 m 95 ls [.int q10.1, .long (j1 * 41)]) rfl ?_
          refine lv_i2l hx hb dL_tale_95 rfl ?_
          refine lv_ladd hx hb dL_tale_96 ?_
          refine lv_topl (fun j1_11 ej1_11 => ?_)
          replace h := nm_h ej1_11 h
          refine lv_lstore_n (lv' := [(1, .long j1_11), (0, .ref (B + r0)), (3, .int v3), (4, .int v4)]) hx hb dL_tale_97 rfl hl (by decide) rfl (fun ls hl => ?_)
          refine lv_iinc (v := (v4 + 1)) (lv' := [(4, .int (v4 + 1)), (1, .long j1_11), (0, .ref (B + r0)), (3, .int v3)]) hx hb dL_tale_98 hl (k := 3) rfl rfl (by decide) rfl (fun ls hl => ?_)
          refine lv_goto (tgt := 77) hx hb dL_tale_101 (by decide) ?_
          exact ih.2.2.1 _ _ _ _ _ _ _ hM (lv_sub hl [2, 1, 3, 0] rfl) h
      · intro j1 v3 v4 σ H locs ls hM hl h
        rw [F_L_tale_LL] at h
        replace h := if_h (by decide) h
        replace h := if_h (by decide) h
        replace h := if_h (by decide) h
        refine lv_iload hx hb dL_tale_107 (lv_at hl 3 rfl) ?_
        refine lv_aload_n hx hb dL_tale_109 rfl (lv_at hl 0 rfl) ?_
        refine lv_bipush (v := 7) hx hb dL_tale_110 (by decide) ?_
        obtain ⟨q6, eq6, h⟩ := bd_h h
        refine x_callV (As := [.int 7]) CX hM (kdl hk_r0 rfl) (ly6 hk_r0 _) rfl lk_L_12 (c_X6_count l E B hk_r0 eq6) ⟨rfl, rfl, by decide, by decide⟩ rfl hl.1 rfl (Nat.le_of_ble_eq_true rfl) dL_tale_112 (fun H locs hM => ?_)
        refine W.eq (g2 := F0 m 115 ls [.int q6.1, .int v4]) rfl ?_
        refine lv_icmp_ge (tgt := 139) hx hb dL_tale_115 (by decide) (fun c7 => ?_) (fun c7 => ?_)
        · replace h := it_h c7 h
          refine lv_iinc (v := (v3 + 1)) (lv' := [(3, .int (v3 + 1)), (0, .ref (B + r0)), (1, .long j1), (4, .int v4)]) hx hb dL_tale_139 hl (k := 2) rfl rfl (by decide) rfl (fun ls hl => ?_)
          refine lv_goto (tgt := 33) hx hb dL_tale_142 (by decide) ?_
          exact ih.1 _ _ _ _ _ _ hM (lv_sub hl [1, 2, 0] rfl) h
        · replace h := if_h c7 h
          refine lv_lload_n hx hb dL_tale_118 rfl (lv_at hl 1 rfl) ?_
          refine lv_ldc2 (v := 43) hx hb CX.1.2.2.2.1 (x_hts CX wc_L_29) dL_tale_119 ?_
          refine lv_lmul hx hb dL_tale_122 ?_
          refine lv_aload_n hx hb dL_tale_123 rfl (lv_at hl 0 rfl) ?_
          refine lv_iload_n hx hb dL_tale_124 rfl (lv_at hl 2 rfl) ?_
          refine lv_iload hx hb dL_tale_125 (lv_at hl 3 rfl) ?_
          obtain ⟨q8, eq8, h⟩ := bd_h h
          refine x_callV (As := [.int v3, .int v4]) CX hM (kdl hk_r0 rfl) (ly6 hk_r0 _) rfl lk_L_31 (c_X6_link l E B hk_r0 eq8) ⟨rfl, rfl, by decide, by decide⟩ rfl hl.1 rfl (Nat.le_of_ble_eq_true rfl) dL_tale_127 (fun H locs hM => ?_)
          refine W.eq (g2 := F0 m 130 ls [.int q8.1, .long (j1 * 43)]) rfl ?_
          refine lv_i2l hx hb dL_tale_130 rfl ?_
          refine lv_ladd hx hb dL_tale_131 ?_
          refine lv_topl (fun j1_9 ej1_9 => ?_)
          replace h := nm_h ej1_9 h
          refine lv_lstore_n (lv' := [(1, .long j1_9), (0, .ref (B + r0)), (3, .int v3), (4, .int v4)]) hx hb dL_tale_132 rfl hl (by decide) rfl (fun ls hl => ?_)
          refine lv_iinc (v := (v4 + 1)) (lv' := [(4, .int (v4 + 1)), (1, .long j1_9), (0, .ref (B + r0)), (3, .int v3)]) hx hb dL_tale_133 hl (k := 3) rfl rfl (by decide) rfl (fun ls hl => ?_)
          refine lv_goto (tgt := 107) hx hb dL_tale_136 (by decide) ?_
          exact ih.2.2.2 _ _ _ _ _ _ _ hM (lv_sub hl [2, 1, 3, 0] rfl) h
  have L6 : ∀ (N : Nat) (j1 : Int64) (v3 : Int32) (σ : xM), ∀ (H : Heap) (locs : List Loc) (ls : Array Slot), xS E B 160 (layX E B) s σ H locs → lv_has ls 5 [(0, .ref (B + r0)), (1, .long j1), (3, .int v3)] → F_L_tale_L6 r0 N j1 v3 σ = some q → W p l e rm_L_tale s m ([.ref (B + r0)] : List Value).toArray below meth c H locs 0 0 (MQ below (xQ E B 160 (layX E B) (some (.long q.1)) q.2) ([.ref (B + r0)] : List Value).toArray s 0 0 (wA B 160)) (F0 m 6 ls []) := by
    clear hM hl h
    intro N
    induction N with
    | zero =>
      intro j1 v3 σ  H locs ls hM hl h
      cases h
    | succ N ih =>
      intro j1 v3 σ  H locs ls hM hl h
      rw [F_L_tale_L6] at h
      refine lv_iload_n hx hb dL_tale_6 rfl (lv_at hl 2 rfl) ?_
      refine lv_bipush (v := 12) hx hb dL_tale_7 (by decide) ?_
      refine lv_icmp_ge (tgt := 31) hx hb dL_tale_9 (by decide) (fun c1 => ?_) (fun c1 => ?_)
      · replace h := it_h c1 h
        refine lv_iconst (v := 0) hx hb dL_tale_31 (by decide) ?_
        refine lv_istore_n (lv' := [(3, .int 0), (0, .ref (B + r0)), (1, .long j1)]) hx hb dL_tale_32 rfl hl (by decide) rfl (fun ls hl => ?_)
        exact (LL _).1 _ _ _ _ _ _ hM (lv_sub hl [1, 2, 0] rfl) h
      · replace h := if_h c1 h
        refine lv_lload_n hx hb dL_tale_12 rfl (lv_at hl 1 rfl) ?_
        refine lv_ldc2 (v := 31) hx hb CX.1.2.2.2.1 (x_hts CX wc_L_10) dL_tale_13 ?_
        refine lv_lmul hx hb dL_tale_16 ?_
        refine lv_aload_n hx hb dL_tale_17 rfl (lv_at hl 0 rfl) ?_
        refine lv_iload_n hx hb dL_tale_18 rfl (lv_at hl 2 rfl) ?_
        obtain ⟨q14, eq14, h⟩ := bd_h h
        refine x_callV (As := [.int v3]) CX hM (kdl hk_r0 rfl) (ly6 hk_r0 _) rfl lk_L_12 (c_X6_count l E B hk_r0 eq14) ⟨rfl, rfl, by decide, by decide⟩ rfl hl.1 rfl (Nat.le_of_ble_eq_true rfl) dL_tale_19 (fun H locs hM => ?_)
        refine W.eq (g2 := F0 m 22 ls [.int q14.1, .long (j1 * 31)]) rfl ?_
        refine lv_i2l hx hb dL_tale_22 rfl ?_
        refine lv_ladd hx hb dL_tale_23 ?_
        refine lv_topl (fun j1_15 ej1_15 => ?_)
        replace h := nm_h ej1_15 h
        refine lv_lstore_n (lv' := [(1, .long j1_15), (0, .ref (B + r0)), (3, .int v3)]) hx hb dL_tale_24 rfl hl (by decide) rfl (fun ls hl => ?_)
        refine lv_iinc (v := (v3 + 1)) (lv' := [(3, .int (v3 + 1)), (1, .long j1_15), (0, .ref (B + r0))]) hx hb dL_tale_25 hl (k := 2) rfl rfl (by decide) rfl (fun ls hl => ?_)
        refine lv_goto (tgt := 6) hx hb dL_tale_28 (by decide) ?_
        exact ih _ _ _  _ _ _ hM (lv_sub hl [2, 1, 0] rfl) h
  refine lv_ldc2 (v := 3) hx hb CX.1.2.2.2.1 (x_hts CX wc_L_8) dL_tale_0 ?_
  refine lv_lstore_n (lv' := [(1, .long 3), (0, .ref (B + r0))]) hx hb dL_tale_3 rfl hl (by decide) rfl (fun ls hl => ?_)
  refine lv_iconst (v := 0) hx hb dL_tale_4 (by decide) ?_
  refine lv_istore_n (lv' := [(3, .int 0), (1, .long 3), (0, .ref (B + r0))]) hx hb dL_tale_5 rfl hl (by decide) rfl (fun ls hl => ?_)
  exact L6 _ _ _ _  _ _ _ hM (lv_sub hl [2, 1, 0] rfl) h
end
section
def rm_L_does : Jvm.Room := { frames := 8, cells := 0, slots := 0, locals := 175 }
set_option maxHeartbeats 4000000 in
set_option maxRecDepth 100000 in
theorem c_L_does (l : Launch) (E : xE) (B : Nat) {r0 : Nat} {x1 : Int32} {σ : xM} {q : Int32 × xM} (hk_r0 : kd r0 = 6) (h : F_L_does r0 x1 σ = some q) : Met l yL_does (Cond.code yL_does cL_does 3 (some .int) :: AL) rm_L_does (xP E B 160 (layX E B) [.ref (B + r0), .int x1] σ) (xQ E B 160 (layX E B) (some (.int q.1)) q.2) 0 0 (wA B 160) := by
  refine x_met (plainFor_of_name (by decide +kernel)) (Nat.le_of_ble_eq_true rfl) rfl ?_
  intro p e s m below meth c ls CX hr hlk hM hl
  have hx := CX.1.1
  have hb := CX.1.2.1
  unfold F_L_does at h
  refine lv_iload_n hx hb dL_does_0 rfl (lv_at hl 1 rfl) ?_
  refine lv_iconst (v := 4) hx hb dL_does_1 (by decide) ?_
  refine lv_ishr hx hb dL_does_2 ?_
  refine lv_iconst (v := 4) hx hb dL_does_3 (by decide) ?_
  obtain ⟨q1, eq1, h⟩ := bd_h h
  refine x_callS (As := [.int (x1 >>> (4 &&& 31)), .int 4]) CX hM lk_L_34 (c_L_low l E B  eq1) ⟨rfl, rfl, by decide, by decide⟩ rfl hl.1 rfl (Nat.le_of_ble_eq_true rfl) dL_does_4 (fun H locs hM => ?_)
  refine W.eq (g2 := F0 m 7 ls [.int q1.1]) rfl ?_
  refine lv_istore_n (lv' := [(2, .int q1.1), (0, .ref (B + r0)), (1, .int x1)]) hx hb dL_does_7 rfl hl (by decide) rfl (fun ls hl => ?_)
  refine lv_iload_n hx hb dL_does_8 rfl (lv_at hl 2 rfl) ?_
  refine lv_bipush (v := 15) hx hb dL_does_9 (by decide) ?_
  refine lv_iand hx hb dL_does_11 ?_
  by_cases c2 : (x1 &&& 15) = 0
  · replace h := it_h c2 h
    refine lv_tableIn (off := 52) (tgt := 64) hx hb dL_does_12 (by rw [c2]; decide) (by rw [c2]; decide) (by rw [c2]; decide) (by decide) ?_
    refine lv_aload_n hx hb dL_does_64 rfl (lv_at hl 1 rfl) ?_
    refine lv_bipush (v := 9) hx hb dL_does_65 (by decide) ?_
    refine lv_iload_n hx hb dL_does_67 rfl (lv_at hl 2 rfl) ?_
    refine lv_bipush (v := 6) hx hb dL_does_68 (by decide) ?_
    refine lv_ishr hx hb dL_does_70 ?_
    refine lv_sipush (v := 150) hx hb dL_does_71 (by decide) ?_
    obtain ⟨q3, eq3, h⟩ := bd_h h
    refine x_callS (As := [.int (x1 >>> (6 &&& 31)), .int 150]) CX hM lk_L_34 (c_L_low l E B  eq3) ⟨rfl, rfl, by decide, by decide⟩ rfl hl.1 rfl (Nat.le_of_ble_eq_true rfl) dL_does_74 (fun H locs hM => ?_)
    refine W.eq (g2 := F0 m 77 ls [.int q3.1, .int 9, .ref (B + r0)]) rfl ?_
    refine lv_iadd hx hb dL_does_77 ?_
    refine lv_iconst (v := 1) hx hb dL_does_78 (by decide) ?_
    refine lv_iload_n hx hb dL_does_79 rfl (lv_at hl 2 rfl) ?_
    refine lv_bipush (v := 14) hx hb dL_does_80 (by decide) ?_
    refine lv_ishr hx hb dL_does_82 ?_
    refine lv_sipush (v := 200) hx hb dL_does_83 (by decide) ?_
    obtain ⟨q4, eq4, h⟩ := bd_h h
    refine x_callS (As := [.int (x1 >>> (14 &&& 31)), .int 200]) CX hM lk_L_34 (c_L_low l E B  eq4) ⟨rfl, rfl, by decide, by decide⟩ rfl hl.1 rfl (Nat.le_of_ble_eq_true rfl) dL_does_86 (fun H locs hM => ?_)
    refine W.eq (g2 := F0 m 89 ls [.int q4.1, .int 1, .int (9 + q3.1), .ref (B + r0)]) rfl ?_
    refine lv_iadd hx hb dL_does_89 ?_
    refine lv_iload_n hx hb dL_does_90 rfl (lv_at hl 2 rfl) ?_
    refine lv_bipush (v := 22) hx hb dL_does_91 (by decide) ?_
    refine lv_ishr hx hb dL_does_93 ?_
    refine lv_bipush (v := 12) hx hb dL_does_94 (by decide) ?_
    obtain ⟨q5, eq5, h⟩ := bd_h h
    refine x_callS (As := [.int (x1 >>> (22 &&& 31)), .int 12]) CX hM lk_L_34 (c_L_low l E B  eq5) ⟨rfl, rfl, by decide, by decide⟩ rfl hl.1 rfl (Nat.le_of_ble_eq_true rfl) dL_does_96 (fun H locs hM => ?_)
    refine W.eq (g2 := F0 m 99 ls [.int q5.1, .int (1 + q4.1), .int (9 + q3.1), .ref (B + r0)]) rfl ?_
    refine lv_iload_n hx hb dL_does_99 rfl (lv_at hl 2 rfl) ?_
    refine lv_bipush (v := 26) hx hb dL_does_100 (by decide) ?_
    refine lv_ishr hx hb dL_does_102 ?_
    refine lv_bipush (v := 30) hx hb dL_does_103 (by decide) ?_
    obtain ⟨q6, eq6, h⟩ := bd_h h
    refine x_callS (As := [.int (x1 >>> (26 &&& 31)), .int 30]) CX hM lk_L_34 (c_L_low l E B  eq6) ⟨rfl, rfl, by decide, by decide⟩ rfl hl.1 rfl (Nat.le_of_ble_eq_true rfl) dL_does_105 (fun H locs hM => ?_)
    refine W.eq (g2 := F0 m 108 ls [.int q6.1, .int q5.1, .int (1 + q4.1), .int (9 + q3.1), .ref (B + r0)]) rfl ?_
    refine lv_iconst (v := 5) hx hb dL_does_108 (by decide) ?_
    refine lv_isub hx hb dL_does_109 ?_
    obtain ⟨q7, eq7, h⟩ := bd_h h
    refine x_callV (As := [.int (9 + q3.1), .int (1 + q4.1), .int q5.1, .int (q6.1 - 5)]) CX hM (kdl hk_r0 rfl) (ly6 hk_r0 _) rfl lk_L_39 (c_X6_addRoom l E B hk_r0 eq7) ⟨rfl, rfl, by decide, by decide⟩ rfl hl.1 rfl (Nat.le_of_ble_eq_true rfl) dL_does_110 (fun H locs hM => ?_)
    refine W.eq (g2 := F0 m 113 ls [.int q7.1]) rfl ?_
    obtain rfl := Option.some.inj h
    exact x_iret CX hr hlk hM rfl dL_does_113
  · replace h := if_h c2 h
    by_cases c8 : (x1 &&& 15) = 1
    · replace h := it_h c8 h
      refine lv_tableIn (off := 52) (tgt := 64) hx hb dL_does_12 (by rw [c8]; decide) (by rw [c8]; decide) (by rw [c8]; decide) (by decide) ?_
      refine lv_aload_n hx hb dL_does_64 rfl (lv_at hl 1 rfl) ?_
      refine lv_bipush (v := 9) hx hb dL_does_65 (by decide) ?_
      refine lv_iload_n hx hb dL_does_67 rfl (lv_at hl 2 rfl) ?_
      refine lv_bipush (v := 6) hx hb dL_does_68 (by decide) ?_
      refine lv_ishr hx hb dL_does_70 ?_
      refine lv_sipush (v := 150) hx hb dL_does_71 (by decide) ?_
      obtain ⟨q9, eq9, h⟩ := bd_h h
      refine x_callS (As := [.int (x1 >>> (6 &&& 31)), .int 150]) CX hM lk_L_34 (c_L_low l E B  eq9) ⟨rfl, rfl, by decide, by decide⟩ rfl hl.1 rfl (Nat.le_of_ble_eq_true rfl) dL_does_74 (fun H locs hM => ?_)
      refine W.eq (g2 := F0 m 77 ls [.int q9.1, .int 9, .ref (B + r0)]) rfl ?_
      refine lv_iadd hx hb dL_does_77 ?_
      refine lv_iconst (v := 1) hx hb dL_does_78 (by decide) ?_
      refine lv_iload_n hx hb dL_does_79 rfl (lv_at hl 2 rfl) ?_
      refine lv_bipush (v := 14) hx hb dL_does_80 (by decide) ?_
      refine lv_ishr hx hb dL_does_82 ?_
      refine lv_sipush (v := 200) hx hb dL_does_83 (by decide) ?_
      obtain ⟨q10, eq10, h⟩ := bd_h h
      refine x_callS (As := [.int (x1 >>> (14 &&& 31)), .int 200]) CX hM lk_L_34 (c_L_low l E B  eq10) ⟨rfl, rfl, by decide, by decide⟩ rfl hl.1 rfl (Nat.le_of_ble_eq_true rfl) dL_does_86 (fun H locs hM => ?_)
      refine W.eq (g2 := F0 m 89 ls [.int q10.1, .int 1, .int (9 + q9.1), .ref (B + r0)]) rfl ?_
      refine lv_iadd hx hb dL_does_89 ?_
      refine lv_iload_n hx hb dL_does_90 rfl (lv_at hl 2 rfl) ?_
      refine lv_bipush (v := 22) hx hb dL_does_91 (by decide) ?_
      refine lv_ishr hx hb dL_does_93 ?_
      refine lv_bipush (v := 12) hx hb dL_does_94 (by decide) ?_
      obtain ⟨q11, eq11, h⟩ := bd_h h
      refine x_callS (As := [.int (x1 >>> (22 &&& 31)), .int 12]) CX hM lk_L_34 (c_L_low l E B  eq11) ⟨rfl, rfl, by decide, by decide⟩ rfl hl.1 rfl (Nat.le_of_ble_eq_true rfl) dL_does_96 (fun H locs hM => ?_)
      refine W.eq (g2 := F0 m 99 ls [.int q11.1, .int (1 + q10.1), .int (9 + q9.1), .ref (B + r0)]) rfl ?_
      refine lv_iload_n hx hb dL_does_99 rfl (lv_at hl 2 rfl) ?_
      refine lv_bipush (v := 26) hx hb dL_does_100 (by decide) ?_
      refine lv_ishr hx hb dL_does_102 ?_
      refine lv_bipush (v := 30) hx hb dL_does_103 (by decide) ?_
      obtain ⟨q12, eq12, h⟩ := bd_h h
      refine x_callS (As := [.int (x1 >>> (26 &&& 31)), .int 30]) CX hM lk_L_34 (c_L_low l E B  eq12) ⟨rfl, rfl, by decide, by decide⟩ rfl hl.1 rfl (Nat.le_of_ble_eq_true rfl) dL_does_105 (fun H locs hM => ?_)
      refine W.eq (g2 := F0 m 108 ls [.int q12.1, .int q11.1, .int (1 + q10.1), .int (9 + q9.1), .ref (B + r0)]) rfl ?_
      refine lv_iconst (v := 5) hx hb dL_does_108 (by decide) ?_
      refine lv_isub hx hb dL_does_109 ?_
      obtain ⟨q13, eq13, h⟩ := bd_h h
      refine x_callV (As := [.int (9 + q9.1), .int (1 + q10.1), .int q11.1, .int (q12.1 - 5)]) CX hM (kdl hk_r0 rfl) (ly6 hk_r0 _) rfl lk_L_39 (c_X6_addRoom l E B hk_r0 eq13) ⟨rfl, rfl, by decide, by decide⟩ rfl hl.1 rfl (Nat.le_of_ble_eq_true rfl) dL_does_110 (fun H locs hM => ?_)
      refine W.eq (g2 := F0 m 113 ls [.int q13.1]) rfl ?_
      obtain rfl := Option.some.inj h
      exact x_iret CX hr hlk hM rfl dL_does_113
    · replace h := if_h c8 h
      by_cases c14 : (x1 &&& 15) = 2
      · replace h := it_h c14 h
        refine lv_tableIn (off := 102) (tgt := 114) hx hb dL_does_12 (by rw [c14]; decide) (by rw [c14]; decide) (by rw [c14]; decide) (by decide) ?_
        refine lv_aload_n hx hb dL_does_114 rfl (lv_at hl 1 rfl) ?_
        refine lv_iload_n hx hb dL_does_115 rfl (lv_at hl 0 rfl) ?_
        refine lv_iload_n hx hb dL_does_116 rfl (lv_at hl 2 rfl) ?_
        refine lv_bipush (v := 6) hx hb dL_does_117 (by decide) ?_
        refine lv_ishr hx hb dL_does_119 ?_
        refine lv_iconst (v := 4) hx hb dL_does_120 (by decide) ?_
        obtain ⟨q15, eq15, h⟩ := bd_h h
        refine x_callS (As := [.int (x1 >>> (6 &&& 31)), .int 4]) CX hM lk_L_34 (c_L_low l E B  eq15) ⟨rfl, rfl, by decide, by decide⟩ rfl hl.1 rfl (Nat.le_of_ble_eq_true rfl) dL_does_121 (fun H locs hM => ?_)
        refine W.eq (g2 := F0 m 124 ls [.int q15.1, .int q1.1, .ref (B + r0)]) rfl ?_
        refine lv_iload_n hx hb dL_does_124 rfl (lv_at hl 2 rfl) ?_
        refine lv_bipush (v := 8) hx hb dL_does_125 (by decide) ?_
        refine lv_ishr hx hb dL_does_127 ?_
        refine lv_bipush (v := 30) hx hb dL_does_128 (by decide) ?_
        obtain ⟨q16, eq16, h⟩ := bd_h h
        refine x_callS (As := [.int (x1 >>> (8 &&& 31)), .int 30]) CX hM lk_L_34 (c_L_low l E B  eq16) ⟨rfl, rfl, by decide, by decide⟩ rfl hl.1 rfl (Nat.le_of_ble_eq_true rfl) dL_does_130 (fun H locs hM => ?_)
        refine W.eq (g2 := F0 m 133 ls [.int q16.1, .int q15.1, .int q1.1, .ref (B + r0)]) rfl ?_
        obtain ⟨q17, eq17, h⟩ := bd_h h
        refine x_callV (As := [.int q1.1, .int q15.1, .int q16.1]) CX hM (kdl hk_r0 rfl) (ly6 hk_r0 _) rfl lk_L_43 (c_X6_setLink l E B hk_r0 eq17) ⟨rfl, rfl, by decide, by decide⟩ rfl hl.1 rfl (Nat.le_of_ble_eq_true rfl) dL_does_133 (fun H locs hM => ?_)
        refine W.eq (g2 := F0 m 136 ls [.int q17.1]) rfl ?_
        obtain rfl := Option.some.inj h
        exact x_iret CX hr hlk hM rfl dL_does_136
      · replace h := if_h c14 h
        by_cases c18 : (x1 &&& 15) = 3
        · replace h := it_h c18 h
          refine lv_tableIn (off := 102) (tgt := 114) hx hb dL_does_12 (by rw [c18]; decide) (by rw [c18]; decide) (by rw [c18]; decide) (by decide) ?_
          refine lv_aload_n hx hb dL_does_114 rfl (lv_at hl 1 rfl) ?_
          refine lv_iload_n hx hb dL_does_115 rfl (lv_at hl 0 rfl) ?_
          refine lv_iload_n hx hb dL_does_116 rfl (lv_at hl 2 rfl) ?_
          refine lv_bipush (v := 6) hx hb dL_does_117 (by decide) ?_
          refine lv_ishr hx hb dL_does_119 ?_
          refine lv_iconst (v := 4) hx hb dL_does_120 (by decide) ?_
          obtain ⟨q19, eq19, h⟩ := bd_h h
          refine x_callS (As := [.int (x1 >>> (6 &&& 31)), .int 4]) CX hM lk_L_34 (c_L_low l E B  eq19) ⟨rfl, rfl, by decide, by decide⟩ rfl hl.1 rfl (Nat.le_of_ble_eq_true rfl) dL_does_121 (fun H locs hM => ?_)
          refine W.eq (g2 := F0 m 124 ls [.int q19.1, .int q1.1, .ref (B + r0)]) rfl ?_
          refine lv_iload_n hx hb dL_does_124 rfl (lv_at hl 2 rfl) ?_
          refine lv_bipush (v := 8) hx hb dL_does_125 (by decide) ?_
          refine lv_ishr hx hb dL_does_127 ?_
          refine lv_bipush (v := 30) hx hb dL_does_128 (by decide) ?_
          obtain ⟨q20, eq20, h⟩ := bd_h h
          refine x_callS (As := [.int (x1 >>> (8 &&& 31)), .int 30]) CX hM lk_L_34 (c_L_low l E B  eq20) ⟨rfl, rfl, by decide, by decide⟩ rfl hl.1 rfl (Nat.le_of_ble_eq_true rfl) dL_does_130 (fun H locs hM => ?_)
          refine W.eq (g2 := F0 m 133 ls [.int q20.1, .int q19.1, .int q1.1, .ref (B + r0)]) rfl ?_
          obtain ⟨q21, eq21, h⟩ := bd_h h
          refine x_callV (As := [.int q1.1, .int q19.1, .int q20.1]) CX hM (kdl hk_r0 rfl) (ly6 hk_r0 _) rfl lk_L_43 (c_X6_setLink l E B hk_r0 eq21) ⟨rfl, rfl, by decide, by decide⟩ rfl hl.1 rfl (Nat.le_of_ble_eq_true rfl) dL_does_133 (fun H locs hM => ?_)
          refine W.eq (g2 := F0 m 136 ls [.int q21.1]) rfl ?_
          obtain rfl := Option.some.inj h
          exact x_iret CX hr hlk hM rfl dL_does_136
        · replace h := if_h c18 h
          by_cases c22 : (x1 &&& 15) = 4
          · replace h := it_h c22 h
            refine lv_tableIn (off := 125) (tgt := 137) hx hb dL_does_12 (by rw [c22]; decide) (by rw [c22]; decide) (by rw [c22]; decide) (by decide) ?_
            refine lv_aload_n hx hb dL_does_137 rfl (lv_at hl 1 rfl) ?_
            refine lv_iload_n hx hb dL_does_138 rfl (lv_at hl 0 rfl) ?_
            refine lv_sipush (v := 5000) hx hb dL_does_139 (by decide) ?_
            refine lv_sipush (v := 1000) hx hb dL_does_142 (by decide) ?_
            refine lv_iload_n hx hb dL_does_145 rfl (lv_at hl 2 rfl) ?_
            refine lv_bipush (v := 6) hx hb dL_does_146 (by decide) ?_
            refine lv_ishr hx hb dL_does_148 ?_
            refine lv_bipush (v := 31) hx hb dL_does_149 (by decide) ?_
            obtain ⟨q23, eq23, h⟩ := bd_h h
            refine x_callS (As := [.int (x1 >>> (6 &&& 31)), .int 31]) CX hM lk_L_34 (c_L_low l E B  eq23) ⟨rfl, rfl, by decide, by decide⟩ rfl hl.1 rfl (Nat.le_of_ble_eq_true rfl) dL_does_151 (fun H locs hM => ?_)
            refine W.eq (g2 := F0 m 154 ls [.int q23.1, .int 1000, .int 5000, .int q1.1, .ref (B + r0)]) rfl ?_
            refine lv_imul hx hb dL_does_154 ?_
            refine lv_iadd hx hb dL_does_155 ?_
            refine lv_bipush (v := 100) hx hb dL_does_156 (by decide) ?_
            refine lv_iload_n hx hb dL_does_158 rfl (lv_at hl 2 rfl) ?_
            refine lv_bipush (v := 11) hx hb dL_does_159 (by decide) ?_
            refine lv_ishr hx hb dL_does_161 ?_
            refine lv_bipush (v := 20) hx hb dL_does_162 (by decide) ?_
            obtain ⟨q24, eq24, h⟩ := bd_h h
            refine x_callS (As := [.int (x1 >>> (11 &&& 31)), .int 20]) CX hM lk_L_34 (c_L_low l E B  eq24) ⟨rfl, rfl, by decide, by decide⟩ rfl hl.1 rfl (Nat.le_of_ble_eq_true rfl) dL_does_164 (fun H locs hM => ?_)
            refine W.eq (g2 := F0 m 167 ls [.int q24.1, .int 100, .int (5000 + (1000 * q23.1)), .int q1.1, .ref (B + r0)]) rfl ?_
            refine lv_imul hx hb dL_does_167 ?_
            obtain ⟨q25, eq25, h⟩ := bd_h h
            refine x_callV (As := [.int q1.1, .int (5000 + (1000 * q23.1)), .int (100 * q24.1)]) CX hM (kdl hk_r0 rfl) (ly6 hk_r0 _) rfl lk_L_47 (c_X6_setThermostat l E B hk_r0 eq25) ⟨rfl, rfl, by decide, by decide⟩ rfl hl.1 rfl (Nat.le_of_ble_eq_true rfl) dL_does_168 (fun H locs hM => ?_)
            refine W.eq (g2 := F0 m 171 ls [.int q25.1]) rfl ?_
            obtain rfl := Option.some.inj h
            exact x_iret CX hr hlk hM rfl dL_does_171
          · replace h := if_h c22 h
            by_cases c26 : (x1 &&& 15) = 5
            · replace h := it_h c26 h
              refine lv_tableIn (off := 160) (tgt := 172) hx hb dL_does_12 (by rw [c26]; decide) (by rw [c26]; decide) (by rw [c26]; decide) (by decide) ?_
              refine lv_aload_n hx hb dL_does_172 rfl (lv_at hl 1 rfl) ?_
              refine lv_iload_n hx hb dL_does_173 rfl (lv_at hl 2 rfl) ?_
              refine lv_bipush (v := 6) hx hb dL_does_174 (by decide) ?_
              refine lv_ishr hx hb dL_does_176 ?_
              refine lv_bipush (v := 8) hx hb dL_does_177 (by decide) ?_
              obtain ⟨q27, eq27, h⟩ := bd_h h
              refine x_callS (As := [.int (x1 >>> (6 &&& 31)), .int 8]) CX hM lk_L_34 (c_L_low l E B  eq27) ⟨rfl, rfl, by decide, by decide⟩ rfl hl.1 rfl (Nat.le_of_ble_eq_true rfl) dL_does_179 (fun H locs hM => ?_)
              refine W.eq (g2 := F0 m 182 ls [.int q27.1, .ref (B + r0)]) rfl ?_
              refine lv_iload_n hx hb dL_does_182 rfl (lv_at hl 2 rfl) ?_
              refine lv_bipush (v := 9) hx hb dL_does_183 (by decide) ?_
              refine lv_ishr hx hb dL_does_185 ?_
              refine lv_bipush (v := 60) hx hb dL_does_186 (by decide) ?_
              obtain ⟨q28, eq28, h⟩ := bd_h h
              refine x_callS (As := [.int (x1 >>> (9 &&& 31)), .int 60]) CX hM lk_L_34 (c_L_low l E B  eq28) ⟨rfl, rfl, by decide, by decide⟩ rfl hl.1 rfl (Nat.le_of_ble_eq_true rfl) dL_does_188 (fun H locs hM => ?_)
              refine W.eq (g2 := F0 m 191 ls [.int q28.1, .int q27.1, .ref (B + r0)]) rfl ?_
              obtain ⟨q29, eq29, h⟩ := bd_h h
              refine x_callV (As := [.int q27.1, .int q28.1]) CX hM (kdl hk_r0 rfl) (ly6 hk_r0 _) rfl lk_L_50 (c_X6_setNumber l E B hk_r0 eq29) ⟨rfl, rfl, by decide, by decide⟩ rfl hl.1 rfl (Nat.le_of_ble_eq_true rfl) dL_does_191 (fun H locs hM => ?_)
              refine W.eq (g2 := F0 m 194 ls [.int q29.1]) rfl ?_
              obtain rfl := Option.some.inj h
              exact x_iret CX hr hlk hM rfl dL_does_194
            · replace h := if_h c26 h
              by_cases c30 : (x1 &&& 15) = 6
              · replace h := it_h c30 h
                refine lv_tableIn (off := 183) (tgt := 195) hx hb dL_does_12 (by rw [c30]; decide) (by rw [c30]; decide) (by rw [c30]; decide) (by decide) ?_
                refine lv_aload_n hx hb dL_does_195 rfl (lv_at hl 1 rfl) ?_
                refine lv_iload_n hx hb dL_does_196 rfl (lv_at hl 0 rfl) ?_
                refine lv_iload_n hx hb dL_does_197 rfl (lv_at hl 2 rfl) ?_
                refine lv_bipush (v := 6) hx hb dL_does_198 (by decide) ?_
                refine lv_ishr hx hb dL_does_200 ?_
                refine lv_ldc (v := 40001) hx hb CX.1.2.2.2.1 (x_hts CX wc_L_53) dL_does_201 ?_
                obtain ⟨q31, eq31, h⟩ := bd_h h
                refine x_callS (As := [.int (x1 >>> (6 &&& 31)), .int 40001]) CX hM lk_L_34 (c_L_low l E B  eq31) ⟨rfl, rfl, by decide, by decide⟩ rfl hl.1 rfl (Nat.le_of_ble_eq_true rfl) dL_does_203 (fun H locs hM => ?_)
                refine W.eq (g2 := F0 m 206 ls [.int q31.1, .int q1.1, .ref (B + r0)]) rfl ?_
                refine lv_sipush (v := 20000) hx hb dL_does_206 (by decide) ?_
                refine lv_isub hx hb dL_does_209 ?_
                obtain ⟨q32, eq32, h⟩ := bd_h h
                refine x_callV (As := [.int q1.1, .int (q31.1 - 20000)]) CX hM (kdl hk_r0 rfl) (ly6 hk_r0 _) rfl lk_L_54 (c_X6_warm l E B hk_r0 eq32) ⟨rfl, rfl, by decide, by decide⟩ rfl hl.1 rfl (Nat.le_of_ble_eq_true rfl) dL_does_210 (fun H locs hM => ?_)
                refine W.eq (g2 := F0 m 213 ls [.int q32.1]) rfl ?_
                obtain rfl := Option.some.inj h
                exact x_iret CX hr hlk hM rfl dL_does_213
              · replace h := if_h c30 h
                by_cases c33 : (x1 &&& 15) = 7
                · replace h := it_h c33 h
                  refine lv_tableIn (off := 202) (tgt := 214) hx hb dL_does_12 (by rw [c33]; decide) (by rw [c33]; decide) (by rw [c33]; decide) (by decide) ?_
                  refine lv_aload_n hx hb dL_does_214 rfl (lv_at hl 1 rfl) ?_
                  refine lv_iload_n hx hb dL_does_215 rfl (lv_at hl 0 rfl) ?_
                  obtain ⟨q34, eq34, h⟩ := bd_h h
                  refine x_callV (As := [.int q1.1]) CX hM (kdl hk_r0 rfl) (ly6 hk_r0 _) rfl lk_L_57 (c_X6_service l E B hk_r0 eq34) ⟨rfl, rfl, by decide, by decide⟩ rfl hl.1 rfl (Nat.le_of_ble_eq_true rfl) dL_does_216 (fun H locs hM => ?_)
                  refine W.eq (g2 := F0 m 219 ls [.int q34.1]) rfl ?_
                  obtain rfl := Option.some.inj h
                  exact x_iret CX hr hlk hM rfl dL_does_219
                · replace h := if_h c33 h
                  by_cases c35 : (x1 &&& 15) = 8
                  · replace h := it_h c35 h
                    refine lv_tableIn (off := 208) (tgt := 220) hx hb dL_does_12 (by rw [c35]; decide) (by rw [c35]; decide) (by rw [c35]; decide) (by decide) ?_
                    refine lv_aload_n hx hb dL_does_220 rfl (lv_at hl 1 rfl) ?_
                    refine lv_iload_n hx hb dL_does_221 rfl (lv_at hl 0 rfl) ?_
                    obtain ⟨q36, eq36, h⟩ := bd_h h
                    refine x_callV (As := [.int q1.1]) CX hM (kdl hk_r0 rfl) (ly6 hk_r0 _) rfl lk_L_60 (c_X6_resetCutout l E B hk_r0 eq36) ⟨rfl, rfl, by decide, by decide⟩ rfl hl.1 rfl (Nat.le_of_ble_eq_true rfl) dL_does_222 (fun H locs hM => ?_)
                    refine W.eq (g2 := F0 m 225 ls [.int q36.1]) rfl ?_
                    obtain rfl := Option.some.inj h
                    exact x_iret CX hr hlk hM rfl dL_does_225
                  · replace h := if_h c35 h
                    refine lv_tableOut (tgt := 226) hx hb dL_does_12 (tsw_out [0, 1, 2, 3, 4, 5, 6, 7, 8] (by decide) (by decide) (List.forall_mem_cons.mpr ⟨c2, (List.forall_mem_cons.mpr ⟨c8, (List.forall_mem_cons.mpr ⟨c14, (List.forall_mem_cons.mpr ⟨c18, (List.forall_mem_cons.mpr ⟨c22, (List.forall_mem_cons.mpr ⟨c26, (List.forall_mem_cons.mpr ⟨c30, (List.forall_mem_cons.mpr ⟨c33, (List.forall_mem_cons.mpr ⟨c35, (fun _ h => absurd h List.not_mem_nil)⟩)⟩)⟩)⟩)⟩)⟩)⟩)⟩)⟩)) (by decide) ?_
                    refine lv_aload_n hx hb dL_does_226 rfl (lv_at hl 1 rfl) ?_
                    refine lv_iload_n hx hb dL_does_227 rfl (lv_at hl 2 rfl) ?_
                    refine lv_bipush (v := 6) hx hb dL_does_228 (by decide) ?_
                    refine lv_ishr hx hb dL_does_230 ?_
                    refine lv_bipush (v := 40) hx hb dL_does_231 (by decide) ?_
                    obtain ⟨q37, eq37, h⟩ := bd_h h
                    refine x_callS (As := [.int (x1 >>> (6 &&& 31)), .int 40]) CX hM lk_L_34 (c_L_low l E B  eq37) ⟨rfl, rfl, by decide, by decide⟩ rfl hl.1 rfl (Nat.le_of_ble_eq_true rfl) dL_does_233 (fun H locs hM => ?_)
                    refine W.eq (g2 := F0 m 236 ls [.int q37.1, .ref (B + r0)]) rfl ?_
                    obtain ⟨q38, eq38, h⟩ := bd_h h
                    refine x_callV (As := [.int q37.1]) CX hM (kdl hk_r0 rfl) (ly6 hk_r0 _) rfl lk_L_63 (c_X6_pass l E B hk_r0 eq38) ⟨rfl, rfl, by decide, by decide⟩ rfl hl.1 rfl (Nat.le_of_ble_eq_true rfl) dL_does_236 (fun H locs hM => ?_)
                    refine W.eq (g2 := F0 m 239 ls [.int q38.1]) rfl ?_
                    obtain rfl := Option.some.inj h
                    exact x_iret CX hr hlk hM rfl dL_does_239
end
