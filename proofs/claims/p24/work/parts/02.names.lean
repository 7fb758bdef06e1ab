/-! ===== BEGIN words of one list among another's, by their places ===== -/
theorem goodIn_r {big : List Cond} (ws : List Cond) (ps : List Nat) (hp : ws = ps.filterMap (fun i => big[i]?)) (h : ws.all goodWord = true) : GoodIn big ws := by
  intro w hw
  have h1 := List.all_eq_true.mp h w hw
  rw [hp] at hw
  obtain ⟨i, -, hi⟩ := List.mem_filterMap.mp hw
  have hm : w ∈ big := by first | exact List.mem_of_getElem? hi | exact List.getElem?_mem hi
  exact ⟨hm, good_of_word h1⟩
theorem goodIn_app {big a b : List Cond} (ha : GoodIn big a) (hb : GoodIn big b) : GoodIn big (a ++ b) := fun w h => (List.mem_append.mp h).elim (ha w) (hb w)
theorem goodIn_ca {big a b : List Cond} {c : Cond} (ha : GoodIn big (c :: a)) (hb : GoodIn big b) : GoodIn big (c :: (a ++ b)) := fun w h => (List.mem_cons.mp h).elim (fun e => ha w (List.mem_cons.mpr (Or.inl e))) (fun h => (List.mem_append.mp h).elim (fun h => ha w (List.mem_cons.mpr (Or.inr h))) (hb w))
theorem goodIn_sub {big ws : List Cond} (hm : ∀ w ∈ ws, w ∈ big) (h : ws.all goodWord = true) : GoodIn big ws := fun w hw => ⟨hm w hw, good_of_word (List.all_eq_true.mp h w hw)⟩
/-! ===== END ===== -/

/-! ===== BEGIN printed: names, fields, word lists, decode rows ===== -/
def RX0 : String := "ThermostatColony$Books"
def TX0 : u_T := fun k => match k with
  | 0 => ("ThermostatColony$Books", "firstHeat", "I", false)
  | 1 => ("ThermostatColony$Books", "fromHeater", "I", false)
  | 2 => ("ThermostatColony$Books", "toOutside", "I", false)
  | 3 => ("ThermostatColony$Books", "toOthers", "I", false)
  | _ => ("ThermostatColony$Books", "byWarm", "I", false)
def tyX0 : Nat → FieldType := fun k => match k with
  | 0 => .int
  | 1 => .int
  | 2 => .int
  | 3 => .int
  | _ => .int
abbrev wsX00 : List Cond := u_ws RX0 TX0 5
theorem nmX0 : ∀ a, a < 5 → ∀ b, b < 5 → a ≠ b → (TX0 a).2.1 ≠ (TX0 b).2.1 := by decide +kernel
theorem tyX0_ok : ∀ k, k < 5 → parseFieldDescriptor (TX0 k).2.2.1 = some (tyX0 k) := by decide +kernel
abbrev cX0_init : ByteArray := prog_2_method_1_code
def yX0_init : MethodName := ⟨RX0, "<init>", "()V"⟩
abbrev cX0_begin : ByteArray := prog_2_method_2_code
def yX0_begin : MethodName := ⟨RX0, "begin", "(I)V"⟩
abbrev cX0_copyFrom : ByteArray := prog_2_method_3_code
def yX0_copyFrom : MethodName := ⟨RX0, "copyFrom", "(LThermostatColony$Books;)V"⟩
abbrev cX0_sum : ByteArray := prog_2_method_4_code
def yX0_sum : MethodName := ⟨RX0, "sum", "(I)I"⟩
def RX1 : String := "ThermostatColony$Colony"
def TX1 : u_T := fun k => match k with
  | 0 => ("ThermostatColony$Colony", "numbers", "[I", true)
  | 1 => ("ThermostatColony$Colony", "rooms", "[LThermostatColony$Room;", true)
  | 2 => ("ThermostatColony$Colony", "links", "[I", true)
  | 3 => ("ThermostatColony$Colony", "weather", "LThermostatColony$Weather;", true)
  | 4 => ("ThermostatColony$Colony", "roomCount", "I", false)
  | _ => ("ThermostatColony$Colony", "time", "I", false)
def tyX1 : Nat → FieldType := fun k => match k with
  | 0 => .array .int
  | 1 => .array (.object "ThermostatColony$Room")
  | 2 => .array .int
  | 3 => .object "ThermostatColony$Weather"
  | 4 => .int
  | _ => .int
abbrev wsX10 : List Cond := u_ws RX1 TX1 6
theorem nmX1 : ∀ a, a < 6 → ∀ b, b < 6 → a ≠ b → (TX1 a).2.1 ≠ (TX1 b).2.1 := by decide +kernel
theorem tyX1_ok : ∀ k, k < 6 → parseFieldDescriptor (TX1 k).2.2.1 = some (tyX1 k) := by decide +kernel
abbrev cX1_init : ByteArray := prog_3_method_1_code
def yX1_init : MethodName := ⟨RX1, "<init>", "()V"⟩
abbrev cX1_copyFrom : ByteArray := prog_3_method_2_code
def yX1_copyFrom : MethodName := ⟨RX1, "copyFrom", "(LThermostatColony$Colony;)V"⟩
abbrev cX1_number : ByteArray := prog_3_method_3_code
def yX1_number : MethodName := ⟨RX1, "number", "(I)I"⟩
abbrev cX1_putNumber : ByteArray := prog_3_method_4_code
def yX1_putNumber : MethodName := ⟨RX1, "putNumber", "(II)V"⟩
abbrev cX1_roomAt : ByteArray := prog_3_method_5_code
def yX1_roomAt : MethodName := ⟨RX1, "roomAt", "(I)LThermostatColony$Room;"⟩
abbrev cX1_beginRoom : ByteArray := prog_3_method_6_code
def yX1_beginRoom : MethodName := ⟨RX1, "beginRoom", "(IIII)I"⟩
abbrev cX1_hasPair : ByteArray := prog_3_method_7_code
def yX1_hasPair : MethodName := ⟨RX1, "hasPair", "(II)Z"⟩
abbrev cX1_linkOf : ByteArray := prog_3_method_8_code
def yX1_linkOf : MethodName := ⟨RX1, "linkOf", "(II)I"⟩
abbrev cX1_putLink : ByteArray := prog_3_method_9_code
def yX1_putLink : MethodName := ⟨RX1, "putLink", "(III)V"⟩
abbrev cX1_putLinkAt : ByteArray := prog_3_method_10_code
def yX1_putLinkAt : MethodName := ⟨RX1, "putLinkAt", "(II)V"⟩
abbrev cX1_linkPlace : ByteArray := prog_3_method_11_code
def yX1_linkPlace : MethodName := ⟨RX1, "linkPlace", "(II)I"⟩
abbrev cX1_canCarry : ByteArray := prog_3_method_12_code
def yX1_canCarry : MethodName := ⟨RX1, "canCarry", "(II)Z"⟩
abbrev cX1_isSuspect : ByteArray := prog_3_method_13_code
def yX1_isSuspect : MethodName := ⟨RX1, "isSuspect", "(LThermostatColony$Room;)Z"⟩
abbrev cX1_suspectRooms : ByteArray := prog_3_method_14_code
def yX1_suspectRooms : MethodName := ⟨RX1, "suspectRooms", "()I"⟩
abbrev cX1_allFines : ByteArray := prog_3_method_15_code
def yX1_allFines : MethodName := ⟨RX1, "allFines", "()I"⟩
abbrev cX1_heatFromHeaters : ByteArray := prog_3_method_16_code
def yX1_heatFromHeaters : MethodName := ⟨RX1, "heatFromHeaters", "()I"⟩
abbrev cX1_passMinutes : ByteArray := prog_3_method_17_code
def yX1_passMinutes : MethodName := ⟨RX1, "passMinutes", "(I)I"⟩
abbrev cX1_passMinute : ByteArray := prog_3_method_18_code
def yX1_passMinute : MethodName := ⟨RX1, "passMinute", "()I"⟩
abbrev cX1_heatRooms : ByteArray := prog_3_method_19_code
def yX1_heatRooms : MethodName := ⟨RX1, "heatRooms", "()V"⟩
abbrev cX1_exchangeHeat : ByteArray := prog_3_method_20_code
def yX1_exchangeHeat : MethodName := ⟨RX1, "exchangeHeat", "()V"⟩
abbrev cX1_settle : ByteArray := prog_3_method_21_code
def yX1_settle : MethodName := ⟨RX1, "settle", "(LThermostatColony$Room;)Z"⟩
abbrev cX1_close : ByteArray := prog_3_method_22_code
def yX1_close : MethodName := ⟨RX1, "close", "(LThermostatColony$Room;)V"⟩
def RX2 : String := "ThermostatColony$History"
def TX2 : u_T := fun k => match k with
  | 0 => ("ThermostatColony$History", "states", "[LThermostatColony$Colony;", true)
  | 1 => ("ThermostatColony$History", "next", "I", false)
  | _ => ("ThermostatColony$History", "size", "I", false)
def tyX2 : Nat → FieldType := fun k => match k with
  | 0 => .array (.object "ThermostatColony$Colony")
  | 1 => .int
  | _ => .int
abbrev wsX20 : List Cond := u_ws RX2 TX2 3
theorem nmX2 : ∀ a, a < 3 → ∀ b, b < 3 → a ≠ b → (TX2 a).2.1 ≠ (TX2 b).2.1 := by decide +kernel
theorem tyX2_ok : ∀ k, k < 3 → parseFieldDescriptor (TX2 k).2.2.1 = some (tyX2 k) := by decide +kernel
abbrev cX2_init : ByteArray := prog_4_method_1_code
def yX2_init : MethodName := ⟨RX2, "<init>", "()V"⟩
abbrev cX2_save : ByteArray := prog_4_method_2_code
def yX2_save : MethodName := ⟨RX2, "save", "(LThermostatColony$Colony;)V"⟩
abbrev cX2_restore : ByteArray := prog_4_method_3_code
def yX2_restore : MethodName := ⟨RX2, "restore", "(LThermostatColony$Colony;)V"⟩
abbrev cX2_stateAt : ByteArray := prog_4_method_4_code
def yX2_stateAt : MethodName := ⟨RX2, "stateAt", "(I)LThermostatColony$Colony;"⟩
def RX3 : String := "ThermostatColony$Room"
def TX3 : u_T := fun k => match k with
  | 0 => ("ThermostatColony$Room", "books", "LThermostatColony$Books;", true)
  | 1 => ("ThermostatColony$Room", "capacity", "I", false)
  | 2 => ("ThermostatColony$Room", "power", "I", false)
  | 3 => ("ThermostatColony$Room", "leak", "I", false)
  | 4 => ("ThermostatColony$Room", "heat", "I", false)
  | 5 => ("ThermostatColony$Room", "point", "I", false)
  | 6 => ("ThermostatColony$Room", "band", "I", false)
  | 7 => ("ThermostatColony$Room", "blade", "I", false)
  | 8 => ("ThermostatColony$Room", "closed", "Z", false)
  | 9 => ("ThermostatColony$Room", "welded", "Z", false)
  | 10 => ("ThermostatColony$Room", "tripped", "Z", false)
  | 11 => ("ThermostatColony$Room", "wear", "I", false)
  | 12 => ("ThermostatColony$Room", "attempts", "I", false)
  | 13 => ("ThermostatColony$Room", "closings", "I", false)
  | 14 => ("ThermostatColony$Room", "latestClosing", "I", false)
  | 15 => ("ThermostatColony$Room", "fines", "I", false)
  | 16 => ("ThermostatColony$Room", "suspectMinutes", "I", false)
  | _ => ("ThermostatColony$Room", "minuteTemperature", "I", false)
def tyX3 : Nat → FieldType := fun k => match k with
  | 0 => .object "ThermostatColony$Books"
  | 1 => .int
  | 2 => .int
  | 3 => .int
  | 4 => .int
  | 5 => .int
  | 6 => .int
  | 7 => .int
  | 8 => .boolean
  | 9 => .boolean
  | 10 => .boolean
  | 11 => .int
  | 12 => .int
  | 13 => .int
  | 14 => .int
  | 15 => .int
  | 16 => .int
  | _ => .int
abbrev wsX30 : List Cond := u_ws RX3 TX3 18
theorem nmX3 : ∀ a, a < 18 → ∀ b, b < 18 → a ≠ b → (TX3 a).2.1 ≠ (TX3 b).2.1 := by decide +kernel
theorem tyX3_ok : ∀ k, k < 18 → parseFieldDescriptor (TX3 k).2.2.1 = some (tyX3 k) := by decide +kernel
abbrev cX3_init : ByteArray := prog_5_method_1_code
def yX3_init : MethodName := ⟨RX3, "<init>", "()V"⟩
abbrev cX3_begin : ByteArray := prog_5_method_2_code
def yX3_begin : MethodName := ⟨RX3, "begin", "(IIII)V"⟩
abbrev cX3_copyFrom : ByteArray := prog_5_method_3_code
def yX3_copyFrom : MethodName := ⟨RX3, "copyFrom", "(LThermostatColony$Room;)V"⟩
abbrev cX3_temperature : ByteArray := prog_5_method_4_code
def yX3_temperature : MethodName := ⟨RX3, "temperature", "()I"⟩
abbrev cX3_temperatureWith : ByteArray := prog_5_method_5_code
def yX3_temperatureWith : MethodName := ⟨RX3, "temperatureWith", "(I)I"⟩
abbrev cX3_isBladeCold : ByteArray := prog_5_method_6_code
def yX3_isBladeCold : MethodName := ⟨RX3, "isBladeCold", "()Z"⟩
abbrev cX3_isBladeHot : ByteArray := prog_5_method_7_code
def yX3_isBladeHot : MethodName := ⟨RX3, "isBladeHot", "()Z"⟩
abbrev cX3_bringIn : ByteArray := prog_5_method_8_code
def yX3_bringIn : MethodName := ⟨RX3, "bringIn", "(I)V"⟩
abbrev cX3_beginMinute : ByteArray := prog_5_method_9_code
def yX3_beginMinute : MethodName := ⟨RX3, "beginMinute", "(I)V"⟩
abbrev cX3_giveToOthers : ByteArray := prog_5_method_10_code
def yX3_giveToOthers : MethodName := ⟨RX3, "giveToOthers", "(I)V"⟩
abbrev cX3_tryToOpen : ByteArray := prog_5_method_11_code
def yX3_tryToOpen : MethodName := ⟨RX3, "tryToOpen", "(I)V"⟩
abbrev cX3_renewContact : ByteArray := prog_5_method_12_code
def yX3_renewContact : MethodName := ⟨RX3, "renewContact", "()V"⟩
abbrev cX3_property : ByteArray := prog_5_method_13_code
def yX3_property : MethodName := ⟨RX3, "property", "(I)I"⟩
def RX4 : String := "ThermostatColony$Weather"
def TX4 : u_T := fun k => match k with
  | 0 => ("ThermostatColony$Weather", "minutes", "[I", true)
  | 1 => ("ThermostatColony$Weather", "degrees", "[I", true)
  | _ => ("ThermostatColony$Weather", "size", "I", false)
def tyX4 : Nat → FieldType := fun k => match k with
  | 0 => .array .int
  | 1 => .array .int
  | _ => .int
abbrev wsX40 : List Cond := u_ws RX4 TX4 3
theorem nmX4 : ∀ a, a < 3 → ∀ b, b < 3 → a ≠ b → (TX4 a).2.1 ≠ (TX4 b).2.1 := by decide +kernel
theorem tyX4_ok : ∀ k, k < 3 → parseFieldDescriptor (TX4 k).2.2.1 = some (tyX4 k) := by decide +kernel
abbrev cX4_init : ByteArray := prog_6_method_1_code
def yX4_init : MethodName := ⟨RX4, "<init>", "()V"⟩
abbrev cX4_copyFrom : ByteArray := prog_6_method_2_code
def yX4_copyFrom : MethodName := ⟨RX4, "copyFrom", "(LThermostatColony$Weather;)V"⟩
abbrev cX4_temperatureAt : ByteArray := prog_6_method_5_code
def yX4_temperatureAt : MethodName := ⟨RX4, "temperatureAt", "(I)I"⟩
abbrev cX4_temperatureBefore : ByteArray := prog_6_method_6_code
def yX4_temperatureBefore : MethodName := ⟨RX4, "temperatureBefore", "(II)I"⟩
def RX5 : String := "ThermostatColony$WeatherText"
def TX5 : u_T := fun k => match k with
  | 0 => ("ThermostatColony$WeatherText", "characters", "[I", true)
  | 1 => ("ThermostatColony$WeatherText", "length", "I", false)
  | _ => ("ThermostatColony$WeatherText", "position", "I", false)
def tyX5 : Nat → FieldType := fun k => match k with
  | 0 => .array .int
  | 1 => .int
  | _ => .int
abbrev wsX50 : List Cond := u_ws RX5 TX5 3
theorem nmX5 : ∀ a, a < 3 → ∀ b, b < 3 → a ≠ b → (TX5 a).2.1 ≠ (TX5 b).2.1 := by decide +kernel
theorem tyX5_ok : ∀ k, k < 3 → parseFieldDescriptor (TX5 k).2.2.1 = some (tyX5 k) := by decide +kernel
abbrev cX5_init : ByteArray := prog_7_method_1_code
def yX5_init : MethodName := ⟨RX5, "<init>", "()V"⟩
def RX6 : String := "ThermostatColony"
def TX6 : u_T := fun k => match k with
  | 0 => ("ThermostatColony", "now", "LThermostatColony$Colony;", true)
  | 1 => ("ThermostatColony", "forecast", "LThermostatColony$Colony;", true)
  | 2 => ("ThermostatColony", "history", "LThermostatColony$History;", true)
  | 3 => ("ThermostatColony", "text", "LThermostatColony$WeatherText;", true)
  | _ => ("ThermostatColony", "weatherRead", "LThermostatColony$Weather;", true)
def tyX6 : Nat → FieldType := fun k => match k with
  | 0 => .object "ThermostatColony$Colony"
  | 1 => .object "ThermostatColony$Colony"
  | 2 => .object "ThermostatColony$History"
  | 3 => .object "ThermostatColony$WeatherText"
  | _ => .object "ThermostatColony$Weather"
abbrev wsX60 : List Cond := u_ws RX6 TX6 5
theorem nmX6 : ∀ a, a < 5 → ∀ b, b < 5 → a ≠ b → (TX6 a).2.1 ≠ (TX6 b).2.1 := by decide +kernel
theorem tyX6_ok : ∀ k, k < 5 → parseFieldDescriptor (TX6 k).2.2.1 = some (tyX6 k) := by decide +kernel
abbrev cX6_init : ByteArray := prog_1_method_1_code
def yX6_init : MethodName := ⟨RX6, "<init>", "()V"⟩
abbrev cX6_addRoom : ByteArray := prog_1_method_2_code
def yX6_addRoom : MethodName := ⟨RX6, "addRoom", "(IIII)I"⟩
abbrev cX6_setLink : ByteArray := prog_1_method_3_code
def yX6_setLink : MethodName := ⟨RX6, "setLink", "(III)I"⟩
abbrev cX6_setThermostat : ByteArray := prog_1_method_4_code
def yX6_setThermostat : MethodName := ⟨RX6, "setThermostat", "(III)I"⟩
abbrev cX6_setNumber : ByteArray := prog_1_method_5_code
def yX6_setNumber : MethodName := ⟨RX6, "setNumber", "(II)I"⟩
abbrev cX6_warm : ByteArray := prog_1_method_6_code
def yX6_warm : MethodName := ⟨RX6, "warm", "(II)I"⟩
abbrev cX6_service : ByteArray := prog_1_method_7_code
def yX6_service : MethodName := ⟨RX6, "service", "(I)I"⟩
abbrev cX6_resetCutout : ByteArray := prog_1_method_8_code
def yX6_resetCutout : MethodName := ⟨RX6, "resetCutout", "(I)I"⟩
abbrev cX6_room : ByteArray := prog_1_method_9_code
def yX6_room : MethodName := ⟨RX6, "room", "(II)I"⟩
abbrev cX6_book : ByteArray := prog_1_method_10_code
def yX6_book : MethodName := ⟨RX6, "book", "(II)I"⟩
abbrev cX6_link : ByteArray := prog_1_method_11_code
def yX6_link : MethodName := ⟨RX6, "link", "(II)I"⟩
abbrev cX6_count : ByteArray := prog_1_method_12_code
def yX6_count : MethodName := ⟨RX6, "count", "(I)I"⟩
abbrev cX6_pass : ByteArray := prog_1_method_17_code
def yX6_pass : MethodName := ⟨RX6, "pass", "(I)I"⟩
abbrev cX6_minutesToSuspect : ByteArray := prog_1_method_18_code
def yX6_minutesToSuspect : MethodName := ⟨RX6, "minutesToSuspect", "(I)I"⟩
abbrev cX6_heatIn : ByteArray := prog_1_method_19_code
def yX6_heatIn : MethodName := ⟨RX6, "heatIn", "(I)I"⟩
abbrev cX6_undo : ByteArray := prog_1_method_22_code
def yX6_undo : MethodName := ⟨RX6, "undo", "()I"⟩
abbrev cX6_isNumberInRange : ByteArray := prog_1_method_25_code
def yX6_isNumberInRange : MethodName := ⟨RX6, "isNumberInRange", "(II)Z"⟩
abbrev cX6_within : ByteArray := prog_1_method_26_code
def yX6_within : MethodName := ⟨RX6, "within", "(III)Z"⟩
def RX7 : String := "ThermostatColonyModel"
def TX7 : u_T := fun k => match k with
  | _ => ("", "", "", false)
def tyX7 : Nat → FieldType := fun k => match k with
  | _ => .int
abbrev wsX70 : List Cond := u_ws RX7 TX7 0
theorem nmX7 : ∀ a, a < 0 → ∀ b, b < 0 → a ≠ b → (TX7 a).2.1 ≠ (TX7 b).2.1 := by decide +kernel
theorem tyX7_ok : ∀ k, k < 0 → parseFieldDescriptor (TX7 k).2.2.1 = some (tyX7 k) := by decide +kernel
def RJ9 : String := "java/lang/Math"
def TJ9 : u_T := fun k => match k with
  | _ => ("", "", "", false)
def tyJ9 : Nat → FieldType := fun k => match k with
  | _ => .int
abbrev wsJ90 : List Cond := u_ws RJ9 TJ9 0
theorem nmJ9 : ∀ a, a < 0 → ∀ b, b < 0 → a ≠ b → (TJ9 a).2.1 ≠ (TJ9 b).2.1 := by decide +kernel
theorem tyJ9_ok : ∀ k, k < 0 → parseFieldDescriptor (TJ9 k).2.2.1 = some (tyJ9 k) := by decide +kernel
abbrev cJ9_floorDiv_7cf53 : ByteArray := prog_10_method_47_code
def yJ9_floorDiv_7cf53 : MethodName := ⟨RJ9, "floorDiv", "(II)I"⟩
abbrev cJ9_min_7cf53 : ByteArray := prog_10_method_69_code
def yJ9_min_7cf53 : MethodName := ⟨RJ9, "min", "(II)I"⟩
def RJ10 : String := "java/lang/System"
def TJ10 : u_T := fun k => match k with
  | _ => ("", "", "", false)
def tyJ10 : Nat → FieldType := fun k => match k with
  | _ => .int
abbrev wsJ100 : List Cond := u_ws RJ10 TJ10 0
theorem nmJ10 : ∀ a, a < 0 → ∀ b, b < 0 → a ≠ b → (TJ10 a).2.1 ≠ (TJ10 b).2.1 := by decide +kernel
theorem tyJ10_ok : ∀ k, k < 0 → parseFieldDescriptor (TJ10 k).2.2.1 = some (tyJ10 k) := by decide +kernel
def RL : String := "ThermostatColonyLaw"
abbrev cL_cell : ByteArray := method_2_code
def yL_cell : MethodName := ⟨RL, "cell", "([II)I"⟩
abbrev cL_low : ByteArray := method_3_code
def yL_low : MethodName := ⟨RL, "low", "(II)I"⟩
abbrev cL_tale : ByteArray := method_4_code
def yL_tale : MethodName := ⟨RL, "tale", "(LThermostatColony;)J"⟩
abbrev cL_does : ByteArray := method_5_code
def yL_does : MethodName := ⟨RL, "does", "(LThermostatColony;I)I"⟩
abbrev cL_law : ByteArray := code
def yL_law : MethodName := ⟨RL, "law", "([I)Z"⟩
abbrev vwCl : List vw_C := [(RX0, TX0, 5), (RX1, TX1, 6), (RX2, TX2, 3), (RX3, TX3, 18), (RX4, TX4, 3), (RX5, TX5, 3), (RX6, TX6, 5)]
