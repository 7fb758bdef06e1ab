/-! the words of the constructors -/
theorem vi_L : Cond.initialized RL ∈ AL := AL_mem (AL_1 (List.mem_of_getElem? (i := 0) rfl)) rfl
theorem vi_X6 : Cond.initialized RX6 ∈ AL := AL_mem (AL_1 (List.mem_of_getElem? (i := 1) rfl)) rfl
theorem vi_X1 : Cond.initialized RX1 ∈ AL := AL_mem (AL_1 (List.mem_of_getElem? (i := 2) rfl)) rfl
theorem vi_X4 : Cond.initialized RX4 ∈ AL := AL_mem (AL_1 (List.mem_of_getElem? (i := 3) rfl)) rfl
theorem vi_X3 : Cond.initialized RX3 ∈ AL := AL_mem (AL_1 (List.mem_of_getElem? (i := 4) rfl)) rfl
theorem vi_X0 : Cond.initialized RX0 ∈ AL := AL_mem (AL_1 (List.mem_of_getElem? (i := 5) rfl)) rfl
theorem vi_X2 : Cond.initialized RX2 ∈ AL := AL_mem (AL_1 (List.mem_of_getElem? (i := 6) rfl)) rfl
theorem vi_X5 : Cond.initialized RX5 ∈ AL := AL_mem (AL_1 (List.mem_of_getElem? (i := 7) rfl)) rfl
theorem vi_J9 : Cond.initialized RJ9 ∈ AL := AL_mem (AL_1 (List.mem_of_getElem? (i := 8) rfl)) rfl
theorem vi_J10 : Cond.initialized RJ10 ∈ AL := AL_mem (AL_1 (List.mem_of_getElem? (i := 9) rfl)) rfl
theorem vl_L_13 : Cond.classLink RL 13 "ThermostatColony" ∈ AL := AL_mem (AL_1 (List.mem_of_getElem? (i := 10) rfl)) rfl
theorem vn_X6 : Cond.instantiable RX6 5 ∈ AL := AL_mem (AL_1 (List.mem_of_getElem? (i := 11) rfl)) rfl
theorem vm_L_66 : Cond.methodLink RL 66 yX6_init ∈ AL := AL_mem (AL_1 (List.mem_of_getElem? (i := 12) rfl)) rfl
theorem vs_X6 : Cond.instanceMethod yX6_init ∈ AL := AL_mem (AL_1 (List.mem_of_getElem? (i := 13) rfl)) rfl
theorem vk_X6 : Cond.code yX6_init cX6_init 1 none ∈ AL := AL_mem (AL_1 (List.mem_of_getElem? (i := 14) rfl)) rfl
theorem vo_X6 : Cond.methodLink RX6 1 Lib.objectInit ∈ AL := AL_mem (AL_1 (List.mem_of_getElem? (i := 15) rfl)) rfl
theorem vl_X6_7 : Cond.classLink RX6 7 "ThermostatColony$Colony" ∈ AL := AL_mem (AL_1 (List.mem_of_getElem? (i := 18) rfl)) rfl
theorem vn_X1 : Cond.instantiable RX1 6 ∈ AL := AL_mem (AL_1 (List.mem_of_getElem? (i := 19) rfl)) rfl
theorem vm_X6_9 : Cond.methodLink RX6 9 yX1_init ∈ AL := AL_mem (AL_1 (List.mem_of_getElem? (i := 20) rfl)) rfl
theorem vs_X1 : Cond.instanceMethod yX1_init ∈ AL := AL_mem (AL_1 (List.mem_of_getElem? (i := 21) rfl)) rfl
theorem vk_X1 : Cond.code yX1_init cX1_init 2 none ∈ AL := AL_mem (AL_1 (List.mem_of_getElem? (i := 22) rfl)) rfl
theorem vo_X1 : Cond.methodLink RX1 3 Lib.objectInit ∈ AL := AL_mem (AL_1 (List.mem_of_getElem? (i := 23) rfl)) rfl
theorem vl_X1_15 : Cond.classLink RX1 15 "ThermostatColony$Room" ∈ AL := AL_mem (AL_1 (List.mem_of_getElem? (i := 24) rfl)) rfl
theorem vl_X1_24 : Cond.classLink RX1 24 "ThermostatColony$Weather" ∈ AL := AL_mem (AL_1 (List.mem_of_getElem? (i := 26) rfl)) rfl
theorem vn_X4 : Cond.instantiable RX4 3 ∈ AL := AL_mem (AL_1 (List.mem_of_getElem? (i := 27) rfl)) rfl
theorem vs_X4 : Cond.instanceMethod yX4_init ∈ AL := AL_mem (AL_1 (List.mem_of_getElem? (i := 29) rfl)) rfl
theorem vk_X4 : Cond.code yX4_init cX4_init 1 none ∈ AL := AL_mem (AL_1 (List.mem_of_getElem? (i := 30) rfl)) rfl
theorem vo_X4 : Cond.methodLink RX4 3 Lib.objectInit ∈ AL := AL_mem (AL_1 (List.mem_of_getElem? (i := 31) rfl)) rfl
theorem vf_X4_9 : Cond.fieldLink RX4 9 "ThermostatColony$Weather" "minutes" "[I" ∈ AL := AL_mem (AL_1 (List.mem_of_getElem? (i := 32) rfl)) rfl
theorem vf_X4_15 : Cond.fieldLink RX4 15 "ThermostatColony$Weather" "degrees" "[I" ∈ AL := AL_mem (AL_1 (List.mem_of_getElem? (i := 33) rfl)) rfl
theorem vf_X4_24 : Cond.fieldLink RX4 24 "ThermostatColony$Weather" "size" "I" ∈ AL := AL_mem (AL_1 (List.mem_of_getElem? (i := 34) rfl)) rfl
theorem vf_X6_144 : Cond.fieldLink RX6 144 "ThermostatColony$Weather" "size" "I" ∈ AL := AL_mem (AL_1 (List.mem_of_getElem? (i := 35) rfl)) rfl
theorem va_w_int : Cond.arrayClass .int ∈ AL := AL_mem (AL_1 (List.mem_of_getElem? (i := 43) rfl)) rfl
theorem vn_X3 : Cond.instantiable RX3 18 ∈ AL := AL_mem (AL_1 (List.mem_of_getElem? (i := 46) rfl)) rfl
theorem vs_X3 : Cond.instanceMethod yX3_init ∈ AL := AL_mem (AL_1 (List.mem_of_getElem? (i := 48) rfl)) rfl
theorem vk_X3 : Cond.code yX3_init cX3_init 1 none ∈ AL := AL_mem (AL_1 (List.mem_of_getElem? (i := 49) rfl)) rfl
theorem vo_X3 : Cond.methodLink RX3 3 Lib.objectInit ∈ AL := AL_mem (AL_1 (List.mem_of_getElem? (i := 50) rfl)) rfl
theorem vl_X3_9 : Cond.classLink RX3 9 "ThermostatColony$Books" ∈ AL := AL_mem (AL_1 (List.mem_of_getElem? (i := 51) rfl)) rfl
theorem vn_X0 : Cond.instantiable RX0 5 ∈ AL := AL_mem (AL_1 (List.mem_of_getElem? (i := 52) rfl)) rfl
theorem vs_X0 : Cond.instanceMethod yX0_init ∈ AL := AL_mem (AL_1 (List.mem_of_getElem? (i := 54) rfl)) rfl
theorem vk_X0 : Cond.code yX0_init cX0_init 1 none ∈ AL := AL_mem (AL_1 (List.mem_of_getElem? (i := 55) rfl)) rfl
theorem vo_X0 : Cond.methodLink RX0 3 Lib.objectInit ∈ AL := AL_mem (AL_1 (List.mem_of_getElem? (i := 56) rfl)) rfl
theorem vf_X0_9 : Cond.fieldLink RX0 9 "ThermostatColony$Books" "firstHeat" "I" ∈ AL := AL_mem (AL_1 (List.mem_of_getElem? (i := 57) rfl)) rfl
theorem vf_X0_15 : Cond.fieldLink RX0 15 "ThermostatColony$Books" "fromHeater" "I" ∈ AL := AL_mem (AL_1 (List.mem_of_getElem? (i := 58) rfl)) rfl
theorem vf_X3_97 : Cond.fieldLink RX3 97 "ThermostatColony$Books" "fromHeater" "I" ∈ AL := AL_mem (AL_1 (List.mem_of_getElem? (i := 59) rfl)) rfl
theorem vf_X1_98 : Cond.fieldLink RX1 98 "ThermostatColony$Books" "fromHeater" "I" ∈ AL := AL_mem (AL_1 (List.mem_of_getElem? (i := 60) rfl)) rfl
theorem vf_X0_18 : Cond.fieldLink RX0 18 "ThermostatColony$Books" "toOutside" "I" ∈ AL := AL_mem (AL_1 (List.mem_of_getElem? (i := 61) rfl)) rfl
theorem vf_X3_100 : Cond.fieldLink RX3 100 "ThermostatColony$Books" "toOutside" "I" ∈ AL := AL_mem (AL_1 (List.mem_of_getElem? (i := 62) rfl)) rfl
theorem vf_X0_21 : Cond.fieldLink RX0 21 "ThermostatColony$Books" "toOthers" "I" ∈ AL := AL_mem (AL_1 (List.mem_of_getElem? (i := 63) rfl)) rfl
theorem vf_X3_103 : Cond.fieldLink RX3 103 "ThermostatColony$Books" "toOthers" "I" ∈ AL := AL_mem (AL_1 (List.mem_of_getElem? (i := 64) rfl)) rfl
theorem vf_X0_24 : Cond.fieldLink RX0 24 "ThermostatColony$Books" "byWarm" "I" ∈ AL := AL_mem (AL_1 (List.mem_of_getElem? (i := 65) rfl)) rfl
theorem vf_X3_94 : Cond.fieldLink RX3 94 "ThermostatColony$Books" "byWarm" "I" ∈ AL := AL_mem (AL_1 (List.mem_of_getElem? (i := 66) rfl)) rfl
theorem vf_X3_12 : Cond.fieldLink RX3 12 "ThermostatColony$Room" "books" "LThermostatColony$Books;" ∈ AL := AL_mem (AL_1 (List.mem_of_getElem? (i := 78) rfl)) rfl
theorem vf_X6_129 : Cond.fieldLink RX6 129 "ThermostatColony$Room" "books" "LThermostatColony$Books;" ∈ AL := AL_mem (AL_1 (List.mem_of_getElem? (i := 79) rfl)) rfl
theorem vf_X1_94 : Cond.fieldLink RX1 94 "ThermostatColony$Room" "books" "LThermostatColony$Books;" ∈ AL := AL_mem (AL_1 (List.mem_of_getElem? (i := 80) rfl)) rfl
theorem vf_X3_18 : Cond.fieldLink RX3 18 "ThermostatColony$Room" "capacity" "I" ∈ AL := AL_mem (AL_1 (List.mem_of_getElem? (i := 81) rfl)) rfl
theorem vf_X1_77 : Cond.fieldLink RX1 77 "ThermostatColony$Room" "capacity" "I" ∈ AL := AL_mem (AL_1 (List.mem_of_getElem? (i := 82) rfl)) rfl
theorem vf_X3_22 : Cond.fieldLink RX3 22 "ThermostatColony$Room" "power" "I" ∈ AL := AL_mem (AL_1 (List.mem_of_getElem? (i := 83) rfl)) rfl
theorem vf_X1_164 : Cond.fieldLink RX1 164 "ThermostatColony$Room" "power" "I" ∈ AL := AL_mem (AL_1 (List.mem_of_getElem? (i := 84) rfl)) rfl
theorem vf_X3_25 : Cond.fieldLink RX3 25 "ThermostatColony$Room" "leak" "I" ∈ AL := AL_mem (AL_1 (List.mem_of_getElem? (i := 85) rfl)) rfl
theorem vf_X1_71 : Cond.fieldLink RX1 71 "ThermostatColony$Room" "leak" "I" ∈ AL := AL_mem (AL_1 (List.mem_of_getElem? (i := 86) rfl)) rfl
theorem vf_X3_28 : Cond.fieldLink RX3 28 "ThermostatColony$Room" "heat" "I" ∈ AL := AL_mem (AL_1 (List.mem_of_getElem? (i := 87) rfl)) rfl
theorem vf_X6_100 : Cond.fieldLink RX6 100 "ThermostatColony$Room" "heat" "I" ∈ AL := AL_mem (AL_1 (List.mem_of_getElem? (i := 88) rfl)) rfl
theorem vf_X3_31 : Cond.fieldLink RX3 31 "ThermostatColony$Room" "point" "I" ∈ AL := AL_mem (AL_1 (List.mem_of_getElem? (i := 89) rfl)) rfl
theorem vf_X6_79 : Cond.fieldLink RX6 79 "ThermostatColony$Room" "point" "I" ∈ AL := AL_mem (AL_1 (List.mem_of_getElem? (i := 90) rfl)) rfl
theorem vf_X3_34 : Cond.fieldLink RX3 34 "ThermostatColony$Room" "band" "I" ∈ AL := AL_mem (AL_1 (List.mem_of_getElem? (i := 91) rfl)) rfl
theorem vf_X6_84 : Cond.fieldLink RX6 84 "ThermostatColony$Room" "band" "I" ∈ AL := AL_mem (AL_1 (List.mem_of_getElem? (i := 92) rfl)) rfl
theorem vf_X3_41 : Cond.fieldLink RX3 41 "ThermostatColony$Room" "blade" "I" ∈ AL := AL_mem (AL_1 (List.mem_of_getElem? (i := 93) rfl)) rfl
theorem vf_X1_139 : Cond.fieldLink RX1 139 "ThermostatColony$Room" "blade" "I" ∈ AL := AL_mem (AL_1 (List.mem_of_getElem? (i := 94) rfl)) rfl
theorem vf_X3_44 : Cond.fieldLink RX3 44 "ThermostatColony$Room" "closed" "Z" ∈ AL := AL_mem (AL_1 (List.mem_of_getElem? (i := 95) rfl)) rfl
theorem vf_X1_129 : Cond.fieldLink RX1 129 "ThermostatColony$Room" "closed" "Z" ∈ AL := AL_mem (AL_1 (List.mem_of_getElem? (i := 96) rfl)) rfl
theorem vf_X3_48 : Cond.fieldLink RX3 48 "ThermostatColony$Room" "welded" "Z" ∈ AL := AL_mem (AL_1 (List.mem_of_getElem? (i := 97) rfl)) rfl
theorem vf_X1_167 : Cond.fieldLink RX1 167 "ThermostatColony$Room" "welded" "Z" ∈ AL := AL_mem (AL_1 (List.mem_of_getElem? (i := 98) rfl)) rfl
theorem vf_X3_51 : Cond.fieldLink RX3 51 "ThermostatColony$Room" "tripped" "Z" ∈ AL := AL_mem (AL_1 (List.mem_of_getElem? (i := 99) rfl)) rfl
theorem vf_X6_122 : Cond.fieldLink RX6 122 "ThermostatColony$Room" "tripped" "Z" ∈ AL := AL_mem (AL_1 (List.mem_of_getElem? (i := 100) rfl)) rfl
theorem vf_X1_136 : Cond.fieldLink RX1 136 "ThermostatColony$Room" "tripped" "Z" ∈ AL := AL_mem (AL_1 (List.mem_of_getElem? (i := 101) rfl)) rfl
theorem vf_X3_54 : Cond.fieldLink RX3 54 "ThermostatColony$Room" "wear" "I" ∈ AL := AL_mem (AL_1 (List.mem_of_getElem? (i := 102) rfl)) rfl
theorem vf_X6_112 : Cond.fieldLink RX6 112 "ThermostatColony$Room" "wear" "I" ∈ AL := AL_mem (AL_1 (List.mem_of_getElem? (i := 103) rfl)) rfl
theorem vf_X1_161 : Cond.fieldLink RX1 161 "ThermostatColony$Room" "wear" "I" ∈ AL := AL_mem (AL_1 (List.mem_of_getElem? (i := 104) rfl)) rfl
theorem vf_X3_57 : Cond.fieldLink RX3 57 "ThermostatColony$Room" "attempts" "I" ∈ AL := AL_mem (AL_1 (List.mem_of_getElem? (i := 105) rfl)) rfl
theorem vf_X3_60 : Cond.fieldLink RX3 60 "ThermostatColony$Room" "closings" "I" ∈ AL := AL_mem (AL_1 (List.mem_of_getElem? (i := 106) rfl)) rfl
theorem vf_X1_155 : Cond.fieldLink RX1 155 "ThermostatColony$Room" "closings" "I" ∈ AL := AL_mem (AL_1 (List.mem_of_getElem? (i := 107) rfl)) rfl
theorem vf_X3_64 : Cond.fieldLink RX3 64 "ThermostatColony$Room" "latestClosing" "I" ∈ AL := AL_mem (AL_1 (List.mem_of_getElem? (i := 108) rfl)) rfl
theorem vf_X1_158 : Cond.fieldLink RX1 158 "ThermostatColony$Room" "latestClosing" "I" ∈ AL := AL_mem (AL_1 (List.mem_of_getElem? (i := 109) rfl)) rfl
theorem vf_X3_67 : Cond.fieldLink RX3 67 "ThermostatColony$Room" "fines" "I" ∈ AL := AL_mem (AL_1 (List.mem_of_getElem? (i := 110) rfl)) rfl
theorem vf_X1_91 : Cond.fieldLink RX1 91 "ThermostatColony$Room" "fines" "I" ∈ AL := AL_mem (AL_1 (List.mem_of_getElem? (i := 111) rfl)) rfl
theorem vf_X3_70 : Cond.fieldLink RX3 70 "ThermostatColony$Room" "suspectMinutes" "I" ∈ AL := AL_mem (AL_1 (List.mem_of_getElem? (i := 112) rfl)) rfl
theorem vf_X1_80 : Cond.fieldLink RX1 80 "ThermostatColony$Room" "suspectMinutes" "I" ∈ AL := AL_mem (AL_1 (List.mem_of_getElem? (i := 113) rfl)) rfl
theorem vf_X3_73 : Cond.fieldLink RX3 73 "ThermostatColony$Room" "minuteTemperature" "I" ∈ AL := AL_mem (AL_1 (List.mem_of_getElem? (i := 114) rfl)) rfl
theorem vf_X1_123 : Cond.fieldLink RX1 123 "ThermostatColony$Room" "minuteTemperature" "I" ∈ AL := AL_mem (AL_1 (List.mem_of_getElem? (i := 115) rfl)) rfl
theorem vf_X1_9 : Cond.fieldLink RX1 9 "ThermostatColony$Colony" "numbers" "[I" ∈ AL := AL_mem (AL_1 (List.mem_of_getElem? (i := 153) rfl)) rfl
theorem vf_X1_17 : Cond.fieldLink RX1 17 "ThermostatColony$Colony" "rooms" "[LThermostatColony$Room;" ∈ AL := AL_mem (AL_1 (List.mem_of_getElem? (i := 154) rfl)) rfl
theorem vf_X1_21 : Cond.fieldLink RX1 21 "ThermostatColony$Colony" "links" "[I" ∈ AL := AL_mem (AL_1 (List.mem_of_getElem? (i := 155) rfl)) rfl
theorem vf_X1_27 : Cond.fieldLink RX1 27 "ThermostatColony$Colony" "weather" "LThermostatColony$Weather;" ∈ AL := AL_mem (AL_1 (List.mem_of_getElem? (i := 156) rfl)) rfl
theorem vf_X6_141 : Cond.fieldLink RX6 141 "ThermostatColony$Colony" "weather" "LThermostatColony$Weather;" ∈ AL := AL_mem (AL_1 (List.mem_of_getElem? (i := 157) rfl)) rfl
theorem vf_X1_45 : Cond.fieldLink RX1 45 "ThermostatColony$Colony" "roomCount" "I" ∈ AL := AL_mem (AL_1 (List.mem_of_getElem? (i := 158) rfl)) rfl
theorem vf_X6_45 : Cond.fieldLink RX6 45 "ThermostatColony$Colony" "roomCount" "I" ∈ AL := AL_mem (AL_1 (List.mem_of_getElem? (i := 159) rfl)) rfl
theorem vf_X1_49 : Cond.fieldLink RX1 49 "ThermostatColony$Colony" "time" "I" ∈ AL := AL_mem (AL_1 (List.mem_of_getElem? (i := 160) rfl)) rfl
theorem vf_X6_138 : Cond.fieldLink RX6 138 "ThermostatColony$Colony" "time" "I" ∈ AL := AL_mem (AL_1 (List.mem_of_getElem? (i := 161) rfl)) rfl
theorem vl_X6_19 : Cond.classLink RX6 19 "ThermostatColony$History" ∈ AL := AL_mem (AL_1 (List.mem_of_getElem? (i := 175) rfl)) rfl
theorem vn_X2 : Cond.instantiable RX2 3 ∈ AL := AL_mem (AL_1 (List.mem_of_getElem? (i := 176) rfl)) rfl
theorem vm_X6_21 : Cond.methodLink RX6 21 yX2_init ∈ AL := AL_mem (AL_1 (List.mem_of_getElem? (i := 177) rfl)) rfl
theorem vs_X2 : Cond.instanceMethod yX2_init ∈ AL := AL_mem (AL_1 (List.mem_of_getElem? (i := 178) rfl)) rfl
theorem vk_X2 : Cond.code yX2_init cX2_init 2 none ∈ AL := AL_mem (AL_1 (List.mem_of_getElem? (i := 179) rfl)) rfl
theorem vo_X2 : Cond.methodLink RX2 3 Lib.objectInit ∈ AL := AL_mem (AL_1 (List.mem_of_getElem? (i := 180) rfl)) rfl
theorem vl_X2_9 : Cond.classLink RX2 9 "ThermostatColony$Colony" ∈ AL := AL_mem (AL_1 (List.mem_of_getElem? (i := 181) rfl)) rfl
theorem vm_X2_17 : Cond.methodLink RX2 17 yX1_init ∈ AL := AL_mem (AL_1 (List.mem_of_getElem? (i := 183) rfl)) rfl
theorem vf_X2_11 : Cond.fieldLink RX2 11 "ThermostatColony$History" "states" "[LThermostatColony$Colony;" ∈ AL := AL_mem (AL_1 (List.mem_of_getElem? (i := 184) rfl)) rfl
theorem vf_X2_18 : Cond.fieldLink RX2 18 "ThermostatColony$History" "next" "I" ∈ AL := AL_mem (AL_1 (List.mem_of_getElem? (i := 185) rfl)) rfl
theorem vf_X2_30 : Cond.fieldLink RX2 30 "ThermostatColony$History" "size" "I" ∈ AL := AL_mem (AL_1 (List.mem_of_getElem? (i := 186) rfl)) rfl
theorem vf_X6_156 : Cond.fieldLink RX6 156 "ThermostatColony$History" "size" "I" ∈ AL := AL_mem (AL_1 (List.mem_of_getElem? (i := 187) rfl)) rfl
theorem vl_X6_26 : Cond.classLink RX6 26 "ThermostatColony$WeatherText" ∈ AL := AL_mem (AL_1 (List.mem_of_getElem? (i := 195) rfl)) rfl
theorem vn_X5 : Cond.instantiable RX5 3 ∈ AL := AL_mem (AL_1 (List.mem_of_getElem? (i := 196) rfl)) rfl
theorem vs_X5 : Cond.instanceMethod yX5_init ∈ AL := AL_mem (AL_1 (List.mem_of_getElem? (i := 198) rfl)) rfl
theorem vk_X5 : Cond.code yX5_init cX5_init 1 none ∈ AL := AL_mem (AL_1 (List.mem_of_getElem? (i := 199) rfl)) rfl
theorem vo_X5 : Cond.methodLink RX5 3 Lib.objectInit ∈ AL := AL_mem (AL_1 (List.mem_of_getElem? (i := 200) rfl)) rfl
theorem vf_X5_9 : Cond.fieldLink RX5 9 "ThermostatColony$WeatherText" "characters" "[I" ∈ AL := AL_mem (AL_1 (List.mem_of_getElem? (i := 201) rfl)) rfl
theorem vf_X6_153 : Cond.fieldLink RX6 153 "ThermostatColony$WeatherText" "length" "I" ∈ AL := AL_mem (AL_1 (List.mem_of_getElem? (i := 202) rfl)) rfl
theorem vl_X6_33 : Cond.classLink RX6 33 "ThermostatColony$Weather" ∈ AL := AL_mem (AL_1 (List.mem_of_getElem? (i := 210) rfl)) rfl
theorem vf_X6_10 : Cond.fieldLink RX6 10 "ThermostatColony" "now" "LThermostatColony$Colony;" ∈ AL := AL_mem (AL_1 (List.mem_of_getElem? (i := 212) rfl)) rfl
theorem vf_X6_16 : Cond.fieldLink RX6 16 "ThermostatColony" "forecast" "LThermostatColony$Colony;" ∈ AL := AL_mem (AL_1 (List.mem_of_getElem? (i := 213) rfl)) rfl
theorem vf_X6_22 : Cond.fieldLink RX6 22 "ThermostatColony" "history" "LThermostatColony$History;" ∈ AL := AL_mem (AL_1 (List.mem_of_getElem? (i := 214) rfl)) rfl
theorem vf_X6_29 : Cond.fieldLink RX6 29 "ThermostatColony" "text" "LThermostatColony$WeatherText;" ∈ AL := AL_mem (AL_1 (List.mem_of_getElem? (i := 215) rfl)) rfl
theorem vf_X6_36 : Cond.fieldLink RX6 36 "ThermostatColony" "weatherRead" "LThermostatColony$Weather;" ∈ AL := AL_mem (AL_1 (List.mem_of_getElem? (i := 216) rfl)) rfl
theorem vf_X6_202 : Cond.fieldLink RX6 202 "ThermostatColony" "LEAST_NUMBERS" "[I" ∈ AL := AL_mem (AL_2 (List.mem_of_getElem? (i := 236) rfl)) rfl
theorem vf_X6_206 : Cond.fieldLink RX6 206 "ThermostatColony" "MOST_NUMBERS" "[I" ∈ AL := AL_mem (AL_2 (List.mem_of_getElem? (i := 238) rfl)) rfl
