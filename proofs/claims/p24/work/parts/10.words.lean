/-! the words that the contracts use, by their places in the tables -/
theorem wk_X6_count : Cond.code yX6_count cX6_count 2 (some .int) ∈ AL := AL_mem (AL_2 (List.mem_of_getElem? (i := 25) rfl)) rfl
theorem wi_X6 : Cond.initialized RX6 ∈ AL := AL_mem (AL_1 (List.mem_of_getElem? (i := 1) rfl)) rfl
theorem ws_X6_count : Cond.instanceMethod yX6_count ∈ AL := AL_mem (AL_2 (List.mem_of_getElem? (i := 23) rfl)) rfl
theorem wv_X6_count : Cond.selects yX6_count.cls yX6_count yX6_count ∈ AL := AL_mem (AL_2 (List.mem_of_getElem? (i := 24) rfl)) rfl
theorem lk_L_12 : xLV RL 12 yX6_count cX6_count 2 (some .int) 1 := ⟨⟨AL_mem (AL_2 (List.mem_of_getElem? (i := 22) rfl)) rfl, ws_X6_count, wv_X6_count, wi_X6, wk_X6_count⟩, by decide, by decide, by decide +kernel⟩
theorem wk_X6_room : Cond.code yX6_room cX6_room 4 (some .int) ∈ AL := AL_mem (AL_1 (List.mem_of_getElem? (i := 231) rfl)) rfl
theorem ws_X6_room : Cond.instanceMethod yX6_room ∈ AL := AL_mem (AL_1 (List.mem_of_getElem? (i := 229) rfl)) rfl
theorem wv_X6_room : Cond.selects yX6_room.cls yX6_room yX6_room ∈ AL := AL_mem (AL_1 (List.mem_of_getElem? (i := 230) rfl)) rfl
theorem lk_L_20 : xLV RL 20 yX6_room cX6_room 4 (some .int) 2 := ⟨⟨AL_mem (AL_1 (List.mem_of_getElem? (i := 228) rfl)) rfl, ws_X6_room, wv_X6_room, wi_X6, wk_X6_room⟩, by decide, by decide, by decide +kernel⟩
theorem wk_X6_book : Cond.code yX6_book cX6_book 4 (some .int) ∈ AL := AL_mem (AL_2 (List.mem_of_getElem? (i := 16) rfl)) rfl
theorem ws_X6_book : Cond.instanceMethod yX6_book ∈ AL := AL_mem (AL_2 (List.mem_of_getElem? (i := 14) rfl)) rfl
theorem wv_X6_book : Cond.selects yX6_book.cls yX6_book yX6_book ∈ AL := AL_mem (AL_2 (List.mem_of_getElem? (i := 15) rfl)) rfl
theorem lk_L_26 : xLV RL 26 yX6_book cX6_book 4 (some .int) 2 := ⟨⟨AL_mem (AL_2 (List.mem_of_getElem? (i := 13) rfl)) rfl, ws_X6_book, wv_X6_book, wi_X6, wk_X6_book⟩, by decide, by decide, by decide +kernel⟩
theorem wk_X6_link : Cond.code yX6_link cX6_link 3 (some .int) ∈ AL := AL_mem (AL_2 (List.mem_of_getElem? (i := 170) rfl)) rfl
theorem ws_X6_link : Cond.instanceMethod yX6_link ∈ AL := AL_mem (AL_2 (List.mem_of_getElem? (i := 168) rfl)) rfl
theorem wv_X6_link : Cond.selects yX6_link.cls yX6_link yX6_link ∈ AL := AL_mem (AL_2 (List.mem_of_getElem? (i := 169) rfl)) rfl
theorem lk_L_31 : xLV RL 31 yX6_link cX6_link 3 (some .int) 2 := ⟨⟨AL_mem (AL_2 (List.mem_of_getElem? (i := 167) rfl)) rfl, ws_X6_link, wv_X6_link, wi_X6, wk_X6_link⟩, by decide, by decide, by decide +kernel⟩
theorem wk_L_low : Cond.code yL_low cL_low 2 (some .int) ∈ AL := AL_mem (AL_2 (List.mem_of_getElem? (i := 181) rfl)) rfl
theorem wi_L : Cond.initialized RL ∈ AL := AL_mem (AL_1 (List.mem_of_getElem? (i := 0) rfl)) rfl
theorem ws_L_low : Cond.static yL_low ∈ AL := AL_mem (AL_2 (List.mem_of_getElem? (i := 180) rfl)) rfl
theorem lk_L_34 : xLS RL 34 yL_low cL_low 2 (some .int) 2 := ⟨⟨AL_mem (AL_2 (List.mem_of_getElem? (i := 179) rfl)) rfl, ws_L_low, wi_L, wk_L_low⟩, by decide, by decide, by decide +kernel⟩
theorem wk_X6_addRoom : Cond.code yX6_addRoom cX6_addRoom 5 (some .int) ∈ AL := AL_mem (AL_2 (List.mem_of_getElem? (i := 186) rfl)) rfl
theorem ws_X6_addRoom : Cond.instanceMethod yX6_addRoom ∈ AL := AL_mem (AL_2 (List.mem_of_getElem? (i := 184) rfl)) rfl
theorem wv_X6_addRoom : Cond.selects yX6_addRoom.cls yX6_addRoom yX6_addRoom ∈ AL := AL_mem (AL_2 (List.mem_of_getElem? (i := 185) rfl)) rfl
theorem lk_L_39 : xLV RL 39 yX6_addRoom cX6_addRoom 5 (some .int) 4 := ⟨⟨AL_mem (AL_2 (List.mem_of_getElem? (i := 183) rfl)) rfl, ws_X6_addRoom, wv_X6_addRoom, wi_X6, wk_X6_addRoom⟩, by decide, by decide, by decide +kernel⟩
theorem wk_X6_setLink : Cond.code yX6_setLink cX6_setLink 6 (some .int) ∈ AL := AL_mem (AL_2 (List.mem_of_getElem? (i := 211) rfl)) rfl
theorem ws_X6_setLink : Cond.instanceMethod yX6_setLink ∈ AL := AL_mem (AL_2 (List.mem_of_getElem? (i := 209) rfl)) rfl
theorem wv_X6_setLink : Cond.selects yX6_setLink.cls yX6_setLink yX6_setLink ∈ AL := AL_mem (AL_2 (List.mem_of_getElem? (i := 210) rfl)) rfl
theorem lk_L_43 : xLV RL 43 yX6_setLink cX6_setLink 6 (some .int) 3 := ⟨⟨AL_mem (AL_2 (List.mem_of_getElem? (i := 208) rfl)) rfl, ws_X6_setLink, wv_X6_setLink, wi_X6, wk_X6_setLink⟩, by decide, by decide, by decide +kernel⟩
theorem wk_X6_setThermostat : Cond.code yX6_setThermostat cX6_setThermostat 6 (some .int) ∈ AL := AL_mem (AL_2 (List.mem_of_getElem? (i := 227) rfl)) rfl
theorem ws_X6_setThermostat : Cond.instanceMethod yX6_setThermostat ∈ AL := AL_mem (AL_2 (List.mem_of_getElem? (i := 225) rfl)) rfl
theorem wv_X6_setThermostat : Cond.selects yX6_setThermostat.cls yX6_setThermostat yX6_setThermostat ∈ AL := AL_mem (AL_2 (List.mem_of_getElem? (i := 226) rfl)) rfl
theorem lk_L_47 : xLV RL 47 yX6_setThermostat cX6_setThermostat 6 (some .int) 3 := ⟨⟨AL_mem (AL_2 (List.mem_of_getElem? (i := 224) rfl)) rfl, ws_X6_setThermostat, wv_X6_setThermostat, wi_X6, wk_X6_setThermostat⟩, by decide, by decide, by decide +kernel⟩
theorem wk_X6_setNumber : Cond.code yX6_setNumber cX6_setNumber 4 (some .int) ∈ AL := AL_mem (AL_2 (List.mem_of_getElem? (i := 232) rfl)) rfl
theorem ws_X6_setNumber : Cond.instanceMethod yX6_setNumber ∈ AL := AL_mem (AL_2 (List.mem_of_getElem? (i := 230) rfl)) rfl
theorem wv_X6_setNumber : Cond.selects yX6_setNumber.cls yX6_setNumber yX6_setNumber ∈ AL := AL_mem (AL_2 (List.mem_of_getElem? (i := 231) rfl)) rfl
theorem lk_L_50 : xLV RL 50 yX6_setNumber cX6_setNumber 4 (some .int) 2 := ⟨⟨AL_mem (AL_2 (List.mem_of_getElem? (i := 229) rfl)) rfl, ws_X6_setNumber, wv_X6_setNumber, wi_X6, wk_X6_setNumber⟩, by decide, by decide, by decide +kernel⟩
theorem wk_X6_warm : Cond.code yX6_warm cX6_warm 5 (some .int) ∈ AL := AL_mem (AL_3 (List.mem_of_getElem? (i := 8) rfl)) rfl
theorem ws_X6_warm : Cond.instanceMethod yX6_warm ∈ AL := AL_mem (AL_3 (List.mem_of_getElem? (i := 6) rfl)) rfl
theorem wv_X6_warm : Cond.selects yX6_warm.cls yX6_warm yX6_warm ∈ AL := AL_mem (AL_3 (List.mem_of_getElem? (i := 7) rfl)) rfl
theorem lk_L_54 : xLV RL 54 yX6_warm cX6_warm 5 (some .int) 2 := ⟨⟨AL_mem (AL_3 (List.mem_of_getElem? (i := 5) rfl)) rfl, ws_X6_warm, wv_X6_warm, wi_X6, wk_X6_warm⟩, by decide, by decide, by decide +kernel⟩
theorem wk_X6_service : Cond.code yX6_service cX6_service 4 (some .int) ∈ AL := AL_mem (AL_3 (List.mem_of_getElem? (i := 21) rfl)) rfl
theorem ws_X6_service : Cond.instanceMethod yX6_service ∈ AL := AL_mem (AL_3 (List.mem_of_getElem? (i := 19) rfl)) rfl
theorem wv_X6_service : Cond.selects yX6_service.cls yX6_service yX6_service ∈ AL := AL_mem (AL_3 (List.mem_of_getElem? (i := 20) rfl)) rfl
theorem lk_L_57 : xLV RL 57 yX6_service cX6_service 4 (some .int) 1 := ⟨⟨AL_mem (AL_3 (List.mem_of_getElem? (i := 18) rfl)) rfl, ws_X6_service, wv_X6_service, wi_X6, wk_X6_service⟩, by decide, by decide, by decide +kernel⟩
theorem wk_X6_resetCutout : Cond.code yX6_resetCutout cX6_resetCutout 4 (some .int) ∈ AL := AL_mem (AL_3 (List.mem_of_getElem? (i := 29) rfl)) rfl
theorem ws_X6_resetCutout : Cond.instanceMethod yX6_resetCutout ∈ AL := AL_mem (AL_3 (List.mem_of_getElem? (i := 27) rfl)) rfl
theorem wv_X6_resetCutout : Cond.selects yX6_resetCutout.cls yX6_resetCutout yX6_resetCutout ∈ AL := AL_mem (AL_3 (List.mem_of_getElem? (i := 28) rfl)) rfl
theorem lk_L_60 : xLV RL 60 yX6_resetCutout cX6_resetCutout 4 (some .int) 1 := ⟨⟨AL_mem (AL_3 (List.mem_of_getElem? (i := 26) rfl)) rfl, ws_X6_resetCutout, wv_X6_resetCutout, wi_X6, wk_X6_resetCutout⟩, by decide, by decide, by decide +kernel⟩
theorem wk_X6_pass : Cond.code yX6_pass cX6_pass 2 (some .int) ∈ AL := AL_mem (AL_3 (List.mem_of_getElem? (i := 34) rfl)) rfl
theorem ws_X6_pass : Cond.instanceMethod yX6_pass ∈ AL := AL_mem (AL_3 (List.mem_of_getElem? (i := 32) rfl)) rfl
theorem wv_X6_pass : Cond.selects yX6_pass.cls yX6_pass yX6_pass ∈ AL := AL_mem (AL_3 (List.mem_of_getElem? (i := 33) rfl)) rfl
theorem lk_L_63 : xLV RL 63 yX6_pass cX6_pass 2 (some .int) 1 := ⟨⟨AL_mem (AL_3 (List.mem_of_getElem? (i := 31) rfl)) rfl, ws_X6_pass, wv_X6_pass, wi_X6, wk_X6_pass⟩, by decide, by decide, by decide +kernel⟩
theorem wk_X1_passMinute : Cond.code yX1_passMinute cX1_passMinute 4 (some .int) ∈ AL := AL_mem (AL_2 (List.mem_of_getElem? (i := 75) rfl)) rfl
theorem wi_X1 : Cond.initialized RX1 ∈ AL := AL_mem (AL_1 (List.mem_of_getElem? (i := 2) rfl)) rfl
theorem ws_X1_passMinute : Cond.instanceMethod yX1_passMinute ∈ AL := AL_mem (AL_2 (List.mem_of_getElem? (i := 73) rfl)) rfl
theorem wv_X1_passMinute : Cond.selects yX1_passMinute.cls yX1_passMinute yX1_passMinute ∈ AL := AL_mem (AL_2 (List.mem_of_getElem? (i := 74) rfl)) rfl
theorem lk_X1_103 : xLV RX1 103 yX1_passMinute cX1_passMinute 4 (some .int) 0 := ⟨⟨AL_mem (AL_2 (List.mem_of_getElem? (i := 137) rfl)) rfl, ws_X1_passMinute, wv_X1_passMinute, wi_X1, wk_X1_passMinute⟩, by decide, by decide, by decide +kernel⟩
theorem wk_X1_heatRooms : Cond.code yX1_heatRooms cX1_heatRooms 4 none ∈ AL := AL_mem (AL_2 (List.mem_of_getElem? (i := 79) rfl)) rfl
theorem ws_X1_heatRooms : Cond.instanceMethod yX1_heatRooms ∈ AL := AL_mem (AL_2 (List.mem_of_getElem? (i := 78) rfl)) rfl
theorem wv_X1_heatRooms : Cond.selects yX1_heatRooms.cls yX1_heatRooms yX1_heatRooms ∈ AL := AL_memP (List.mem_of_getElem? (i := 0) rfl) rfl
theorem lk_X1_107 : xLV RX1 107 yX1_heatRooms cX1_heatRooms 4 none 0 := ⟨⟨AL_mem (AL_2 (List.mem_of_getElem? (i := 76) rfl)) rfl, ws_X1_heatRooms, wv_X1_heatRooms, wi_X1, wk_X1_heatRooms⟩, by decide, by decide, by decide +kernel⟩
theorem wk_X1_exchangeHeat : Cond.code yX1_exchangeHeat cX1_exchangeHeat 7 none ∈ AL := AL_mem (AL_2 (List.mem_of_getElem? (i := 95) rfl)) rfl
theorem ws_X1_exchangeHeat : Cond.instanceMethod yX1_exchangeHeat ∈ AL := AL_mem (AL_2 (List.mem_of_getElem? (i := 94) rfl)) rfl
theorem wv_X1_exchangeHeat : Cond.selects yX1_exchangeHeat.cls yX1_exchangeHeat yX1_exchangeHeat ∈ AL := AL_memP (List.mem_of_getElem? (i := 2) rfl) rfl
theorem lk_X1_110 : xLV RX1 110 yX1_exchangeHeat cX1_exchangeHeat 7 none 0 := ⟨⟨AL_mem (AL_2 (List.mem_of_getElem? (i := 92) rfl)) rfl, ws_X1_exchangeHeat, wv_X1_exchangeHeat, wi_X1, wk_X1_exchangeHeat⟩, by decide, by decide, by decide +kernel⟩
theorem wk_X1_settle : Cond.code yX1_settle cX1_settle 4 (some .boolean) ∈ AL := AL_mem (AL_2 (List.mem_of_getElem? (i := 110) rfl)) rfl
theorem ws_X1_settle : Cond.instanceMethod yX1_settle ∈ AL := AL_mem (AL_2 (List.mem_of_getElem? (i := 109) rfl)) rfl
theorem wv_X1_settle : Cond.selects yX1_settle.cls yX1_settle yX1_settle ∈ AL := AL_memP (List.mem_of_getElem? (i := 3) rfl) rfl
theorem lk_X1_113 : xLV RX1 113 yX1_settle cX1_settle 4 (some .boolean) 1 := ⟨⟨AL_mem (AL_2 (List.mem_of_getElem? (i := 107) rfl)) rfl, ws_X1_settle, wv_X1_settle, wi_X1, wk_X1_settle⟩, by decide, by decide, by decide +kernel⟩
theorem wk_X4_temperatureAt : Cond.code yX4_temperatureAt cX4_temperatureAt 4 (some .int) ∈ AL := AL_mem (AL_2 (List.mem_of_getElem? (i := 83) rfl)) rfl
theorem wi_X4 : Cond.initialized RX4 ∈ AL := AL_mem (AL_1 (List.mem_of_getElem? (i := 3) rfl)) rfl
theorem ws_X4_temperatureAt : Cond.instanceMethod yX4_temperatureAt ∈ AL := AL_mem (AL_2 (List.mem_of_getElem? (i := 81) rfl)) rfl
theorem wv_X4_temperatureAt : Cond.selects yX4_temperatureAt.cls yX4_temperatureAt yX4_temperatureAt ∈ AL := AL_mem (AL_2 (List.mem_of_getElem? (i := 82) rfl)) rfl
theorem lk_X1_116 : xLV RX1 116 yX4_temperatureAt cX4_temperatureAt 4 (some .int) 1 := ⟨⟨AL_mem (AL_2 (List.mem_of_getElem? (i := 80) rfl)) rfl, ws_X4_temperatureAt, wv_X4_temperatureAt, wi_X4, wk_X4_temperatureAt⟩, by decide, by decide, by decide +kernel⟩
theorem wk_X3_beginMinute : Cond.code yX3_beginMinute cX3_beginMinute 3 none ∈ AL := AL_mem (AL_2 (List.mem_of_getElem? (i := 91) rfl)) rfl
theorem wi_X3 : Cond.initialized RX3 ∈ AL := AL_mem (AL_1 (List.mem_of_getElem? (i := 4) rfl)) rfl
theorem ws_X3_beginMinute : Cond.instanceMethod yX3_beginMinute ∈ AL := AL_mem (AL_2 (List.mem_of_getElem? (i := 89) rfl)) rfl
theorem wv_X3_beginMinute : Cond.selects yX3_beginMinute.cls yX3_beginMinute yX3_beginMinute ∈ AL := AL_mem (AL_2 (List.mem_of_getElem? (i := 90) rfl)) rfl
theorem lk_X1_119 : xLV RX1 119 yX3_beginMinute cX3_beginMinute 3 none 1 := ⟨⟨AL_mem (AL_2 (List.mem_of_getElem? (i := 88) rfl)) rfl, ws_X3_beginMinute, wv_X3_beginMinute, wi_X3, wk_X3_beginMinute⟩, by decide, by decide, by decide +kernel⟩
theorem wk_X3_giveToOthers : Cond.code yX3_giveToOthers cX3_giveToOthers 2 none ∈ AL := AL_mem (AL_2 (List.mem_of_getElem? (i := 106) rfl)) rfl
theorem ws_X3_giveToOthers : Cond.instanceMethod yX3_giveToOthers ∈ AL := AL_mem (AL_2 (List.mem_of_getElem? (i := 104) rfl)) rfl
theorem wv_X3_giveToOthers : Cond.selects yX3_giveToOthers.cls yX3_giveToOthers yX3_giveToOthers ∈ AL := AL_mem (AL_2 (List.mem_of_getElem? (i := 105) rfl)) rfl
theorem lk_X1_126 : xLV RX1 126 yX3_giveToOthers cX3_giveToOthers 2 none 1 := ⟨⟨AL_mem (AL_2 (List.mem_of_getElem? (i := 103) rfl)) rfl, ws_X3_giveToOthers, wv_X3_giveToOthers, wi_X3, wk_X3_giveToOthers⟩, by decide, by decide, by decide +kernel⟩
theorem wk_X3_temperature : Cond.code yX3_temperature cX3_temperature 1 (some .int) ∈ AL := AL_mem (AL_2 (List.mem_of_getElem? (i := 4) rfl)) rfl
theorem ws_X3_temperature : Cond.instanceMethod yX3_temperature ∈ AL := AL_mem (AL_2 (List.mem_of_getElem? (i := 2) rfl)) rfl
theorem wv_X3_temperature : Cond.selects yX3_temperature.cls yX3_temperature yX3_temperature ∈ AL := AL_mem (AL_2 (List.mem_of_getElem? (i := 3) rfl)) rfl
theorem lk_X1_133 : xLV RX1 133 yX3_temperature cX3_temperature 1 (some .int) 0 := ⟨⟨AL_mem (AL_2 (List.mem_of_getElem? (i := 111) rfl)) rfl, ws_X3_temperature, wv_X3_temperature, wi_X3, wk_X3_temperature⟩, by decide, by decide, by decide +kernel⟩
theorem wk_X3_isBladeCold : Cond.code yX3_isBladeCold cX3_isBladeCold 1 (some .boolean) ∈ AL := AL_mem (AL_2 (List.mem_of_getElem? (i := 115) rfl)) rfl
theorem ws_X3_isBladeCold : Cond.instanceMethod yX3_isBladeCold ∈ AL := AL_mem (AL_2 (List.mem_of_getElem? (i := 113) rfl)) rfl
theorem wv_X3_isBladeCold : Cond.selects yX3_isBladeCold.cls yX3_isBladeCold yX3_isBladeCold ∈ AL := AL_mem (AL_2 (List.mem_of_getElem? (i := 114) rfl)) rfl
theorem lk_X1_142 : xLV RX1 142 yX3_isBladeCold cX3_isBladeCold 1 (some .boolean) 0 := ⟨⟨AL_mem (AL_2 (List.mem_of_getElem? (i := 112) rfl)) rfl, ws_X3_isBladeCold, wv_X3_isBladeCold, wi_X3, wk_X3_isBladeCold⟩, by decide, by decide, by decide +kernel⟩
theorem wk_X1_close : Cond.code yX1_close cX1_close 2 none ∈ AL := AL_mem (AL_2 (List.mem_of_getElem? (i := 119) rfl)) rfl
theorem ws_X1_close : Cond.instanceMethod yX1_close ∈ AL := AL_mem (AL_2 (List.mem_of_getElem? (i := 118) rfl)) rfl
theorem wv_X1_close : Cond.selects yX1_close.cls yX1_close yX1_close ∈ AL := AL_memP (List.mem_of_getElem? (i := 4) rfl) rfl
theorem lk_X1_146 : xLV RX1 146 yX1_close cX1_close 2 none 1 := ⟨⟨AL_mem (AL_2 (List.mem_of_getElem? (i := 116) rfl)) rfl, ws_X1_close, wv_X1_close, wi_X1, wk_X1_close⟩, by decide, by decide, by decide +kernel⟩
theorem wk_X3_isBladeHot : Cond.code yX3_isBladeHot cX3_isBladeHot 1 (some .boolean) ∈ AL := AL_mem (AL_2 (List.mem_of_getElem? (i := 123) rfl)) rfl
theorem ws_X3_isBladeHot : Cond.instanceMethod yX3_isBladeHot ∈ AL := AL_mem (AL_2 (List.mem_of_getElem? (i := 121) rfl)) rfl
theorem wv_X3_isBladeHot : Cond.selects yX3_isBladeHot.cls yX3_isBladeHot yX3_isBladeHot ∈ AL := AL_mem (AL_2 (List.mem_of_getElem? (i := 122) rfl)) rfl
theorem lk_X1_149 : xLV RX1 149 yX3_isBladeHot cX3_isBladeHot 1 (some .boolean) 0 := ⟨⟨AL_mem (AL_2 (List.mem_of_getElem? (i := 120) rfl)) rfl, ws_X3_isBladeHot, wv_X3_isBladeHot, wi_X3, wk_X3_isBladeHot⟩, by decide, by decide, by decide +kernel⟩
theorem wk_X3_tryToOpen : Cond.code yX3_tryToOpen cX3_tryToOpen 2 none ∈ AL := AL_mem (AL_2 (List.mem_of_getElem? (i := 127) rfl)) rfl
theorem ws_X3_tryToOpen : Cond.instanceMethod yX3_tryToOpen ∈ AL := AL_mem (AL_2 (List.mem_of_getElem? (i := 125) rfl)) rfl
theorem wv_X3_tryToOpen : Cond.selects yX3_tryToOpen.cls yX3_tryToOpen yX3_tryToOpen ∈ AL := AL_mem (AL_2 (List.mem_of_getElem? (i := 126) rfl)) rfl
theorem lk_X1_152 : xLV RX1 152 yX3_tryToOpen cX3_tryToOpen 2 none 1 := ⟨⟨AL_mem (AL_2 (List.mem_of_getElem? (i := 124) rfl)) rfl, ws_X3_tryToOpen, wv_X3_tryToOpen, wi_X3, wk_X3_tryToOpen⟩, by decide, by decide, by decide +kernel⟩
theorem lk_X1_35 : Cond.methodLink RX1 35 arraycopyName ∈ AL ∧ Cond.native arraycopyName ∈ AL ∧ Cond.static arraycopyName ∈ AL ∧ Cond.initialized "java/lang/System" ∈ AL := ⟨AL_mem (AL_2 (List.mem_of_getElem? (i := 55) rfl)) rfl, AL_mem (AL_2 (List.mem_of_getElem? (i := 57) rfl)) rfl, AL_mem (AL_2 (List.mem_of_getElem? (i := 56) rfl)) rfl, AL_mem (AL_1 (List.mem_of_getElem? (i := 9) rfl)) rfl⟩
theorem wk_X4_copyFrom : Cond.code yX4_copyFrom cX4_copyFrom 2 none ∈ AL := AL_mem (AL_2 (List.mem_of_getElem? (i := 61) rfl)) rfl
theorem ws_X4_copyFrom : Cond.instanceMethod yX4_copyFrom ∈ AL := AL_mem (AL_2 (List.mem_of_getElem? (i := 59) rfl)) rfl
theorem wv_X4_copyFrom : Cond.selects yX4_copyFrom.cls yX4_copyFrom yX4_copyFrom ∈ AL := AL_mem (AL_2 (List.mem_of_getElem? (i := 60) rfl)) rfl
theorem lk_X1_41 : xLV RX1 41 yX4_copyFrom cX4_copyFrom 2 none 1 := ⟨⟨AL_mem (AL_2 (List.mem_of_getElem? (i := 58) rfl)) rfl, ws_X4_copyFrom, wv_X4_copyFrom, wi_X4, wk_X4_copyFrom⟩, by decide, by decide, by decide +kernel⟩
theorem wk_X1_roomAt : Cond.code yX1_roomAt cX1_roomAt 2 (some (.object "ThermostatColony$Room")) ∈ AL := AL_mem (AL_1 (List.mem_of_getElem? (i := 235) rfl)) rfl
theorem ws_X1_roomAt : Cond.instanceMethod yX1_roomAt ∈ AL := AL_mem (AL_1 (List.mem_of_getElem? (i := 233) rfl)) rfl
theorem wv_X1_roomAt : Cond.selects yX1_roomAt.cls yX1_roomAt yX1_roomAt ∈ AL := AL_mem (AL_1 (List.mem_of_getElem? (i := 234) rfl)) rfl
theorem lk_X1_52 : xLV RX1 52 yX1_roomAt cX1_roomAt 2 (some (.object "ThermostatColony$Room")) 1 := ⟨⟨AL_mem (AL_2 (List.mem_of_getElem? (i := 37) rfl)) rfl, ws_X1_roomAt, wv_X1_roomAt, wi_X1, wk_X1_roomAt⟩, by decide, by decide, by decide +kernel⟩
theorem wk_X3_copyFrom : Cond.code yX3_copyFrom cX3_copyFrom 2 none ∈ AL := AL_mem (AL_2 (List.mem_of_getElem? (i := 66) rfl)) rfl
theorem ws_X3_copyFrom : Cond.instanceMethod yX3_copyFrom ∈ AL := AL_mem (AL_2 (List.mem_of_getElem? (i := 64) rfl)) rfl
theorem wv_X3_copyFrom : Cond.selects yX3_copyFrom.cls yX3_copyFrom yX3_copyFrom ∈ AL := AL_mem (AL_2 (List.mem_of_getElem? (i := 65) rfl)) rfl
theorem lk_X1_56 : xLV RX1 56 yX3_copyFrom cX3_copyFrom 2 none 1 := ⟨⟨AL_mem (AL_2 (List.mem_of_getElem? (i := 63) rfl)) rfl, ws_X3_copyFrom, wv_X3_copyFrom, wi_X3, wk_X3_copyFrom⟩, by decide, by decide, by decide +kernel⟩
theorem wk_X3_begin : Cond.code yX3_begin cX3_begin 5 none ∈ AL := AL_mem (AL_2 (List.mem_of_getElem? (i := 202) rfl)) rfl
theorem ws_X3_begin : Cond.instanceMethod yX3_begin ∈ AL := AL_mem (AL_2 (List.mem_of_getElem? (i := 200) rfl)) rfl
theorem wv_X3_begin : Cond.selects yX3_begin.cls yX3_begin yX3_begin ∈ AL := AL_mem (AL_2 (List.mem_of_getElem? (i := 201) rfl)) rfl
theorem lk_X1_59 : xLV RX1 59 yX3_begin cX3_begin 5 none 4 := ⟨⟨AL_mem (AL_2 (List.mem_of_getElem? (i := 199) rfl)) rfl, ws_X3_begin, wv_X3_begin, wi_X3, wk_X3_begin⟩, by decide, by decide, by decide +kernel⟩
theorem wk_X1_linkPlace : Cond.code yX1_linkPlace cX1_linkPlace 2 (some .int) ∈ AL := AL_mem (AL_2 (List.mem_of_getElem? (i := 102) rfl)) rfl
theorem ws_X1_linkPlace : Cond.static yX1_linkPlace ∈ AL := AL_mem (AL_2 (List.mem_of_getElem? (i := 101) rfl)) rfl
theorem lk_X1_63 : xLS RX1 63 yX1_linkPlace cX1_linkPlace 2 (some .int) 2 := ⟨⟨AL_mem (AL_2 (List.mem_of_getElem? (i := 100) rfl)) rfl, ws_X1_linkPlace, wi_X1, wk_X1_linkPlace⟩, by decide, by decide, by decide +kernel⟩
theorem wk_X1_putLinkAt : Cond.code yX1_putLinkAt cX1_putLinkAt 3 none ∈ AL := AL_mem (AL_2 (List.mem_of_getElem? (i := 223) rfl)) rfl
theorem ws_X1_putLinkAt : Cond.instanceMethod yX1_putLinkAt ∈ AL := AL_mem (AL_2 (List.mem_of_getElem? (i := 222) rfl)) rfl
theorem wv_X1_putLinkAt : Cond.selects yX1_putLinkAt.cls yX1_putLinkAt yX1_putLinkAt ∈ AL := AL_memP (List.mem_of_getElem? (i := 6) rfl) rfl
theorem lk_X1_67 : xLV RX1 67 yX1_putLinkAt cX1_putLinkAt 3 none 2 := ⟨⟨AL_mem (AL_2 (List.mem_of_getElem? (i := 220) rfl)) rfl, ws_X1_putLinkAt, wv_X1_putLinkAt, wi_X1, wk_X1_putLinkAt⟩, by decide, by decide, by decide +kernel⟩
theorem wk_X1_linkOf : Cond.code yX1_linkOf cX1_linkOf 4 (some .int) ∈ AL := AL_mem (AL_2 (List.mem_of_getElem? (i := 99) rfl)) rfl
theorem ws_X1_linkOf : Cond.instanceMethod yX1_linkOf ∈ AL := AL_mem (AL_2 (List.mem_of_getElem? (i := 97) rfl)) rfl
theorem wv_X1_linkOf : Cond.selects yX1_linkOf.cls yX1_linkOf yX1_linkOf ∈ AL := AL_mem (AL_2 (List.mem_of_getElem? (i := 98) rfl)) rfl
theorem lk_X1_74 : xLV RX1 74 yX1_linkOf cX1_linkOf 4 (some .int) 2 := ⟨⟨AL_mem (AL_2 (List.mem_of_getElem? (i := 96) rfl)) rfl, ws_X1_linkOf, wv_X1_linkOf, wi_X1, wk_X1_linkOf⟩, by decide, by decide, by decide +kernel⟩
theorem wk_X1_number : Cond.code yX1_number cX1_number 2 (some .int) ∈ AL := AL_mem (AL_2 (List.mem_of_getElem? (i := 32) rfl)) rfl
theorem ws_X1_number : Cond.instanceMethod yX1_number ∈ AL := AL_mem (AL_2 (List.mem_of_getElem? (i := 30) rfl)) rfl
theorem wv_X1_number : Cond.selects yX1_number.cls yX1_number yX1_number ∈ AL := AL_mem (AL_2 (List.mem_of_getElem? (i := 31) rfl)) rfl
theorem lk_X1_83 : xLV RX1 83 yX1_number cX1_number 2 (some .int) 1 := ⟨⟨AL_mem (AL_2 (List.mem_of_getElem? (i := 42) rfl)) rfl, ws_X1_number, wv_X1_number, wi_X1, wk_X1_number⟩, by decide, by decide, by decide +kernel⟩
theorem wk_X1_isSuspect : Cond.code yX1_isSuspect cX1_isSuspect 2 (some .boolean) ∈ AL := AL_mem (AL_2 (List.mem_of_getElem? (i := 41) rfl)) rfl
theorem ws_X1_isSuspect : Cond.instanceMethod yX1_isSuspect ∈ AL := AL_mem (AL_2 (List.mem_of_getElem? (i := 39) rfl)) rfl
theorem wv_X1_isSuspect : Cond.selects yX1_isSuspect.cls yX1_isSuspect yX1_isSuspect ∈ AL := AL_mem (AL_2 (List.mem_of_getElem? (i := 40) rfl)) rfl
theorem lk_X1_87 : xLV RX1 87 yX1_isSuspect cX1_isSuspect 2 (some .boolean) 1 := ⟨⟨AL_mem (AL_2 (List.mem_of_getElem? (i := 38) rfl)) rfl, ws_X1_isSuspect, wv_X1_isSuspect, wi_X1, wk_X1_isSuspect⟩, by decide, by decide, by decide +kernel⟩
theorem wk_X2_stateAt : Cond.code yX2_stateAt cX2_stateAt 2 (some (.object "ThermostatColony$Colony")) ∈ AL := AL_mem (AL_2 (List.mem_of_getElem? (i := 154) rfl)) rfl
theorem wi_X2 : Cond.initialized RX2 ∈ AL := AL_mem (AL_1 (List.mem_of_getElem? (i := 6) rfl)) rfl
theorem ws_X2_stateAt : Cond.instanceMethod yX2_stateAt ∈ AL := AL_mem (AL_2 (List.mem_of_getElem? (i := 153) rfl)) rfl
theorem wv_X2_stateAt : Cond.selects yX2_stateAt.cls yX2_stateAt yX2_stateAt ∈ AL := AL_memP (List.mem_of_getElem? (i := 5) rfl) rfl
theorem lk_X2_22 : xLV RX2 22 yX2_stateAt cX2_stateAt 2 (some (.object "ThermostatColony$Colony")) 1 := ⟨⟨AL_mem (AL_2 (List.mem_of_getElem? (i := 151) rfl)) rfl, ws_X2_stateAt, wv_X2_stateAt, wi_X2, wk_X2_stateAt⟩, by decide, by decide, by decide +kernel⟩
theorem wk_X1_copyFrom : Cond.code yX1_copyFrom cX1_copyFrom 5 none ∈ AL := AL_mem (AL_2 (List.mem_of_getElem? (i := 54) rfl)) rfl
theorem ws_X1_copyFrom : Cond.instanceMethod yX1_copyFrom ∈ AL := AL_mem (AL_2 (List.mem_of_getElem? (i := 52) rfl)) rfl
theorem wv_X1_copyFrom : Cond.selects yX1_copyFrom.cls yX1_copyFrom yX1_copyFrom ∈ AL := AL_mem (AL_2 (List.mem_of_getElem? (i := 53) rfl)) rfl
theorem lk_X2_26 : xLV RX2 26 yX1_copyFrom cX1_copyFrom 5 none 1 := ⟨⟨AL_mem (AL_2 (List.mem_of_getElem? (i := 155) rfl)) rfl, ws_X1_copyFrom, wv_X1_copyFrom, wi_X1, wk_X1_copyFrom⟩, by decide, by decide, by decide +kernel⟩
theorem wk_J9_min_7cf53 : Cond.code yJ9_min_7cf53 cJ9_min_7cf53 2 (some .int) ∈ AL := AL_mem (AL_2 (List.mem_of_getElem? (i := 194) rfl)) rfl
theorem wi_J9 : Cond.initialized RJ9 ∈ AL := AL_mem (AL_1 (List.mem_of_getElem? (i := 8) rfl)) rfl
theorem ws_J9_min_7cf53 : Cond.static yJ9_min_7cf53 ∈ AL := AL_mem (AL_2 (List.mem_of_getElem? (i := 193) rfl)) rfl
theorem lk_X2_33 : xLS RX2 33 yJ9_min_7cf53 cJ9_min_7cf53 2 (some .int) 2 := ⟨⟨AL_mem (AL_2 (List.mem_of_getElem? (i := 192) rfl)) rfl, ws_J9_min_7cf53, wi_J9, wk_J9_min_7cf53⟩, by decide, by decide, by decide +kernel⟩
theorem lk_X3_37 : xLV RX3 37 yX3_temperature cX3_temperature 1 (some .int) 0 := ⟨⟨AL_mem (AL_2 (List.mem_of_getElem? (i := 1) rfl)) rfl, ws_X3_temperature, wv_X3_temperature, wi_X3, wk_X3_temperature⟩, by decide, by decide, by decide +kernel⟩
theorem wk_X0_begin : Cond.code yX0_begin cX0_begin 2 none ∈ AL := AL_mem (AL_2 (List.mem_of_getElem? (i := 207) rfl)) rfl
theorem wi_X0 : Cond.initialized RX0 ∈ AL := AL_mem (AL_1 (List.mem_of_getElem? (i := 5) rfl)) rfl
theorem ws_X0_begin : Cond.instanceMethod yX0_begin ∈ AL := AL_mem (AL_2 (List.mem_of_getElem? (i := 205) rfl)) rfl
theorem wv_X0_begin : Cond.selects yX0_begin.cls yX0_begin yX0_begin ∈ AL := AL_mem (AL_2 (List.mem_of_getElem? (i := 206) rfl)) rfl
theorem lk_X3_76 : xLV RX3 76 yX0_begin cX0_begin 2 none 1 := ⟨⟨AL_mem (AL_2 (List.mem_of_getElem? (i := 204) rfl)) rfl, ws_X0_begin, wv_X0_begin, wi_X0, wk_X0_begin⟩, by decide, by decide, by decide +kernel⟩
theorem wk_X0_copyFrom : Cond.code yX0_copyFrom cX0_copyFrom 2 none ∈ AL := AL_mem (AL_2 (List.mem_of_getElem? (i := 70) rfl)) rfl
theorem ws_X0_copyFrom : Cond.instanceMethod yX0_copyFrom ∈ AL := AL_mem (AL_2 (List.mem_of_getElem? (i := 68) rfl)) rfl
theorem wv_X0_copyFrom : Cond.selects yX0_copyFrom.cls yX0_copyFrom yX0_copyFrom ∈ AL := AL_mem (AL_2 (List.mem_of_getElem? (i := 69) rfl)) rfl
theorem lk_X3_80 : xLV RX3 80 yX0_copyFrom cX0_copyFrom 2 none 1 := ⟨⟨AL_mem (AL_2 (List.mem_of_getElem? (i := 67) rfl)) rfl, ws_X0_copyFrom, wv_X0_copyFrom, wi_X0, wk_X0_copyFrom⟩, by decide, by decide, by decide +kernel⟩
theorem wk_X3_temperatureWith : Cond.code yX3_temperatureWith cX3_temperatureWith 2 (some .int) ∈ AL := AL_mem (AL_2 (List.mem_of_getElem? (i := 8) rfl)) rfl
theorem ws_X3_temperatureWith : Cond.instanceMethod yX3_temperatureWith ∈ AL := AL_mem (AL_2 (List.mem_of_getElem? (i := 6) rfl)) rfl
theorem wv_X3_temperatureWith : Cond.selects yX3_temperatureWith.cls yX3_temperatureWith yX3_temperatureWith ∈ AL := AL_mem (AL_2 (List.mem_of_getElem? (i := 7) rfl)) rfl
theorem lk_X3_84 : xLV RX3 84 yX3_temperatureWith cX3_temperatureWith 2 (some .int) 1 := ⟨⟨AL_mem (AL_2 (List.mem_of_getElem? (i := 5) rfl)) rfl, ws_X3_temperatureWith, wv_X3_temperatureWith, wi_X3, wk_X3_temperatureWith⟩, by decide, by decide, by decide +kernel⟩
theorem wk_J9_floorDiv_7cf53 : Cond.code yJ9_floorDiv_7cf53 cJ9_floorDiv_7cf53 3 (some .int) ∈ AL := AL_mem (AL_2 (List.mem_of_getElem? (i := 11) rfl)) rfl
theorem ws_J9_floorDiv_7cf53 : Cond.static yJ9_floorDiv_7cf53 ∈ AL := AL_mem (AL_2 (List.mem_of_getElem? (i := 10) rfl)) rfl
theorem lk_X3_88 : xLS RX3 88 yJ9_floorDiv_7cf53 cJ9_floorDiv_7cf53 3 (some .int) 2 := ⟨⟨AL_mem (AL_2 (List.mem_of_getElem? (i := 9) rfl)) rfl, ws_J9_floorDiv_7cf53, wi_J9, wk_J9_floorDiv_7cf53⟩, by decide, by decide, by decide +kernel⟩
theorem lk_X4_18 : Cond.methodLink RX4 18 arraycopyName ∈ AL ∧ Cond.native arraycopyName ∈ AL ∧ Cond.static arraycopyName ∈ AL ∧ Cond.initialized "java/lang/System" ∈ AL := ⟨AL_mem (AL_2 (List.mem_of_getElem? (i := 62) rfl)) rfl, AL_mem (AL_2 (List.mem_of_getElem? (i := 57) rfl)) rfl, AL_mem (AL_2 (List.mem_of_getElem? (i := 56) rfl)) rfl, AL_mem (AL_1 (List.mem_of_getElem? (i := 9) rfl)) rfl⟩
theorem wk_X4_temperatureBefore : Cond.code yX4_temperatureBefore cX4_temperatureBefore 6 (some .int) ∈ AL := AL_mem (AL_2 (List.mem_of_getElem? (i := 87) rfl)) rfl
theorem ws_X4_temperatureBefore : Cond.instanceMethod yX4_temperatureBefore ∈ AL := AL_mem (AL_2 (List.mem_of_getElem? (i := 86) rfl)) rfl
theorem wv_X4_temperatureBefore : Cond.selects yX4_temperatureBefore.cls yX4_temperatureBefore yX4_temperatureBefore ∈ AL := AL_memP (List.mem_of_getElem? (i := 1) rfl) rfl
theorem lk_X4_28 : xLV RX4 28 yX4_temperatureBefore cX4_temperatureBefore 6 (some .int) 2 := ⟨⟨AL_mem (AL_2 (List.mem_of_getElem? (i := 84) rfl)) rfl, ws_X4_temperatureBefore, wv_X4_temperatureBefore, wi_X4, wk_X4_temperatureBefore⟩, by decide, by decide, by decide +kernel⟩
theorem lk_X6_103 : xLV RX6 103 yX3_temperatureWith cX3_temperatureWith 2 (some .int) 1 := ⟨⟨AL_mem (AL_3 (List.mem_of_getElem? (i := 11) rfl)) rfl, ws_X3_temperatureWith, wv_X3_temperatureWith, wi_X3, wk_X3_temperatureWith⟩, by decide, by decide, by decide +kernel⟩
theorem wk_X3_bringIn : Cond.code yX3_bringIn cX3_bringIn 2 none ∈ AL := AL_mem (AL_3 (List.mem_of_getElem? (i := 17) rfl)) rfl
theorem ws_X3_bringIn : Cond.instanceMethod yX3_bringIn ∈ AL := AL_mem (AL_3 (List.mem_of_getElem? (i := 15) rfl)) rfl
theorem wv_X3_bringIn : Cond.selects yX3_bringIn.cls yX3_bringIn yX3_bringIn ∈ AL := AL_mem (AL_3 (List.mem_of_getElem? (i := 16) rfl)) rfl
theorem lk_X6_108 : xLV RX6 108 yX3_bringIn cX3_bringIn 2 none 1 := ⟨⟨AL_mem (AL_3 (List.mem_of_getElem? (i := 14) rfl)) rfl, ws_X3_bringIn, wv_X3_bringIn, wi_X3, wk_X3_bringIn⟩, by decide, by decide, by decide +kernel⟩
theorem wk_X3_renewContact : Cond.code yX3_renewContact cX3_renewContact 1 none ∈ AL := AL_mem (AL_3 (List.mem_of_getElem? (i := 25) rfl)) rfl
theorem ws_X3_renewContact : Cond.instanceMethod yX3_renewContact ∈ AL := AL_mem (AL_3 (List.mem_of_getElem? (i := 23) rfl)) rfl
theorem wv_X3_renewContact : Cond.selects yX3_renewContact.cls yX3_renewContact yX3_renewContact ∈ AL := AL_mem (AL_3 (List.mem_of_getElem? (i := 24) rfl)) rfl
theorem lk_X6_115 : xLV RX6 115 yX3_renewContact cX3_renewContact 1 none 0 := ⟨⟨AL_mem (AL_3 (List.mem_of_getElem? (i := 22) rfl)) rfl, ws_X3_renewContact, wv_X3_renewContact, wi_X3, wk_X3_renewContact⟩, by decide, by decide, by decide +kernel⟩
theorem lk_X6_118 : xLV RX6 118 yX3_temperature cX3_temperature 1 (some .int) 0 := ⟨⟨AL_mem (AL_3 (List.mem_of_getElem? (i := 30) rfl)) rfl, ws_X3_temperature, wv_X3_temperature, wi_X3, wk_X3_temperature⟩, by decide, by decide, by decide +kernel⟩
theorem wk_X3_property : Cond.code yX3_property cX3_property 2 (some .int) ∈ AL := AL_mem (AL_2 (List.mem_of_getElem? (i := 0) rfl)) rfl
theorem ws_X3_property : Cond.instanceMethod yX3_property ∈ AL := AL_mem (AL_1 (List.mem_of_getElem? (i := 238) rfl)) rfl
theorem wv_X3_property : Cond.selects yX3_property.cls yX3_property yX3_property ∈ AL := AL_mem (AL_1 (List.mem_of_getElem? (i := 239) rfl)) rfl
theorem lk_X6_126 : xLV RX6 126 yX3_property cX3_property 2 (some .int) 1 := ⟨⟨AL_mem (AL_1 (List.mem_of_getElem? (i := 237) rfl)) rfl, ws_X3_property, wv_X3_property, wi_X3, wk_X3_property⟩, by decide, by decide, by decide +kernel⟩
theorem wk_X0_sum : Cond.code yX0_sum cX0_sum 2 (some .int) ∈ AL := AL_mem (AL_2 (List.mem_of_getElem? (i := 20) rfl)) rfl
theorem ws_X0_sum : Cond.instanceMethod yX0_sum ∈ AL := AL_mem (AL_2 (List.mem_of_getElem? (i := 18) rfl)) rfl
theorem wv_X0_sum : Cond.selects yX0_sum.cls yX0_sum yX0_sum ∈ AL := AL_mem (AL_2 (List.mem_of_getElem? (i := 19) rfl)) rfl
theorem lk_X6_133 : xLV RX6 133 yX0_sum cX0_sum 2 (some .int) 1 := ⟨⟨AL_mem (AL_2 (List.mem_of_getElem? (i := 17) rfl)) rfl, ws_X0_sum, wv_X0_sum, wi_X0, wk_X0_sum⟩, by decide, by decide, by decide +kernel⟩
theorem wk_X1_suspectRooms : Cond.code yX1_suspectRooms cX1_suspectRooms 4 (some .int) ∈ AL := AL_mem (AL_2 (List.mem_of_getElem? (i := 36) rfl)) rfl
theorem ws_X1_suspectRooms : Cond.instanceMethod yX1_suspectRooms ∈ AL := AL_mem (AL_2 (List.mem_of_getElem? (i := 34) rfl)) rfl
theorem wv_X1_suspectRooms : Cond.selects yX1_suspectRooms.cls yX1_suspectRooms yX1_suspectRooms ∈ AL := AL_mem (AL_2 (List.mem_of_getElem? (i := 35) rfl)) rfl
theorem lk_X6_147 : xLV RX6 147 yX1_suspectRooms cX1_suspectRooms 4 (some .int) 0 := ⟨⟨AL_mem (AL_2 (List.mem_of_getElem? (i := 33) rfl)) rfl, ws_X1_suspectRooms, wv_X1_suspectRooms, wi_X1, wk_X1_suspectRooms⟩, by decide, by decide, by decide +kernel⟩
theorem wk_X1_allFines : Cond.code yX1_allFines cX1_allFines 4 (some .int) ∈ AL := AL_mem (AL_2 (List.mem_of_getElem? (i := 46) rfl)) rfl
theorem ws_X1_allFines : Cond.instanceMethod yX1_allFines ∈ AL := AL_mem (AL_2 (List.mem_of_getElem? (i := 44) rfl)) rfl
theorem wv_X1_allFines : Cond.selects yX1_allFines.cls yX1_allFines yX1_allFines ∈ AL := AL_mem (AL_2 (List.mem_of_getElem? (i := 45) rfl)) rfl
theorem lk_X6_150 : xLV RX6 150 yX1_allFines cX1_allFines 4 (some .int) 0 := ⟨⟨AL_mem (AL_2 (List.mem_of_getElem? (i := 43) rfl)) rfl, ws_X1_allFines, wv_X1_allFines, wi_X1, wk_X1_allFines⟩, by decide, by decide, by decide +kernel⟩
theorem wk_X1_passMinutes : Cond.code yX1_passMinutes cX1_passMinutes 4 (some .int) ∈ AL := AL_mem (AL_2 (List.mem_of_getElem? (i := 136) rfl)) rfl
theorem ws_X1_passMinutes : Cond.instanceMethod yX1_passMinutes ∈ AL := AL_mem (AL_2 (List.mem_of_getElem? (i := 134) rfl)) rfl
theorem wv_X1_passMinutes : Cond.selects yX1_passMinutes.cls yX1_passMinutes yX1_passMinutes ∈ AL := AL_mem (AL_2 (List.mem_of_getElem? (i := 135) rfl)) rfl
theorem lk_X6_172 : xLV RX6 172 yX1_passMinutes cX1_passMinutes 4 (some .int) 1 := ⟨⟨AL_mem (AL_2 (List.mem_of_getElem? (i := 133) rfl)) rfl, ws_X1_passMinutes, wv_X1_passMinutes, wi_X1, wk_X1_passMinutes⟩, by decide, by decide, by decide +kernel⟩
theorem lk_X6_175 : xLV RX6 175 yX1_copyFrom cX1_copyFrom 5 none 1 := ⟨⟨AL_mem (AL_2 (List.mem_of_getElem? (i := 51) rfl)) rfl, ws_X1_copyFrom, wv_X1_copyFrom, wi_X1, wk_X1_copyFrom⟩, by decide, by decide, by decide +kernel⟩
theorem lk_X6_177 : xLV RX6 177 yX1_isSuspect cX1_isSuspect 2 (some .boolean) 1 := ⟨⟨AL_mem (AL_2 (List.mem_of_getElem? (i := 71) rfl)) rfl, ws_X1_isSuspect, wv_X1_isSuspect, wi_X1, wk_X1_isSuspect⟩, by decide, by decide, by decide +kernel⟩
theorem lk_X6_181 : xLV RX6 181 yX1_passMinute cX1_passMinute 4 (some .int) 0 := ⟨⟨AL_mem (AL_2 (List.mem_of_getElem? (i := 72) rfl)) rfl, ws_X1_passMinute, wv_X1_passMinute, wi_X1, wk_X1_passMinute⟩, by decide, by decide, by decide +kernel⟩
theorem wk_X1_heatFromHeaters : Cond.code yX1_heatFromHeaters cX1_heatFromHeaters 4 (some .int) ∈ AL := AL_mem (AL_2 (List.mem_of_getElem? (i := 141) rfl)) rfl
theorem ws_X1_heatFromHeaters : Cond.instanceMethod yX1_heatFromHeaters ∈ AL := AL_mem (AL_2 (List.mem_of_getElem? (i := 139) rfl)) rfl
theorem wv_X1_heatFromHeaters : Cond.selects yX1_heatFromHeaters.cls yX1_heatFromHeaters yX1_heatFromHeaters ∈ AL := AL_mem (AL_2 (List.mem_of_getElem? (i := 140) rfl)) rfl
theorem lk_X6_185 : xLV RX6 185 yX1_heatFromHeaters cX1_heatFromHeaters 4 (some .int) 0 := ⟨⟨AL_mem (AL_2 (List.mem_of_getElem? (i := 138) rfl)) rfl, ws_X1_heatFromHeaters, wv_X1_heatFromHeaters, wi_X1, wk_X1_heatFromHeaters⟩, by decide, by decide, by decide +kernel⟩
theorem wk_X2_restore : Cond.code yX2_restore cX2_restore 4 none ∈ AL := AL_mem (AL_2 (List.mem_of_getElem? (i := 150) rfl)) rfl
theorem ws_X2_restore : Cond.instanceMethod yX2_restore ∈ AL := AL_mem (AL_2 (List.mem_of_getElem? (i := 148) rfl)) rfl
theorem wv_X2_restore : Cond.selects yX2_restore.cls yX2_restore yX2_restore ∈ AL := AL_mem (AL_2 (List.mem_of_getElem? (i := 149) rfl)) rfl
theorem lk_X6_199 : xLV RX6 199 yX2_restore cX2_restore 4 none 1 := ⟨⟨AL_mem (AL_2 (List.mem_of_getElem? (i := 147) rfl)) rfl, ws_X2_restore, wv_X2_restore, wi_X2, wk_X2_restore⟩, by decide, by decide, by decide +kernel⟩
theorem wk_X6_within : Cond.code yX6_within cX6_within 3 (some .boolean) ∈ AL := AL_mem (AL_2 (List.mem_of_getElem? (i := 28) rfl)) rfl
theorem ws_X6_within : Cond.static yX6_within ∈ AL := AL_mem (AL_2 (List.mem_of_getElem? (i := 27) rfl)) rfl
theorem lk_X6_40 : xLS RX6 40 yX6_within cX6_within 3 (some .boolean) 3 := ⟨⟨AL_mem (AL_2 (List.mem_of_getElem? (i := 26) rfl)) rfl, ws_X6_within, wi_X6, wk_X6_within⟩, by decide, by decide, by decide +kernel⟩
theorem wk_X2_save : Cond.code yX2_save cX2_save 3 none ∈ AL := AL_mem (AL_2 (List.mem_of_getElem? (i := 191) rfl)) rfl
theorem ws_X2_save : Cond.instanceMethod yX2_save ∈ AL := AL_mem (AL_2 (List.mem_of_getElem? (i := 189) rfl)) rfl
theorem wv_X2_save : Cond.selects yX2_save.cls yX2_save yX2_save ∈ AL := AL_mem (AL_2 (List.mem_of_getElem? (i := 190) rfl)) rfl
theorem lk_X6_50 : xLV RX6 50 yX2_save cX2_save 3 none 1 := ⟨⟨AL_mem (AL_2 (List.mem_of_getElem? (i := 188) rfl)) rfl, ws_X2_save, wv_X2_save, wi_X2, wk_X2_save⟩, by decide, by decide, by decide +kernel⟩
theorem wk_X1_beginRoom : Cond.code yX1_beginRoom cX1_beginRoom 7 (some .int) ∈ AL := AL_mem (AL_2 (List.mem_of_getElem? (i := 198) rfl)) rfl
theorem ws_X1_beginRoom : Cond.instanceMethod yX1_beginRoom ∈ AL := AL_mem (AL_2 (List.mem_of_getElem? (i := 196) rfl)) rfl
theorem wv_X1_beginRoom : Cond.selects yX1_beginRoom.cls yX1_beginRoom yX1_beginRoom ∈ AL := AL_mem (AL_2 (List.mem_of_getElem? (i := 197) rfl)) rfl
theorem lk_X6_54 : xLV RX6 54 yX1_beginRoom cX1_beginRoom 7 (some .int) 4 := ⟨⟨AL_mem (AL_2 (List.mem_of_getElem? (i := 195) rfl)) rfl, ws_X1_beginRoom, wv_X1_beginRoom, wi_X1, wk_X1_beginRoom⟩, by decide, by decide, by decide +kernel⟩
theorem wk_X1_hasPair : Cond.code yX1_hasPair cX1_hasPair 3 (some .boolean) ∈ AL := AL_mem (AL_2 (List.mem_of_getElem? (i := 174) rfl)) rfl
theorem ws_X1_hasPair : Cond.instanceMethod yX1_hasPair ∈ AL := AL_mem (AL_2 (List.mem_of_getElem? (i := 172) rfl)) rfl
theorem wv_X1_hasPair : Cond.selects yX1_hasPair.cls yX1_hasPair yX1_hasPair ∈ AL := AL_mem (AL_2 (List.mem_of_getElem? (i := 173) rfl)) rfl
theorem lk_X6_58 : xLV RX6 58 yX1_hasPair cX1_hasPair 3 (some .boolean) 2 := ⟨⟨AL_mem (AL_2 (List.mem_of_getElem? (i := 171) rfl)) rfl, ws_X1_hasPair, wv_X1_hasPair, wi_X1, wk_X1_hasPair⟩, by decide, by decide, by decide +kernel⟩
theorem lk_X6_62 : xLV RX6 62 yX1_linkOf cX1_linkOf 4 (some .int) 2 := ⟨⟨AL_mem (AL_2 (List.mem_of_getElem? (i := 175) rfl)) rfl, ws_X1_linkOf, wv_X1_linkOf, wi_X1, wk_X1_linkOf⟩, by decide, by decide, by decide +kernel⟩
theorem wk_X1_canCarry : Cond.code yX1_canCarry cX1_canCarry 6 (some .boolean) ∈ AL := AL_mem (AL_2 (List.mem_of_getElem? (i := 215) rfl)) rfl
theorem ws_X1_canCarry : Cond.instanceMethod yX1_canCarry ∈ AL := AL_mem (AL_2 (List.mem_of_getElem? (i := 213) rfl)) rfl
theorem wv_X1_canCarry : Cond.selects yX1_canCarry.cls yX1_canCarry yX1_canCarry ∈ AL := AL_mem (AL_2 (List.mem_of_getElem? (i := 214) rfl)) rfl
theorem lk_X6_66 : xLV RX6 66 yX1_canCarry cX1_canCarry 6 (some .boolean) 2 := ⟨⟨AL_mem (AL_2 (List.mem_of_getElem? (i := 212) rfl)) rfl, ws_X1_canCarry, wv_X1_canCarry, wi_X1, wk_X1_canCarry⟩, by decide, by decide, by decide +kernel⟩
theorem wk_X1_putLink : Cond.code yX1_putLink cX1_putLink 4 none ∈ AL := AL_mem (AL_2 (List.mem_of_getElem? (i := 219) rfl)) rfl
theorem ws_X1_putLink : Cond.instanceMethod yX1_putLink ∈ AL := AL_mem (AL_2 (List.mem_of_getElem? (i := 217) rfl)) rfl
theorem wv_X1_putLink : Cond.selects yX1_putLink.cls yX1_putLink yX1_putLink ∈ AL := AL_mem (AL_2 (List.mem_of_getElem? (i := 218) rfl)) rfl
theorem lk_X6_70 : xLV RX6 70 yX1_putLink cX1_putLink 4 none 3 := ⟨⟨AL_mem (AL_2 (List.mem_of_getElem? (i := 216) rfl)) rfl, ws_X1_putLink, wv_X1_putLink, wi_X1, wk_X1_putLink⟩, by decide, by decide, by decide +kernel⟩
theorem lk_X6_74 : xLV RX6 74 yX1_roomAt cX1_roomAt 2 (some (.object "ThermostatColony$Room")) 1 := ⟨⟨AL_mem (AL_1 (List.mem_of_getElem? (i := 232) rfl)) rfl, ws_X1_roomAt, wv_X1_roomAt, wi_X1, wk_X1_roomAt⟩, by decide, by decide, by decide +kernel⟩
theorem wk_X6_isNumberInRange : Cond.code yX6_isNumberInRange cX6_isNumberInRange 2 (some .boolean) ∈ AL := AL_mem (AL_2 (List.mem_of_getElem? (i := 235) rfl)) rfl
theorem ws_X6_isNumberInRange : Cond.static yX6_isNumberInRange ∈ AL := AL_mem (AL_2 (List.mem_of_getElem? (i := 234) rfl)) rfl
theorem lk_X6_87 : xLS RX6 87 yX6_isNumberInRange cX6_isNumberInRange 2 (some .boolean) 2 := ⟨⟨AL_mem (AL_2 (List.mem_of_getElem? (i := 233) rfl)) rfl, ws_X6_isNumberInRange, wi_X6, wk_X6_isNumberInRange⟩, by decide, by decide, by decide +kernel⟩
theorem lk_X6_90 : xLV RX6 90 yX1_number cX1_number 2 (some .int) 1 := ⟨⟨AL_mem (AL_2 (List.mem_of_getElem? (i := 29) rfl)) rfl, ws_X1_number, wv_X1_number, wi_X1, wk_X1_number⟩, by decide, by decide, by decide +kernel⟩
theorem wk_X1_putNumber : Cond.code yX1_putNumber cX1_putNumber 3 none ∈ AL := AL_mem (AL_3 (List.mem_of_getElem? (i := 3) rfl)) rfl
theorem ws_X1_putNumber : Cond.instanceMethod yX1_putNumber ∈ AL := AL_mem (AL_3 (List.mem_of_getElem? (i := 1) rfl)) rfl
theorem wv_X1_putNumber : Cond.selects yX1_putNumber.cls yX1_putNumber yX1_putNumber ∈ AL := AL_mem (AL_3 (List.mem_of_getElem? (i := 2) rfl)) rfl
theorem lk_X6_94 : xLV RX6 94 yX1_putNumber cX1_putNumber 3 none 2 := ⟨⟨AL_mem (AL_3 (List.mem_of_getElem? (i := 0) rfl)) rfl, ws_X1_putNumber, wv_X1_putNumber, wi_X1, wk_X1_putNumber⟩, by decide, by decide, by decide +kernel⟩
theorem wc_L_10 : Jvm.Cond.constantLong RL 10 (31) ∈ AL := AL_mem (AL_2 (List.mem_of_getElem? (i := 163) rfl)) rfl
theorem wc_L_18 : Jvm.Cond.constantLong RL 18 (37) ∈ AL := AL_mem (AL_2 (List.mem_of_getElem? (i := 164) rfl)) rfl
theorem wc_L_24 : Jvm.Cond.constantLong RL 24 (41) ∈ AL := AL_mem (AL_2 (List.mem_of_getElem? (i := 165) rfl)) rfl
theorem wc_L_29 : Jvm.Cond.constantLong RL 29 (43) ∈ AL := AL_mem (AL_2 (List.mem_of_getElem? (i := 166) rfl)) rfl
theorem wc_L_53 : Jvm.Cond.constant RL 53 (40001) ∈ AL := AL_mem (AL_3 (List.mem_of_getElem? (i := 4) rfl)) rfl
theorem wc_L_7 : Jvm.Cond.constant RL 7 (2147483647) ∈ AL := AL_mem (AL_2 (List.mem_of_getElem? (i := 182) rfl)) rfl
theorem wc_L_8 : Jvm.Cond.constantLong RL 8 (3) ∈ AL := AL_mem (AL_2 (List.mem_of_getElem? (i := 162) rfl)) rfl
theorem wc_X0_27 : Jvm.Cond.constant RX0 27 (-1000001) ∈ AL := AL_mem (AL_2 (List.mem_of_getElem? (i := 21) rfl)) rfl
theorem wc_X3_106 : Jvm.Cond.constant RX3 106 (-1000001) ∈ AL := AL_mem (AL_2 (List.mem_of_getElem? (i := 12) rfl)) rfl
theorem wc_X3_63 : Jvm.Cond.constant RX3 63 (-1000009) ∈ AL := AL_mem (AL_2 (List.mem_of_getElem? (i := 203) rfl)) rfl
theorem wc_X6_106 : Jvm.Cond.constant RX6 106 (-200000) ∈ AL := AL_mem (AL_3 (List.mem_of_getElem? (i := 12) rfl)) rfl
theorem wc_X6_107 : Jvm.Cond.constant RX6 107 (200000) ∈ AL := AL_mem (AL_3 (List.mem_of_getElem? (i := 13) rfl)) rfl
theorem wc_X6_184 : Jvm.Cond.constant RX6 184 (-1000009) ∈ AL := AL_mem (AL_2 (List.mem_of_getElem? (i := 128) rfl)) rfl
theorem wc_X6_44 : Jvm.Cond.constant RX6 44 (-1000001) ∈ AL := AL_mem (AL_1 (List.mem_of_getElem? (i := 236) rfl)) rfl
theorem wc_X6_49 : Jvm.Cond.constant RX6 49 (-1000003) ∈ AL := AL_mem (AL_2 (List.mem_of_getElem? (i := 187) rfl)) rfl
theorem wc_X6_69 : Jvm.Cond.constant RX6 69 (-1000002) ∈ AL := AL_mem (AL_2 (List.mem_of_getElem? (i := 146) rfl)) rfl
theorem wc_X6_78 : Jvm.Cond.constant RX6 78 (35000) ∈ AL := AL_mem (AL_2 (List.mem_of_getElem? (i := 228) rfl)) rfl
theorem wc_X6_98 : Jvm.Cond.constant RX6 98 (-50000) ∈ AL := AL_mem (AL_3 (List.mem_of_getElem? (i := 9) rfl)) rfl
theorem wc_X6_99 : Jvm.Cond.constant RX6 99 (50000) ∈ AL := AL_mem (AL_3 (List.mem_of_getElem? (i := 10) rfl)) rfl
theorem wf_X0_15 : Cond.fieldLink RX0 15 "ThermostatColony$Books" "fromHeater" "I" ∈ AL := AL_mem (AL_1 (List.mem_of_getElem? (i := 58) rfl)) rfl
theorem wf_X0_18 : Cond.fieldLink RX0 18 "ThermostatColony$Books" "toOutside" "I" ∈ AL := AL_mem (AL_1 (List.mem_of_getElem? (i := 61) rfl)) rfl
theorem wf_X0_21 : Cond.fieldLink RX0 21 "ThermostatColony$Books" "toOthers" "I" ∈ AL := AL_mem (AL_1 (List.mem_of_getElem? (i := 63) rfl)) rfl
theorem wf_X0_24 : Cond.fieldLink RX0 24 "ThermostatColony$Books" "byWarm" "I" ∈ AL := AL_mem (AL_1 (List.mem_of_getElem? (i := 65) rfl)) rfl
theorem wf_X0_9 : Cond.fieldLink RX0 9 "ThermostatColony$Books" "firstHeat" "I" ∈ AL := AL_mem (AL_1 (List.mem_of_getElem? (i := 57) rfl)) rfl
theorem wf_X1_123 : Cond.fieldLink RX1 123 "ThermostatColony$Room" "minuteTemperature" "I" ∈ AL := AL_mem (AL_1 (List.mem_of_getElem? (i := 115) rfl)) rfl
theorem wf_X1_129 : Cond.fieldLink RX1 129 "ThermostatColony$Room" "closed" "Z" ∈ AL := AL_mem (AL_1 (List.mem_of_getElem? (i := 96) rfl)) rfl
theorem wf_X1_136 : Cond.fieldLink RX1 136 "ThermostatColony$Room" "tripped" "Z" ∈ AL := AL_mem (AL_1 (List.mem_of_getElem? (i := 101) rfl)) rfl
theorem wf_X1_139 : Cond.fieldLink RX1 139 "ThermostatColony$Room" "blade" "I" ∈ AL := AL_mem (AL_1 (List.mem_of_getElem? (i := 94) rfl)) rfl
theorem wf_X1_155 : Cond.fieldLink RX1 155 "ThermostatColony$Room" "closings" "I" ∈ AL := AL_mem (AL_1 (List.mem_of_getElem? (i := 107) rfl)) rfl
theorem wf_X1_158 : Cond.fieldLink RX1 158 "ThermostatColony$Room" "latestClosing" "I" ∈ AL := AL_mem (AL_1 (List.mem_of_getElem? (i := 109) rfl)) rfl
theorem wf_X1_161 : Cond.fieldLink RX1 161 "ThermostatColony$Room" "wear" "I" ∈ AL := AL_mem (AL_1 (List.mem_of_getElem? (i := 104) rfl)) rfl
theorem wf_X1_164 : Cond.fieldLink RX1 164 "ThermostatColony$Room" "power" "I" ∈ AL := AL_mem (AL_1 (List.mem_of_getElem? (i := 84) rfl)) rfl
theorem wf_X1_167 : Cond.fieldLink RX1 167 "ThermostatColony$Room" "welded" "Z" ∈ AL := AL_mem (AL_1 (List.mem_of_getElem? (i := 98) rfl)) rfl
theorem wf_X1_17 : Cond.fieldLink RX1 17 "ThermostatColony$Colony" "rooms" "[LThermostatColony$Room;" ∈ AL := AL_mem (AL_1 (List.mem_of_getElem? (i := 154) rfl)) rfl
theorem wf_X1_21 : Cond.fieldLink RX1 21 "ThermostatColony$Colony" "links" "[I" ∈ AL := AL_mem (AL_1 (List.mem_of_getElem? (i := 155) rfl)) rfl
theorem wf_X1_27 : Cond.fieldLink RX1 27 "ThermostatColony$Colony" "weather" "LThermostatColony$Weather;" ∈ AL := AL_mem (AL_1 (List.mem_of_getElem? (i := 156) rfl)) rfl
theorem wf_X1_45 : Cond.fieldLink RX1 45 "ThermostatColony$Colony" "roomCount" "I" ∈ AL := AL_mem (AL_1 (List.mem_of_getElem? (i := 158) rfl)) rfl
theorem wf_X1_49 : Cond.fieldLink RX1 49 "ThermostatColony$Colony" "time" "I" ∈ AL := AL_mem (AL_1 (List.mem_of_getElem? (i := 160) rfl)) rfl
theorem wf_X1_71 : Cond.fieldLink RX1 71 "ThermostatColony$Room" "leak" "I" ∈ AL := AL_mem (AL_1 (List.mem_of_getElem? (i := 86) rfl)) rfl
theorem wf_X1_77 : Cond.fieldLink RX1 77 "ThermostatColony$Room" "capacity" "I" ∈ AL := AL_mem (AL_1 (List.mem_of_getElem? (i := 82) rfl)) rfl
theorem wf_X1_80 : Cond.fieldLink RX1 80 "ThermostatColony$Room" "suspectMinutes" "I" ∈ AL := AL_mem (AL_1 (List.mem_of_getElem? (i := 113) rfl)) rfl
theorem wf_X1_9 : Cond.fieldLink RX1 9 "ThermostatColony$Colony" "numbers" "[I" ∈ AL := AL_mem (AL_1 (List.mem_of_getElem? (i := 153) rfl)) rfl
theorem wf_X1_91 : Cond.fieldLink RX1 91 "ThermostatColony$Room" "fines" "I" ∈ AL := AL_mem (AL_1 (List.mem_of_getElem? (i := 111) rfl)) rfl
theorem wf_X1_94 : Cond.fieldLink RX1 94 "ThermostatColony$Room" "books" "LThermostatColony$Books;" ∈ AL := AL_mem (AL_1 (List.mem_of_getElem? (i := 80) rfl)) rfl
theorem wf_X1_98 : Cond.fieldLink RX1 98 "ThermostatColony$Books" "fromHeater" "I" ∈ AL := AL_mem (AL_1 (List.mem_of_getElem? (i := 60) rfl)) rfl
theorem wf_X2_11 : Cond.fieldLink RX2 11 "ThermostatColony$History" "states" "[LThermostatColony$Colony;" ∈ AL := AL_mem (AL_1 (List.mem_of_getElem? (i := 184) rfl)) rfl
theorem wf_X2_18 : Cond.fieldLink RX2 18 "ThermostatColony$History" "next" "I" ∈ AL := AL_mem (AL_1 (List.mem_of_getElem? (i := 185) rfl)) rfl
theorem wf_X2_30 : Cond.fieldLink RX2 30 "ThermostatColony$History" "size" "I" ∈ AL := AL_mem (AL_1 (List.mem_of_getElem? (i := 186) rfl)) rfl
theorem wf_X3_100 : Cond.fieldLink RX3 100 "ThermostatColony$Books" "toOutside" "I" ∈ AL := AL_mem (AL_1 (List.mem_of_getElem? (i := 62) rfl)) rfl
theorem wf_X3_103 : Cond.fieldLink RX3 103 "ThermostatColony$Books" "toOthers" "I" ∈ AL := AL_mem (AL_1 (List.mem_of_getElem? (i := 64) rfl)) rfl
theorem wf_X3_12 : Cond.fieldLink RX3 12 "ThermostatColony$Room" "books" "LThermostatColony$Books;" ∈ AL := AL_mem (AL_1 (List.mem_of_getElem? (i := 78) rfl)) rfl
theorem wf_X3_18 : Cond.fieldLink RX3 18 "ThermostatColony$Room" "capacity" "I" ∈ AL := AL_mem (AL_1 (List.mem_of_getElem? (i := 81) rfl)) rfl
theorem wf_X3_22 : Cond.fieldLink RX3 22 "ThermostatColony$Room" "power" "I" ∈ AL := AL_mem (AL_1 (List.mem_of_getElem? (i := 83) rfl)) rfl
theorem wf_X3_25 : Cond.fieldLink RX3 25 "ThermostatColony$Room" "leak" "I" ∈ AL := AL_mem (AL_1 (List.mem_of_getElem? (i := 85) rfl)) rfl
theorem wf_X3_28 : Cond.fieldLink RX3 28 "ThermostatColony$Room" "heat" "I" ∈ AL := AL_mem (AL_1 (List.mem_of_getElem? (i := 87) rfl)) rfl
theorem wf_X3_31 : Cond.fieldLink RX3 31 "ThermostatColony$Room" "point" "I" ∈ AL := AL_mem (AL_1 (List.mem_of_getElem? (i := 89) rfl)) rfl
theorem wf_X3_34 : Cond.fieldLink RX3 34 "ThermostatColony$Room" "band" "I" ∈ AL := AL_mem (AL_1 (List.mem_of_getElem? (i := 91) rfl)) rfl
theorem wf_X3_41 : Cond.fieldLink RX3 41 "ThermostatColony$Room" "blade" "I" ∈ AL := AL_mem (AL_1 (List.mem_of_getElem? (i := 93) rfl)) rfl
theorem wf_X3_44 : Cond.fieldLink RX3 44 "ThermostatColony$Room" "closed" "Z" ∈ AL := AL_mem (AL_1 (List.mem_of_getElem? (i := 95) rfl)) rfl
theorem wf_X3_48 : Cond.fieldLink RX3 48 "ThermostatColony$Room" "welded" "Z" ∈ AL := AL_mem (AL_1 (List.mem_of_getElem? (i := 97) rfl)) rfl
theorem wf_X3_51 : Cond.fieldLink RX3 51 "ThermostatColony$Room" "tripped" "Z" ∈ AL := AL_mem (AL_1 (List.mem_of_getElem? (i := 99) rfl)) rfl
theorem wf_X3_54 : Cond.fieldLink RX3 54 "ThermostatColony$Room" "wear" "I" ∈ AL := AL_mem (AL_1 (List.mem_of_getElem? (i := 102) rfl)) rfl
theorem wf_X3_57 : Cond.fieldLink RX3 57 "ThermostatColony$Room" "attempts" "I" ∈ AL := AL_mem (AL_1 (List.mem_of_getElem? (i := 105) rfl)) rfl
theorem wf_X3_60 : Cond.fieldLink RX3 60 "ThermostatColony$Room" "closings" "I" ∈ AL := AL_mem (AL_1 (List.mem_of_getElem? (i := 106) rfl)) rfl
theorem wf_X3_64 : Cond.fieldLink RX3 64 "ThermostatColony$Room" "latestClosing" "I" ∈ AL := AL_mem (AL_1 (List.mem_of_getElem? (i := 108) rfl)) rfl
theorem wf_X3_67 : Cond.fieldLink RX3 67 "ThermostatColony$Room" "fines" "I" ∈ AL := AL_mem (AL_1 (List.mem_of_getElem? (i := 110) rfl)) rfl
theorem wf_X3_70 : Cond.fieldLink RX3 70 "ThermostatColony$Room" "suspectMinutes" "I" ∈ AL := AL_mem (AL_1 (List.mem_of_getElem? (i := 112) rfl)) rfl
theorem wf_X3_73 : Cond.fieldLink RX3 73 "ThermostatColony$Room" "minuteTemperature" "I" ∈ AL := AL_mem (AL_1 (List.mem_of_getElem? (i := 114) rfl)) rfl
theorem wf_X3_94 : Cond.fieldLink RX3 94 "ThermostatColony$Books" "byWarm" "I" ∈ AL := AL_mem (AL_1 (List.mem_of_getElem? (i := 66) rfl)) rfl
theorem wf_X3_97 : Cond.fieldLink RX3 97 "ThermostatColony$Books" "fromHeater" "I" ∈ AL := AL_mem (AL_1 (List.mem_of_getElem? (i := 59) rfl)) rfl
theorem wf_X4_15 : Cond.fieldLink RX4 15 "ThermostatColony$Weather" "degrees" "[I" ∈ AL := AL_mem (AL_1 (List.mem_of_getElem? (i := 33) rfl)) rfl
theorem wf_X4_24 : Cond.fieldLink RX4 24 "ThermostatColony$Weather" "size" "I" ∈ AL := AL_mem (AL_1 (List.mem_of_getElem? (i := 34) rfl)) rfl
theorem wf_X4_9 : Cond.fieldLink RX4 9 "ThermostatColony$Weather" "minutes" "[I" ∈ AL := AL_mem (AL_1 (List.mem_of_getElem? (i := 32) rfl)) rfl
theorem wf_X6_10 : Cond.fieldLink RX6 10 "ThermostatColony" "now" "LThermostatColony$Colony;" ∈ AL := AL_mem (AL_1 (List.mem_of_getElem? (i := 212) rfl)) rfl
theorem wf_X6_100 : Cond.fieldLink RX6 100 "ThermostatColony$Room" "heat" "I" ∈ AL := AL_mem (AL_1 (List.mem_of_getElem? (i := 88) rfl)) rfl
theorem wf_X6_112 : Cond.fieldLink RX6 112 "ThermostatColony$Room" "wear" "I" ∈ AL := AL_mem (AL_1 (List.mem_of_getElem? (i := 103) rfl)) rfl
theorem wf_X6_122 : Cond.fieldLink RX6 122 "ThermostatColony$Room" "tripped" "Z" ∈ AL := AL_mem (AL_1 (List.mem_of_getElem? (i := 100) rfl)) rfl
theorem wf_X6_129 : Cond.fieldLink RX6 129 "ThermostatColony$Room" "books" "LThermostatColony$Books;" ∈ AL := AL_mem (AL_1 (List.mem_of_getElem? (i := 79) rfl)) rfl
theorem wf_X6_138 : Cond.fieldLink RX6 138 "ThermostatColony$Colony" "time" "I" ∈ AL := AL_mem (AL_1 (List.mem_of_getElem? (i := 161) rfl)) rfl
theorem wf_X6_141 : Cond.fieldLink RX6 141 "ThermostatColony$Colony" "weather" "LThermostatColony$Weather;" ∈ AL := AL_mem (AL_1 (List.mem_of_getElem? (i := 157) rfl)) rfl
theorem wf_X6_144 : Cond.fieldLink RX6 144 "ThermostatColony$Weather" "size" "I" ∈ AL := AL_mem (AL_1 (List.mem_of_getElem? (i := 35) rfl)) rfl
theorem wf_X6_153 : Cond.fieldLink RX6 153 "ThermostatColony$WeatherText" "length" "I" ∈ AL := AL_mem (AL_1 (List.mem_of_getElem? (i := 202) rfl)) rfl
theorem wf_X6_156 : Cond.fieldLink RX6 156 "ThermostatColony$History" "size" "I" ∈ AL := AL_mem (AL_1 (List.mem_of_getElem? (i := 187) rfl)) rfl
theorem wf_X6_16 : Cond.fieldLink RX6 16 "ThermostatColony" "forecast" "LThermostatColony$Colony;" ∈ AL := AL_mem (AL_1 (List.mem_of_getElem? (i := 213) rfl)) rfl
theorem wf_X6_202 : Cond.fieldLink RX6 202 "ThermostatColony" "LEAST_NUMBERS" "[I" ∈ AL := AL_mem (AL_2 (List.mem_of_getElem? (i := 236) rfl)) rfl
theorem wf_X6_206 : Cond.fieldLink RX6 206 "ThermostatColony" "MOST_NUMBERS" "[I" ∈ AL := AL_mem (AL_2 (List.mem_of_getElem? (i := 238) rfl)) rfl
theorem wf_X6_22 : Cond.fieldLink RX6 22 "ThermostatColony" "history" "LThermostatColony$History;" ∈ AL := AL_mem (AL_1 (List.mem_of_getElem? (i := 214) rfl)) rfl
theorem wf_X6_29 : Cond.fieldLink RX6 29 "ThermostatColony" "text" "LThermostatColony$WeatherText;" ∈ AL := AL_mem (AL_1 (List.mem_of_getElem? (i := 215) rfl)) rfl
theorem wf_X6_45 : Cond.fieldLink RX6 45 "ThermostatColony$Colony" "roomCount" "I" ∈ AL := AL_mem (AL_1 (List.mem_of_getElem? (i := 159) rfl)) rfl
theorem wf_X6_79 : Cond.fieldLink RX6 79 "ThermostatColony$Room" "point" "I" ∈ AL := AL_mem (AL_1 (List.mem_of_getElem? (i := 90) rfl)) rfl
theorem wf_X6_84 : Cond.fieldLink RX6 84 "ThermostatColony$Room" "band" "I" ∈ AL := AL_mem (AL_1 (List.mem_of_getElem? (i := 92) rfl)) rfl
theorem in_X0 : ∀ w ∈ u_ws RX0 TX0 5, w ∈ AL := AL_all _ [67, 69, 71, 73, 75] (by decide +kernel) (by decide +kernel)
theorem in_X1 : ∀ w ∈ u_ws RX1 TX1 6, w ∈ AL := AL_all _ [162, 164, 166, 168, 170, 172] (by decide +kernel) (by decide +kernel)
theorem in_X2 : ∀ w ∈ u_ws RX2 TX2 3, w ∈ AL := AL_all _ [188, 190, 192] (by decide +kernel) (by decide +kernel)
theorem in_X3 : ∀ w ∈ u_ws RX3 TX3 18, w ∈ AL := AL_all _ [116, 118, 120, 122, 124, 126, 128, 130, 132, 134, 136, 138, 140, 142, 144, 146, 148, 150] (by decide +kernel) (by decide +kernel)
theorem in_X4 : ∀ w ∈ u_ws RX4 TX4 3, w ∈ AL := AL_all _ [36, 38, 40] (by decide +kernel) (by decide +kernel)
theorem in_X5 : ∀ w ∈ u_ws RX5 TX5 3, w ∈ AL := AL_all _ [203, 205, 207] (by decide +kernel) (by decide +kernel)
theorem in_X6 : ∀ w ∈ u_ws RX6 TX6 5, w ∈ AL := AL_all _ [217, 219, 221, 223, 225] (by decide +kernel) (by decide +kernel)
section WRAP
variable {p : Program} {l : Launch} {e : Env} {R : Room} {s : State} {m : MethodId} {args : Array Value} {below : List Frame} {meth : Method} {c : Code} {H : Heap} {locs : List Loc} {Q : State → Prop}
variable {cc : ByteArray} {pc nL : Nat} {ls : Array Slot} {rest : List Value} {E : xE} {B n : Nat} {σ : xM} {x0 : Cond} {own : String} {k index : Nat}
theorem g0_0 (CX : xCX p m c cc nL s args x0 own E B 160) (hM : xS E B 160 (layX E B) s σ H locs) (hk : kd k = 0) (hlink : Cond.fieldLink own index "ThermostatColony$Books" "firstHeat" "I" ∈ AL) (hdg : decode cc pc = .ok (.getfield index, 3)) (kk : W p l e R s m args below meth c H locs 0 0 Q (F0 m (pc + 3) ls (.int (σ k 0) :: rest))) : W p l e R s m args below meth c H locs 0 0 Q (F0 m pc ls (.ref (B + k) :: rest)) :=
  x_get CX hM (kdl hk rfl) (ly0 hk _) in_X0 rfl 0 (by decide) hlink rfl hdg kk
theorem g0_1 (CX : xCX p m c cc nL s args x0 own E B 160) (hM : xS E B 160 (layX E B) s σ H locs) (hk : kd k = 0) (hlink : Cond.fieldLink own index "ThermostatColony$Books" "fromHeater" "I" ∈ AL) (hdg : decode cc pc = .ok (.getfield index, 3)) (kk : W p l e R s m args below meth c H locs 0 0 Q (F0 m (pc + 3) ls (.int (σ k 1) :: rest))) : W p l e R s m args below meth c H locs 0 0 Q (F0 m pc ls (.ref (B + k) :: rest)) :=
  x_get CX hM (kdl hk rfl) (ly0 hk _) in_X0 rfl 1 (by decide) hlink rfl hdg kk
theorem g0_2 (CX : xCX p m c cc nL s args x0 own E B 160) (hM : xS E B 160 (layX E B) s σ H locs) (hk : kd k = 0) (hlink : Cond.fieldLink own index "ThermostatColony$Books" "toOutside" "I" ∈ AL) (hdg : decode cc pc = .ok (.getfield index, 3)) (kk : W p l e R s m args below meth c H locs 0 0 Q (F0 m (pc + 3) ls (.int (σ k 2) :: rest))) : W p l e R s m args below meth c H locs 0 0 Q (F0 m pc ls (.ref (B + k) :: rest)) :=
  x_get CX hM (kdl hk rfl) (ly0 hk _) in_X0 rfl 2 (by decide) hlink rfl hdg kk
theorem g0_3 (CX : xCX p m c cc nL s args x0 own E B 160) (hM : xS E B 160 (layX E B) s σ H locs) (hk : kd k = 0) (hlink : Cond.fieldLink own index "ThermostatColony$Books" "toOthers" "I" ∈ AL) (hdg : decode cc pc = .ok (.getfield index, 3)) (kk : W p l e R s m args below meth c H locs 0 0 Q (F0 m (pc + 3) ls (.int (σ k 3) :: rest))) : W p l e R s m args below meth c H locs 0 0 Q (F0 m pc ls (.ref (B + k) :: rest)) :=
  x_get CX hM (kdl hk rfl) (ly0 hk _) in_X0 rfl 3 (by decide) hlink rfl hdg kk
theorem g0_4 (CX : xCX p m c cc nL s args x0 own E B 160) (hM : xS E B 160 (layX E B) s σ H locs) (hk : kd k = 0) (hlink : Cond.fieldLink own index "ThermostatColony$Books" "byWarm" "I" ∈ AL) (hdg : decode cc pc = .ok (.getfield index, 3)) (kk : W p l e R s m args below meth c H locs 0 0 Q (F0 m (pc + 3) ls (.int (σ k 4) :: rest))) : W p l e R s m args below meth c H locs 0 0 Q (F0 m pc ls (.ref (B + k) :: rest)) :=
  x_get CX hM (kdl hk rfl) (ly0 hk _) in_X0 rfl 4 (by decide) hlink rfl hdg kk
theorem g1_0 (CX : xCX p m c cc nL s args x0 own E B 160) (hM : xS E B 160 (layX E B) s σ H locs) (hk : kd k = 1) (hlink : Cond.fieldLink own index "ThermostatColony$Colony" "numbers" "[I" ∈ AL) (hdg : decode cc pc = .ok (.getfield index, 3)) (kk : W p l e R s m args below meth c H locs 0 0 Q (F0 m (pc + 3) ls (.ref (B + (k + 1)) :: rest))) : W p l e R s m args below meth c H locs 0 0 Q (F0 m pc ls (.ref (B + k) :: rest)) :=
  x_get CX hM (kdl hk rfl) (ly1 hk _) in_X1 rfl 0 (by decide) hlink rfl hdg kk
theorem g1_1 (CX : xCX p m c cc nL s args x0 own E B 160) (hM : xS E B 160 (layX E B) s σ H locs) (hk : kd k = 1) (hlink : Cond.fieldLink own index "ThermostatColony$Colony" "rooms" "[LThermostatColony$Room;" ∈ AL) (hdg : decode cc pc = .ok (.getfield index, 3)) (kk : W p l e R s m args below meth c H locs 0 0 Q (F0 m (pc + 3) ls (.ref (B + (k + 2)) :: rest))) : W p l e R s m args below meth c H locs 0 0 Q (F0 m pc ls (.ref (B + k) :: rest)) :=
  x_get CX hM (kdl hk rfl) (ly1 hk _) in_X1 rfl 1 (by decide) hlink rfl hdg kk
theorem g1_2 (CX : xCX p m c cc nL s args x0 own E B 160) (hM : xS E B 160 (layX E B) s σ H locs) (hk : kd k = 1) (hlink : Cond.fieldLink own index "ThermostatColony$Colony" "links" "[I" ∈ AL) (hdg : decode cc pc = .ok (.getfield index, 3)) (kk : W p l e R s m args below meth c H locs 0 0 Q (F0 m (pc + 3) ls (.ref (B + (k + 3)) :: rest))) : W p l e R s m args below meth c H locs 0 0 Q (F0 m pc ls (.ref (B + k) :: rest)) :=
  x_get CX hM (kdl hk rfl) (ly1 hk _) in_X1 rfl 2 (by decide) hlink rfl hdg kk
theorem g1_3 (CX : xCX p m c cc nL s args x0 own E B 160) (hM : xS E B 160 (layX E B) s σ H locs) (hk : kd k = 1) (hlink : Cond.fieldLink own index "ThermostatColony$Colony" "weather" "LThermostatColony$Weather;" ∈ AL) (hdg : decode cc pc = .ok (.getfield index, 3)) (kk : W p l e R s m args below meth c H locs 0 0 Q (F0 m (pc + 3) ls (.ref (B + (k + 4)) :: rest))) : W p l e R s m args below meth c H locs 0 0 Q (F0 m pc ls (.ref (B + k) :: rest)) :=
  x_get CX hM (kdl hk rfl) (ly1 hk _) in_X1 rfl 3 (by decide) hlink rfl hdg kk
theorem g1_4 (CX : xCX p m c cc nL s args x0 own E B 160) (hM : xS E B 160 (layX E B) s σ H locs) (hk : kd k = 1) (hlink : Cond.fieldLink own index "ThermostatColony$Colony" "roomCount" "I" ∈ AL) (hdg : decode cc pc = .ok (.getfield index, 3)) (kk : W p l e R s m args below meth c H locs 0 0 Q (F0 m (pc + 3) ls (.int (σ k 4) :: rest))) : W p l e R s m args below meth c H locs 0 0 Q (F0 m pc ls (.ref (B + k) :: rest)) :=
  x_get CX hM (kdl hk rfl) (ly1 hk _) in_X1 rfl 4 (by decide) hlink rfl hdg kk
theorem g1_5 (CX : xCX p m c cc nL s args x0 own E B 160) (hM : xS E B 160 (layX E B) s σ H locs) (hk : kd k = 1) (hlink : Cond.fieldLink own index "ThermostatColony$Colony" "time" "I" ∈ AL) (hdg : decode cc pc = .ok (.getfield index, 3)) (kk : W p l e R s m args below meth c H locs 0 0 Q (F0 m (pc + 3) ls (.int (σ k 5) :: rest))) : W p l e R s m args below meth c H locs 0 0 Q (F0 m pc ls (.ref (B + k) :: rest)) :=
  x_get CX hM (kdl hk rfl) (ly1 hk _) in_X1 rfl 5 (by decide) hlink rfl hdg kk
theorem g2_0 (CX : xCX p m c cc nL s args x0 own E B 160) (hM : xS E B 160 (layX E B) s σ H locs) (hk : kd k = 2) (hlink : Cond.fieldLink own index "ThermostatColony$History" "states" "[LThermostatColony$Colony;" ∈ AL) (hdg : decode cc pc = .ok (.getfield index, 3)) (kk : W p l e R s m args below meth c H locs 0 0 Q (F0 m (pc + 3) ls (.ref (B + (k + 1)) :: rest))) : W p l e R s m args below meth c H locs 0 0 Q (F0 m pc ls (.ref (B + k) :: rest)) :=
  x_get CX hM (kdl hk rfl) (ly2 hk _) in_X2 rfl 0 (by decide) hlink rfl hdg kk
theorem g2_1 (CX : xCX p m c cc nL s args x0 own E B 160) (hM : xS E B 160 (layX E B) s σ H locs) (hk : kd k = 2) (hlink : Cond.fieldLink own index "ThermostatColony$History" "next" "I" ∈ AL) (hdg : decode cc pc = .ok (.getfield index, 3)) (kk : W p l e R s m args below meth c H locs 0 0 Q (F0 m (pc + 3) ls (.int (σ k 1) :: rest))) : W p l e R s m args below meth c H locs 0 0 Q (F0 m pc ls (.ref (B + k) :: rest)) :=
  x_get CX hM (kdl hk rfl) (ly2 hk _) in_X2 rfl 1 (by decide) hlink rfl hdg kk
theorem g2_2 (CX : xCX p m c cc nL s args x0 own E B 160) (hM : xS E B 160 (layX E B) s σ H locs) (hk : kd k = 2) (hlink : Cond.fieldLink own index "ThermostatColony$History" "size" "I" ∈ AL) (hdg : decode cc pc = .ok (.getfield index, 3)) (kk : W p l e R s m args below meth c H locs 0 0 Q (F0 m (pc + 3) ls (.int (σ k 2) :: rest))) : W p l e R s m args below meth c H locs 0 0 Q (F0 m pc ls (.ref (B + k) :: rest)) :=
  x_get CX hM (kdl hk rfl) (ly2 hk _) in_X2 rfl 2 (by decide) hlink rfl hdg kk
theorem g3_0 (CX : xCX p m c cc nL s args x0 own E B 160) (hM : xS E B 160 (layX E B) s σ H locs) (hk : kd k = 3) (hlink : Cond.fieldLink own index "ThermostatColony$Room" "books" "LThermostatColony$Books;" ∈ AL) (hdg : decode cc pc = .ok (.getfield index, 3)) (kk : W p l e R s m args below meth c H locs 0 0 Q (F0 m (pc + 3) ls (.ref (B + (k + 1)) :: rest))) : W p l e R s m args below meth c H locs 0 0 Q (F0 m pc ls (.ref (B + k) :: rest)) :=
  x_get CX hM (kdl hk rfl) (ly3 hk _) in_X3 rfl 0 (by decide) hlink rfl hdg kk
theorem g3_1 (CX : xCX p m c cc nL s args x0 own E B 160) (hM : xS E B 160 (layX E B) s σ H locs) (hk : kd k = 3) (hlink : Cond.fieldLink own index "ThermostatColony$Room" "capacity" "I" ∈ AL) (hdg : decode cc pc = .ok (.getfield index, 3)) (kk : W p l e R s m args below meth c H locs 0 0 Q (F0 m (pc + 3) ls (.int (σ k 1) :: rest))) : W p l e R s m args below meth c H locs 0 0 Q (F0 m pc ls (.ref (B + k) :: rest)) :=
  x_get CX hM (kdl hk rfl) (ly3 hk _) in_X3 rfl 1 (by decide) hlink rfl hdg kk
theorem g3_2 (CX : xCX p m c cc nL s args x0 own E B 160) (hM : xS E B 160 (layX E B) s σ H locs) (hk : kd k = 3) (hlink : Cond.fieldLink own index "ThermostatColony$Room" "power" "I" ∈ AL) (hdg : decode cc pc = .ok (.getfield index, 3)) (kk : W p l e R s m args below meth c H locs 0 0 Q (F0 m (pc + 3) ls (.int (σ k 2) :: rest))) : W p l e R s m args below meth c H locs 0 0 Q (F0 m pc ls (.ref (B + k) :: rest)) :=
  x_get CX hM (kdl hk rfl) (ly3 hk _) in_X3 rfl 2 (by decide) hlink rfl hdg kk
theorem g3_3 (CX : xCX p m c cc nL s args x0 own E B 160) (hM : xS E B 160 (layX E B) s σ H locs) (hk : kd k = 3) (hlink : Cond.fieldLink own index "ThermostatColony$Room" "leak" "I" ∈ AL) (hdg : decode cc pc = .ok (.getfield index, 3)) (kk : W p l e R s m args below meth c H locs 0 0 Q (F0 m (pc + 3) ls (.int (σ k 3) :: rest))) : W p l e R s m args below meth c H locs 0 0 Q (F0 m pc ls (.ref (B + k) :: rest)) :=
  x_get CX hM (kdl hk rfl) (ly3 hk _) in_X3 rfl 3 (by decide) hlink rfl hdg kk
theorem g3_4 (CX : xCX p m c cc nL s args x0 own E B 160) (hM : xS E B 160 (layX E B) s σ H locs) (hk : kd k = 3) (hlink : Cond.fieldLink own index "ThermostatColony$Room" "heat" "I" ∈ AL) (hdg : decode cc pc = .ok (.getfield index, 3)) (kk : W p l e R s m args below meth c H locs 0 0 Q (F0 m (pc + 3) ls (.int (σ k 4) :: rest))) : W p l e R s m args below meth c H locs 0 0 Q (F0 m pc ls (.ref (B + k) :: rest)) :=
  x_get CX hM (kdl hk rfl) (ly3 hk _) in_X3 rfl 4 (by decide) hlink rfl hdg kk
theorem g3_5 (CX : xCX p m c cc nL s args x0 own E B 160) (hM : xS E B 160 (layX E B) s σ H locs) (hk : kd k = 3) (hlink : Cond.fieldLink own index "ThermostatColony$Room" "point" "I" ∈ AL) (hdg : decode cc pc = .ok (.getfield index, 3)) (kk : W p l e R s m args below meth c H locs 0 0 Q (F0 m (pc + 3) ls (.int (σ k 5) :: rest))) : W p l e R s m args below meth c H locs 0 0 Q (F0 m pc ls (.ref (B + k) :: rest)) :=
  x_get CX hM (kdl hk rfl) (ly3 hk _) in_X3 rfl 5 (by decide) hlink rfl hdg kk
theorem g3_6 (CX : xCX p m c cc nL s args x0 own E B 160) (hM : xS E B 160 (layX E B) s σ H locs) (hk : kd k = 3) (hlink : Cond.fieldLink own index "ThermostatColony$Room" "band" "I" ∈ AL) (hdg : decode cc pc = .ok (.getfield index, 3)) (kk : W p l e R s m args below meth c H locs 0 0 Q (F0 m (pc + 3) ls (.int (σ k 6) :: rest))) : W p l e R s m args below meth c H locs 0 0 Q (F0 m pc ls (.ref (B + k) :: rest)) :=
  x_get CX hM (kdl hk rfl) (ly3 hk _) in_X3 rfl 6 (by decide) hlink rfl hdg kk
theorem g3_7 (CX : xCX p m c cc nL s args x0 own E B 160) (hM : xS E B 160 (layX E B) s σ H locs) (hk : kd k = 3) (hlink : Cond.fieldLink own index "ThermostatColony$Room" "blade" "I" ∈ AL) (hdg : decode cc pc = .ok (.getfield index, 3)) (kk : W p l e R s m args below meth c H locs 0 0 Q (F0 m (pc + 3) ls (.int (σ k 7) :: rest))) : W p l e R s m args below meth c H locs 0 0 Q (F0 m pc ls (.ref (B + k) :: rest)) :=
  x_get CX hM (kdl hk rfl) (ly3 hk _) in_X3 rfl 7 (by decide) hlink rfl hdg kk
theorem g3_8 (CX : xCX p m c cc nL s args x0 own E B 160) (hM : xS E B 160 (layX E B) s σ H locs) (hk : kd k = 3) (hlink : Cond.fieldLink own index "ThermostatColony$Room" "closed" "Z" ∈ AL) (hdg : decode cc pc = .ok (.getfield index, 3)) (kk : W p l e R s m args below meth c H locs 0 0 Q (F0 m (pc + 3) ls (.int (bz (σ k 8)) :: rest))) : W p l e R s m args below meth c H locs 0 0 Q (F0 m pc ls (.ref (B + k) :: rest)) :=
  x_get CX hM (kdl hk rfl) (ly3 hk _) in_X3 rfl 8 (by decide) hlink rfl hdg kk
theorem g3_9 (CX : xCX p m c cc nL s args x0 own E B 160) (hM : xS E B 160 (layX E B) s σ H locs) (hk : kd k = 3) (hlink : Cond.fieldLink own index "ThermostatColony$Room" "welded" "Z" ∈ AL) (hdg : decode cc pc = .ok (.getfield index, 3)) (kk : W p l e R s m args below meth c H locs 0 0 Q (F0 m (pc + 3) ls (.int (bz (σ k 9)) :: rest))) : W p l e R s m args below meth c H locs 0 0 Q (F0 m pc ls (.ref (B + k) :: rest)) :=
  x_get CX hM (kdl hk rfl) (ly3 hk _) in_X3 rfl 9 (by decide) hlink rfl hdg kk
theorem g3_10 (CX : xCX p m c cc nL s args x0 own E B 160) (hM : xS E B 160 (layX E B) s σ H locs) (hk : kd k = 3) (hlink : Cond.fieldLink own index "ThermostatColony$Room" "tripped" "Z" ∈ AL) (hdg : decode cc pc = .ok (.getfield index, 3)) (kk : W p l e R s m args below meth c H locs 0 0 Q (F0 m (pc + 3) ls (.int (bz (σ k 10)) :: rest))) : W p l e R s m args below meth c H locs 0 0 Q (F0 m pc ls (.ref (B + k) :: rest)) :=
  x_get CX hM (kdl hk rfl) (ly3 hk _) in_X3 rfl 10 (by decide) hlink rfl hdg kk
theorem g3_11 (CX : xCX p m c cc nL s args x0 own E B 160) (hM : xS E B 160 (layX E B) s σ H locs) (hk : kd k = 3) (hlink : Cond.fieldLink own index "ThermostatColony$Room" "wear" "I" ∈ AL) (hdg : decode cc pc = .ok (.getfield index, 3)) (kk : W p l e R s m args below meth c H locs 0 0 Q (F0 m (pc + 3) ls (.int (σ k 11) :: rest))) : W p l e R s m args below meth c H locs 0 0 Q (F0 m pc ls (.ref (B + k) :: rest)) :=
  x_get CX hM (kdl hk rfl) (ly3 hk _) in_X3 rfl 11 (by decide) hlink rfl hdg kk
theorem g3_12 (CX : xCX p m c cc nL s args x0 own E B 160) (hM : xS E B 160 (layX E B) s σ H locs) (hk : kd k = 3) (hlink : Cond.fieldLink own index "ThermostatColony$Room" "attempts" "I" ∈ AL) (hdg : decode cc pc = .ok (.getfield index, 3)) (kk : W p l e R s m args below meth c H locs 0 0 Q (F0 m (pc + 3) ls (.int (σ k 12) :: rest))) : W p l e R s m args below meth c H locs 0 0 Q (F0 m pc ls (.ref (B + k) :: rest)) :=
  x_get CX hM (kdl hk rfl) (ly3 hk _) in_X3 rfl 12 (by decide) hlink rfl hdg kk
theorem g3_13 (CX : xCX p m c cc nL s args x0 own E B 160) (hM : xS E B 160 (layX E B) s σ H locs) (hk : kd k = 3) (hlink : Cond.fieldLink own index "ThermostatColony$Room" "closings" "I" ∈ AL) (hdg : decode cc pc = .ok (.getfield index, 3)) (kk : W p l e R s m args below meth c H locs 0 0 Q (F0 m (pc + 3) ls (.int (σ k 13) :: rest))) : W p l e R s m args below meth c H locs 0 0 Q (F0 m pc ls (.ref (B + k) :: rest)) :=
  x_get CX hM (kdl hk rfl) (ly3 hk _) in_X3 rfl 13 (by decide) hlink rfl hdg kk
theorem g3_14 (CX : xCX p m c cc nL s args x0 own E B 160) (hM : xS E B 160 (layX E B) s σ H locs) (hk : kd k = 3) (hlink : Cond.fieldLink own index "ThermostatColony$Room" "latestClosing" "I" ∈ AL) (hdg : decode cc pc = .ok (.getfield index, 3)) (kk : W p l e R s m args below meth c H locs 0 0 Q (F0 m (pc + 3) ls (.int (σ k 14) :: rest))) : W p l e R s m args below meth c H locs 0 0 Q (F0 m pc ls (.ref (B + k) :: rest)) :=
  x_get CX hM (kdl hk rfl) (ly3 hk _) in_X3 rfl 14 (by decide) hlink rfl hdg kk
theorem g3_15 (CX : xCX p m c cc nL s args x0 own E B 160) (hM : xS E B 160 (layX E B) s σ H locs) (hk : kd k = 3) (hlink : Cond.fieldLink own index "ThermostatColony$Room" "fines" "I" ∈ AL) (hdg : decode cc pc = .ok (.getfield index, 3)) (kk : W p l e R s m args below meth c H locs 0 0 Q (F0 m (pc + 3) ls (.int (σ k 15) :: rest))) : W p l e R s m args below meth c H locs 0 0 Q (F0 m pc ls (.ref (B + k) :: rest)) :=
  x_get CX hM (kdl hk rfl) (ly3 hk _) in_X3 rfl 15 (by decide) hlink rfl hdg kk
theorem g3_16 (CX : xCX p m c cc nL s args x0 own E B 160) (hM : xS E B 160 (layX E B) s σ H locs) (hk : kd k = 3) (hlink : Cond.fieldLink own index "ThermostatColony$Room" "suspectMinutes" "I" ∈ AL) (hdg : decode cc pc = .ok (.getfield index, 3)) (kk : W p l e R s m args below meth c H locs 0 0 Q (F0 m (pc + 3) ls (.int (σ k 16) :: rest))) : W p l e R s m args below meth c H locs 0 0 Q (F0 m pc ls (.ref (B + k) :: rest)) :=
  x_get CX hM (kdl hk rfl) (ly3 hk _) in_X3 rfl 16 (by decide) hlink rfl hdg kk
theorem g3_17 (CX : xCX p m c cc nL s args x0 own E B 160) (hM : xS E B 160 (layX E B) s σ H locs) (hk : kd k = 3) (hlink : Cond.fieldLink own index "ThermostatColony$Room" "minuteTemperature" "I" ∈ AL) (hdg : decode cc pc = .ok (.getfield index, 3)) (kk : W p l e R s m args below meth c H locs 0 0 Q (F0 m (pc + 3) ls (.int (σ k 17) :: rest))) : W p l e R s m args below meth c H locs 0 0 Q (F0 m pc ls (.ref (B + k) :: rest)) :=
  x_get CX hM (kdl hk rfl) (ly3 hk _) in_X3 rfl 17 (by decide) hlink rfl hdg kk
theorem g4_0 (CX : xCX p m c cc nL s args x0 own E B 160) (hM : xS E B 160 (layX E B) s σ H locs) (hk : kd k = 4) (hlink : Cond.fieldLink own index "ThermostatColony$Weather" "minutes" "[I" ∈ AL) (hdg : decode cc pc = .ok (.getfield index, 3)) (kk : W p l e R s m args below meth c H locs 0 0 Q (F0 m (pc + 3) ls (.ref (B + (k + 1)) :: rest))) : W p l e R s m args below meth c H locs 0 0 Q (F0 m pc ls (.ref (B + k) :: rest)) :=
  x_get CX hM (kdl hk rfl) (ly4 hk _) in_X4 rfl 0 (by decide) hlink rfl hdg kk
theorem g4_1 (CX : xCX p m c cc nL s args x0 own E B 160) (hM : xS E B 160 (layX E B) s σ H locs) (hk : kd k = 4) (hlink : Cond.fieldLink own index "ThermostatColony$Weather" "degrees" "[I" ∈ AL) (hdg : decode cc pc = .ok (.getfield index, 3)) (kk : W p l e R s m args below meth c H locs 0 0 Q (F0 m (pc + 3) ls (.ref (B + (k + 2)) :: rest))) : W p l e R s m args below meth c H locs 0 0 Q (F0 m pc ls (.ref (B + k) :: rest)) :=
  x_get CX hM (kdl hk rfl) (ly4 hk _) in_X4 rfl 1 (by decide) hlink rfl hdg kk
theorem g4_2 (CX : xCX p m c cc nL s args x0 own E B 160) (hM : xS E B 160 (layX E B) s σ H locs) (hk : kd k = 4) (hlink : Cond.fieldLink own index "ThermostatColony$Weather" "size" "I" ∈ AL) (hdg : decode cc pc = .ok (.getfield index, 3)) (kk : W p l e R s m args below meth c H locs 0 0 Q (F0 m (pc + 3) ls (.int (σ k 2) :: rest))) : W p l e R s m args below meth c H locs 0 0 Q (F0 m pc ls (.ref (B + k) :: rest)) :=
  x_get CX hM (kdl hk rfl) (ly4 hk _) in_X4 rfl 2 (by decide) hlink rfl hdg kk
theorem g5_1 (CX : xCX p m c cc nL s args x0 own E B 160) (hM : xS E B 160 (layX E B) s σ H locs) (hk : kd k = 5) (hlink : Cond.fieldLink own index "ThermostatColony$WeatherText" "length" "I" ∈ AL) (hdg : decode cc pc = .ok (.getfield index, 3)) (kk : W p l e R s m args below meth c H locs 0 0 Q (F0 m (pc + 3) ls (.int (σ k 1) :: rest))) : W p l e R s m args below meth c H locs 0 0 Q (F0 m pc ls (.ref (B + k) :: rest)) :=
  x_get CX hM (kdl hk rfl) (ly5 hk _) in_X5 rfl 1 (by decide) hlink rfl hdg kk
theorem g6_0 (CX : xCX p m c cc nL s args x0 own E B 160) (hM : xS E B 160 (layX E B) s σ H locs) (hk : kd k = 6) (hlink : Cond.fieldLink own index "ThermostatColony" "now" "LThermostatColony$Colony;" ∈ AL) (hdg : decode cc pc = .ok (.getfield index, 3)) (kk : W p l e R s m args below meth c H locs 0 0 Q (F0 m (pc + 3) ls (.ref (B + (k + 1)) :: rest))) : W p l e R s m args below meth c H locs 0 0 Q (F0 m pc ls (.ref (B + k) :: rest)) :=
  x_get CX hM (kdl hk rfl) (ly6 hk _) in_X6 rfl 0 (by decide) hlink rfl hdg kk
theorem g6_1 (CX : xCX p m c cc nL s args x0 own E B 160) (hM : xS E B 160 (layX E B) s σ H locs) (hk : kd k = 6) (hlink : Cond.fieldLink own index "ThermostatColony" "forecast" "LThermostatColony$Colony;" ∈ AL) (hdg : decode cc pc = .ok (.getfield index, 3)) (kk : W p l e R s m args below meth c H locs 0 0 Q (F0 m (pc + 3) ls (.ref (B + (k + 20)) :: rest))) : W p l e R s m args below meth c H locs 0 0 Q (F0 m pc ls (.ref (B + k) :: rest)) :=
  x_get CX hM (kdl hk rfl) (ly6 hk _) in_X6 rfl 1 (by decide) hlink rfl hdg kk
theorem g6_2 (CX : xCX p m c cc nL s args x0 own E B 160) (hM : xS E B 160 (layX E B) s σ H locs) (hk : kd k = 6) (hlink : Cond.fieldLink own index "ThermostatColony" "history" "LThermostatColony$History;" ∈ AL) (hdg : decode cc pc = .ok (.getfield index, 3)) (kk : W p l e R s m args below meth c H locs 0 0 Q (F0 m (pc + 3) ls (.ref (B + (k + 39)) :: rest))) : W p l e R s m args below meth c H locs 0 0 Q (F0 m pc ls (.ref (B + k) :: rest)) :=
  x_get CX hM (kdl hk rfl) (ly6 hk _) in_X6 rfl 2 (by decide) hlink rfl hdg kk
theorem g6_3 (CX : xCX p m c cc nL s args x0 own E B 160) (hM : xS E B 160 (layX E B) s σ H locs) (hk : kd k = 6) (hlink : Cond.fieldLink own index "ThermostatColony" "text" "LThermostatColony$WeatherText;" ∈ AL) (hdg : decode cc pc = .ok (.getfield index, 3)) (kk : W p l e R s m args below meth c H locs 0 0 Q (F0 m (pc + 3) ls (.ref (B + (k + 155)) :: rest))) : W p l e R s m args below meth c H locs 0 0 Q (F0 m pc ls (.ref (B + k) :: rest)) :=
  x_get CX hM (kdl hk rfl) (ly6 hk _) in_X6 rfl 3 (by decide) hlink rfl hdg kk
theorem p0_0 {y : Int32} (CX : xCX p m c cc nL s args x0 own E B 160) (hM : xS E B 160 (layX E B) s σ H locs) (hk : kd k = 0) (hlink : Cond.fieldLink own index "ThermostatColony$Books" "firstHeat" "I" ∈ AL) (hdg : decode cc pc = .ok (.putfield index, 3)) (kk : ∀ (H1 : Heap) (locs1 : List Loc) (σ1 : xM), σ1 = xup σ k 0 y → xS E B 160 (layX E B) s σ1 H1 locs1 → W p l e R s m args below meth c H1 locs1 0 0 Q (F0 m (pc + 3) ls rest)) : W p l e R s m args below meth c H locs 0 0 Q (F0 m pc ls (.int (y) :: .ref (B + k) :: rest)) :=
  x_put (ty := .int) CX hM (y) y (kdl hk rfl) (ly0 hk _) in_X0 tyX0 tyX0_ok nmX0 rfl 0 (by decide) hlink rfl rfl rfl rfl (show 0 < 5 by decide) (by rw [ly0 hk]; rfl) hdg kk
theorem p0_1 {y : Int32} (CX : xCX p m c cc nL s args x0 own E B 160) (hM : xS E B 160 (layX E B) s σ H locs) (hk : kd k = 0) (hlink : Cond.fieldLink own index "ThermostatColony$Books" "fromHeater" "I" ∈ AL) (hdg : decode cc pc = .ok (.putfield index, 3)) (kk : ∀ (H1 : Heap) (locs1 : List Loc) (σ1 : xM), σ1 = xup σ k 1 y → xS E B 160 (layX E B) s σ1 H1 locs1 → W p l e R s m args below meth c H1 locs1 0 0 Q (F0 m (pc + 3) ls rest)) : W p l e R s m args below meth c H locs 0 0 Q (F0 m pc ls (.int (y) :: .ref (B + k) :: rest)) :=
  x_put (ty := .int) CX hM (y) y (kdl hk rfl) (ly0 hk _) in_X0 tyX0 tyX0_ok nmX0 rfl 1 (by decide) hlink rfl rfl rfl rfl (show 1 < 5 by decide) (by rw [ly0 hk]; rfl) hdg kk
theorem p0_2 {y : Int32} (CX : xCX p m c cc nL s args x0 own E B 160) (hM : xS E B 160 (layX E B) s σ H locs) (hk : kd k = 0) (hlink : Cond.fieldLink own index "ThermostatColony$Books" "toOutside" "I" ∈ AL) (hdg : decode cc pc = .ok (.putfield index, 3)) (kk : ∀ (H1 : Heap) (locs1 : List Loc) (σ1 : xM), σ1 = xup σ k 2 y → xS E B 160 (layX E B) s σ1 H1 locs1 → W p l e R s m args below meth c H1 locs1 0 0 Q (F0 m (pc + 3) ls rest)) : W p l e R s m args below meth c H locs 0 0 Q (F0 m pc ls (.int (y) :: .ref (B + k) :: rest)) :=
  x_put (ty := .int) CX hM (y) y (kdl hk rfl) (ly0 hk _) in_X0 tyX0 tyX0_ok nmX0 rfl 2 (by decide) hlink rfl rfl rfl rfl (show 2 < 5 by decide) (by rw [ly0 hk]; rfl) hdg kk
theorem p0_3 {y : Int32} (CX : xCX p m c cc nL s args x0 own E B 160) (hM : xS E B 160 (layX E B) s σ H locs) (hk : kd k = 0) (hlink : Cond.fieldLink own index "ThermostatColony$Books" "toOthers" "I" ∈ AL) (hdg : decode cc pc = .ok (.putfield index, 3)) (kk : ∀ (H1 : Heap) (locs1 : List Loc) (σ1 : xM), σ1 = xup σ k 3 y → xS E B 160 (layX E B) s σ1 H1 locs1 → W p l e R s m args below meth c H1 locs1 0 0 Q (F0 m (pc + 3) ls rest)) : W p l e R s m args below meth c H locs 0 0 Q (F0 m pc ls (.int (y) :: .ref (B + k) :: rest)) :=
  x_put (ty := .int) CX hM (y) y (kdl hk rfl) (ly0 hk _) in_X0 tyX0 tyX0_ok nmX0 rfl 3 (by decide) hlink rfl rfl rfl rfl (show 3 < 5 by decide) (by rw [ly0 hk]; rfl) hdg kk
theorem p0_4 {y : Int32} (CX : xCX p m c cc nL s args x0 own E B 160) (hM : xS E B 160 (layX E B) s σ H locs) (hk : kd k = 0) (hlink : Cond.fieldLink own index "ThermostatColony$Books" "byWarm" "I" ∈ AL) (hdg : decode cc pc = .ok (.putfield index, 3)) (kk : ∀ (H1 : Heap) (locs1 : List Loc) (σ1 : xM), σ1 = xup σ k 4 y → xS E B 160 (layX E B) s σ1 H1 locs1 → W p l e R s m args below meth c H1 locs1 0 0 Q (F0 m (pc + 3) ls rest)) : W p l e R s m args below meth c H locs 0 0 Q (F0 m pc ls (.int (y) :: .ref (B + k) :: rest)) :=
  x_put (ty := .int) CX hM (y) y (kdl hk rfl) (ly0 hk _) in_X0 tyX0 tyX0_ok nmX0 rfl 4 (by decide) hlink rfl rfl rfl rfl (show 4 < 5 by decide) (by rw [ly0 hk]; rfl) hdg kk
theorem p1_4 {y : Int32} (CX : xCX p m c cc nL s args x0 own E B 160) (hM : xS E B 160 (layX E B) s σ H locs) (hk : kd k = 1) (hlink : Cond.fieldLink own index "ThermostatColony$Colony" "roomCount" "I" ∈ AL) (hdg : decode cc pc = .ok (.putfield index, 3)) (kk : ∀ (H1 : Heap) (locs1 : List Loc) (σ1 : xM), σ1 = xup σ k 4 y → xS E B 160 (layX E B) s σ1 H1 locs1 → W p l e R s m args below meth c H1 locs1 0 0 Q (F0 m (pc + 3) ls rest)) : W p l e R s m args below meth c H locs 0 0 Q (F0 m pc ls (.int (y) :: .ref (B + k) :: rest)) :=
  x_put (ty := .int) CX hM (y) y (kdl hk rfl) (ly1 hk _) in_X1 tyX1 tyX1_ok nmX1 rfl 4 (by decide) hlink rfl rfl rfl rfl (show 4 < 6 by decide) (by rw [ly1 hk]; rfl) hdg kk
theorem p1_5 {y : Int32} (CX : xCX p m c cc nL s args x0 own E B 160) (hM : xS E B 160 (layX E B) s σ H locs) (hk : kd k = 1) (hlink : Cond.fieldLink own index "ThermostatColony$Colony" "time" "I" ∈ AL) (hdg : decode cc pc = .ok (.putfield index, 3)) (kk : ∀ (H1 : Heap) (locs1 : List Loc) (σ1 : xM), σ1 = xup σ k 5 y → xS E B 160 (layX E B) s σ1 H1 locs1 → W p l e R s m args below meth c H1 locs1 0 0 Q (F0 m (pc + 3) ls rest)) : W p l e R s m args below meth c H locs 0 0 Q (F0 m pc ls (.int (y) :: .ref (B + k) :: rest)) :=
  x_put (ty := .int) CX hM (y) y (kdl hk rfl) (ly1 hk _) in_X1 tyX1 tyX1_ok nmX1 rfl 5 (by decide) hlink rfl rfl rfl rfl (show 5 < 6 by decide) (by rw [ly1 hk]; rfl) hdg kk
theorem p2_1 {y : Int32} (CX : xCX p m c cc nL s args x0 own E B 160) (hM : xS E B 160 (layX E B) s σ H locs) (hk : kd k = 2) (hlink : Cond.fieldLink own index "ThermostatColony$History" "next" "I" ∈ AL) (hdg : decode cc pc = .ok (.putfield index, 3)) (kk : ∀ (H1 : Heap) (locs1 : List Loc) (σ1 : xM), σ1 = xup σ k 1 y → xS E B 160 (layX E B) s σ1 H1 locs1 → W p l e R s m args below meth c H1 locs1 0 0 Q (F0 m (pc + 3) ls rest)) : W p l e R s m args below meth c H locs 0 0 Q (F0 m pc ls (.int (y) :: .ref (B + k) :: rest)) :=
  x_put (ty := .int) CX hM (y) y (kdl hk rfl) (ly2 hk _) in_X2 tyX2 tyX2_ok nmX2 rfl 1 (by decide) hlink rfl rfl rfl rfl (show 1 < 3 by decide) (by rw [ly2 hk]; rfl) hdg kk
theorem p2_2 {y : Int32} (CX : xCX p m c cc nL s args x0 own E B 160) (hM : xS E B 160 (layX E B) s σ H locs) (hk : kd k = 2) (hlink : Cond.fieldLink own index "ThermostatColony$History" "size" "I" ∈ AL) (hdg : decode cc pc = .ok (.putfield index, 3)) (kk : ∀ (H1 : Heap) (locs1 : List Loc) (σ1 : xM), σ1 = xup σ k 2 y → xS E B 160 (layX E B) s σ1 H1 locs1 → W p l e R s m args below meth c H1 locs1 0 0 Q (F0 m (pc + 3) ls rest)) : W p l e R s m args below meth c H locs 0 0 Q (F0 m pc ls (.int (y) :: .ref (B + k) :: rest)) :=
  x_put (ty := .int) CX hM (y) y (kdl hk rfl) (ly2 hk _) in_X2 tyX2 tyX2_ok nmX2 rfl 2 (by decide) hlink rfl rfl rfl rfl (show 2 < 3 by decide) (by rw [ly2 hk]; rfl) hdg kk
theorem p3_1 {y : Int32} (CX : xCX p m c cc nL s args x0 own E B 160) (hM : xS E B 160 (layX E B) s σ H locs) (hk : kd k = 3) (hlink : Cond.fieldLink own index "ThermostatColony$Room" "capacity" "I" ∈ AL) (hdg : decode cc pc = .ok (.putfield index, 3)) (kk : ∀ (H1 : Heap) (locs1 : List Loc) (σ1 : xM), σ1 = xup σ k 1 y → xS E B 160 (layX E B) s σ1 H1 locs1 → W p l e R s m args below meth c H1 locs1 0 0 Q (F0 m (pc + 3) ls rest)) : W p l e R s m args below meth c H locs 0 0 Q (F0 m pc ls (.int (y) :: .ref (B + k) :: rest)) :=
  x_put (ty := .int) CX hM (y) y (kdl hk rfl) (ly3 hk _) in_X3 tyX3 tyX3_ok nmX3 rfl 1 (by decide) hlink rfl rfl rfl rfl (show 1 < 18 by decide) (by rw [ly3 hk]; rfl) hdg kk
theorem p3_2 {y : Int32} (CX : xCX p m c cc nL s args x0 own E B 160) (hM : xS E B 160 (layX E B) s σ H locs) (hk : kd k = 3) (hlink : Cond.fieldLink own index "ThermostatColony$Room" "power" "I" ∈ AL) (hdg : decode cc pc = .ok (.putfield index, 3)) (kk : ∀ (H1 : Heap) (locs1 : List Loc) (σ1 : xM), σ1 = xup σ k 2 y → xS E B 160 (layX E B) s σ1 H1 locs1 → W p l e R s m args below meth c H1 locs1 0 0 Q (F0 m (pc + 3) ls rest)) : W p l e R s m args below meth c H locs 0 0 Q (F0 m pc ls (.int (y) :: .ref (B + k) :: rest)) :=
  x_put (ty := .int) CX hM (y) y (kdl hk rfl) (ly3 hk _) in_X3 tyX3 tyX3_ok nmX3 rfl 2 (by decide) hlink rfl rfl rfl rfl (show 2 < 18 by decide) (by rw [ly3 hk]; rfl) hdg kk
theorem p3_3 {y : Int32} (CX : xCX p m c cc nL s args x0 own E B 160) (hM : xS E B 160 (layX E B) s σ H locs) (hk : kd k = 3) (hlink : Cond.fieldLink own index "ThermostatColony$Room" "leak" "I" ∈ AL) (hdg : decode cc pc = .ok (.putfield index, 3)) (kk : ∀ (H1 : Heap) (locs1 : List Loc) (σ1 : xM), σ1 = xup σ k 3 y → xS E B 160 (layX E B) s σ1 H1 locs1 → W p l e R s m args below meth c H1 locs1 0 0 Q (F0 m (pc + 3) ls rest)) : W p l e R s m args below meth c H locs 0 0 Q (F0 m pc ls (.int (y) :: .ref (B + k) :: rest)) :=
  x_put (ty := .int) CX hM (y) y (kdl hk rfl) (ly3 hk _) in_X3 tyX3 tyX3_ok nmX3 rfl 3 (by decide) hlink rfl rfl rfl rfl (show 3 < 18 by decide) (by rw [ly3 hk]; rfl) hdg kk
theorem p3_4 {y : Int32} (CX : xCX p m c cc nL s args x0 own E B 160) (hM : xS E B 160 (layX E B) s σ H locs) (hk : kd k = 3) (hlink : Cond.fieldLink own index "ThermostatColony$Room" "heat" "I" ∈ AL) (hdg : decode cc pc = .ok (.putfield index, 3)) (kk : ∀ (H1 : Heap) (locs1 : List Loc) (σ1 : xM), σ1 = xup σ k 4 y → xS E B 160 (layX E B) s σ1 H1 locs1 → W p l e R s m args below meth c H1 locs1 0 0 Q (F0 m (pc + 3) ls rest)) : W p l e R s m args below meth c H locs 0 0 Q (F0 m pc ls (.int (y) :: .ref (B + k) :: rest)) :=
  x_put (ty := .int) CX hM (y) y (kdl hk rfl) (ly3 hk _) in_X3 tyX3 tyX3_ok nmX3 rfl 4 (by decide) hlink rfl rfl rfl rfl (show 4 < 18 by decide) (by rw [ly3 hk]; rfl) hdg kk
theorem p3_5 {y : Int32} (CX : xCX p m c cc nL s args x0 own E B 160) (hM : xS E B 160 (layX E B) s σ H locs) (hk : kd k = 3) (hlink : Cond.fieldLink own index "ThermostatColony$Room" "point" "I" ∈ AL) (hdg : decode cc pc = .ok (.putfield index, 3)) (kk : ∀ (H1 : Heap) (locs1 : List Loc) (σ1 : xM), σ1 = xup σ k 5 y → xS E B 160 (layX E B) s σ1 H1 locs1 → W p l e R s m args below meth c H1 locs1 0 0 Q (F0 m (pc + 3) ls rest)) : W p l e R s m args below meth c H locs 0 0 Q (F0 m pc ls (.int (y) :: .ref (B + k) :: rest)) :=
  x_put (ty := .int) CX hM (y) y (kdl hk rfl) (ly3 hk _) in_X3 tyX3 tyX3_ok nmX3 rfl 5 (by decide) hlink rfl rfl rfl rfl (show 5 < 18 by decide) (by rw [ly3 hk]; rfl) hdg kk
theorem p3_6 {y : Int32} (CX : xCX p m c cc nL s args x0 own E B 160) (hM : xS E B 160 (layX E B) s σ H locs) (hk : kd k = 3) (hlink : Cond.fieldLink own index "ThermostatColony$Room" "band" "I" ∈ AL) (hdg : decode cc pc = .ok (.putfield index, 3)) (kk : ∀ (H1 : Heap) (locs1 : List Loc) (σ1 : xM), σ1 = xup σ k 6 y → xS E B 160 (layX E B) s σ1 H1 locs1 → W p l e R s m args below meth c H1 locs1 0 0 Q (F0 m (pc + 3) ls rest)) : W p l e R s m args below meth c H locs 0 0 Q (F0 m pc ls (.int (y) :: .ref (B + k) :: rest)) :=
  x_put (ty := .int) CX hM (y) y (kdl hk rfl) (ly3 hk _) in_X3 tyX3 tyX3_ok nmX3 rfl 6 (by decide) hlink rfl rfl rfl rfl (show 6 < 18 by decide) (by rw [ly3 hk]; rfl) hdg kk
theorem p3_7 {y : Int32} (CX : xCX p m c cc nL s args x0 own E B 160) (hM : xS E B 160 (layX E B) s σ H locs) (hk : kd k = 3) (hlink : Cond.fieldLink own index "ThermostatColony$Room" "blade" "I" ∈ AL) (hdg : decode cc pc = .ok (.putfield index, 3)) (kk : ∀ (H1 : Heap) (locs1 : List Loc) (σ1 : xM), σ1 = xup σ k 7 y → xS E B 160 (layX E B) s σ1 H1 locs1 → W p l e R s m args below meth c H1 locs1 0 0 Q (F0 m (pc + 3) ls rest)) : W p l e R s m args below meth c H locs 0 0 Q (F0 m pc ls (.int (y) :: .ref (B + k) :: rest)) :=
  x_put (ty := .int) CX hM (y) y (kdl hk rfl) (ly3 hk _) in_X3 tyX3 tyX3_ok nmX3 rfl 7 (by decide) hlink rfl rfl rfl rfl (show 7 < 18 by decide) (by rw [ly3 hk]; rfl) hdg kk
theorem p3_8 {y : Int32} (CX : xCX p m c cc nL s args x0 own E B 160) (hM : xS E B 160 (layX E B) s σ H locs) (hk : kd k = 3) (hlink : Cond.fieldLink own index "ThermostatColony$Room" "closed" "Z" ∈ AL) (hdg : decode cc pc = .ok (.putfield index, 3)) (kk : ∀ (H1 : Heap) (locs1 : List Loc) (σ1 : xM), σ1 = xup σ k 8 y → xS E B 160 (layX E B) s σ1 H1 locs1 → W p l e R s m args below meth c H1 locs1 0 0 Q (F0 m (pc + 3) ls rest)) : W p l e R s m args below meth c H locs 0 0 Q (F0 m pc ls (.int (bz y) :: .ref (B + k) :: rest)) :=
  x_put (ty := .boolean) CX hM (bz y) y (kdl hk rfl) (ly3 hk _) in_X3 tyX3 tyX3_ok nmX3 rfl 8 (by decide) hlink rfl rfl (bz_nar y) (bz_fit y) (show 8 < 18 by decide) (by rw [ly3 hk]; rfl) hdg kk
theorem p3_9 {y : Int32} (CX : xCX p m c cc nL s args x0 own E B 160) (hM : xS E B 160 (layX E B) s σ H locs) (hk : kd k = 3) (hlink : Cond.fieldLink own index "ThermostatColony$Room" "welded" "Z" ∈ AL) (hdg : decode cc pc = .ok (.putfield index, 3)) (kk : ∀ (H1 : Heap) (locs1 : List Loc) (σ1 : xM), σ1 = xup σ k 9 y → xS E B 160 (layX E B) s σ1 H1 locs1 → W p l e R s m args below meth c H1 locs1 0 0 Q (F0 m (pc + 3) ls rest)) : W p l e R s m args below meth c H locs 0 0 Q (F0 m pc ls (.int (bz y) :: .ref (B + k) :: rest)) :=
  x_put (ty := .boolean) CX hM (bz y) y (kdl hk rfl) (ly3 hk _) in_X3 tyX3 tyX3_ok nmX3 rfl 9 (by decide) hlink rfl rfl (bz_nar y) (bz_fit y) (show 9 < 18 by decide) (by rw [ly3 hk]; rfl) hdg kk
theorem p3_10 {y : Int32} (CX : xCX p m c cc nL s args x0 own E B 160) (hM : xS E B 160 (layX E B) s σ H locs) (hk : kd k = 3) (hlink : Cond.fieldLink own index "ThermostatColony$Room" "tripped" "Z" ∈ AL) (hdg : decode cc pc = .ok (.putfield index, 3)) (kk : ∀ (H1 : Heap) (locs1 : List Loc) (σ1 : xM), σ1 = xup σ k 10 y → xS E B 160 (layX E B) s σ1 H1 locs1 → W p l e R s m args below meth c H1 locs1 0 0 Q (F0 m (pc + 3) ls rest)) : W p l e R s m args below meth c H locs 0 0 Q (F0 m pc ls (.int (bz y) :: .ref (B + k) :: rest)) :=
  x_put (ty := .boolean) CX hM (bz y) y (kdl hk rfl) (ly3 hk _) in_X3 tyX3 tyX3_ok nmX3 rfl 10 (by decide) hlink rfl rfl (bz_nar y) (bz_fit y) (show 10 < 18 by decide) (by rw [ly3 hk]; rfl) hdg kk
theorem p3_11 {y : Int32} (CX : xCX p m c cc nL s args x0 own E B 160) (hM : xS E B 160 (layX E B) s σ H locs) (hk : kd k = 3) (hlink : Cond.fieldLink own index "ThermostatColony$Room" "wear" "I" ∈ AL) (hdg : decode cc pc = .ok (.putfield index, 3)) (kk : ∀ (H1 : Heap) (locs1 : List Loc) (σ1 : xM), σ1 = xup σ k 11 y → xS E B 160 (layX E B) s σ1 H1 locs1 → W p l e R s m args below meth c H1 locs1 0 0 Q (F0 m (pc + 3) ls rest)) : W p l e R s m args below meth c H locs 0 0 Q (F0 m pc ls (.int (y) :: .ref (B + k) :: rest)) :=
  x_put (ty := .int) CX hM (y) y (kdl hk rfl) (ly3 hk _) in_X3 tyX3 tyX3_ok nmX3 rfl 11 (by decide) hlink rfl rfl rfl rfl (show 11 < 18 by decide) (by rw [ly3 hk]; rfl) hdg kk
theorem p3_12 {y : Int32} (CX : xCX p m c cc nL s args x0 own E B 160) (hM : xS E B 160 (layX E B) s σ H locs) (hk : kd k = 3) (hlink : Cond.fieldLink own index "ThermostatColony$Room" "attempts" "I" ∈ AL) (hdg : decode cc pc = .ok (.putfield index, 3)) (kk : ∀ (H1 : Heap) (locs1 : List Loc) (σ1 : xM), σ1 = xup σ k 12 y → xS E B 160 (layX E B) s σ1 H1 locs1 → W p l e R s m args below meth c H1 locs1 0 0 Q (F0 m (pc + 3) ls rest)) : W p l e R s m args below meth c H locs 0 0 Q (F0 m pc ls (.int (y) :: .ref (B + k) :: rest)) :=
  x_put (ty := .int) CX hM (y) y (kdl hk rfl) (ly3 hk _) in_X3 tyX3 tyX3_ok nmX3 rfl 12 (by decide) hlink rfl rfl rfl rfl (show 12 < 18 by decide) (by rw [ly3 hk]; rfl) hdg kk
theorem p3_13 {y : Int32} (CX : xCX p m c cc nL s args x0 own E B 160) (hM : xS E B 160 (layX E B) s σ H locs) (hk : kd k = 3) (hlink : Cond.fieldLink own index "ThermostatColony$Room" "closings" "I" ∈ AL) (hdg : decode cc pc = .ok (.putfield index, 3)) (kk : ∀ (H1 : Heap) (locs1 : List Loc) (σ1 : xM), σ1 = xup σ k 13 y → xS E B 160 (layX E B) s σ1 H1 locs1 → W p l e R s m args below meth c H1 locs1 0 0 Q (F0 m (pc + 3) ls rest)) : W p l e R s m args below meth c H locs 0 0 Q (F0 m pc ls (.int (y) :: .ref (B + k) :: rest)) :=
  x_put (ty := .int) CX hM (y) y (kdl hk rfl) (ly3 hk _) in_X3 tyX3 tyX3_ok nmX3 rfl 13 (by decide) hlink rfl rfl rfl rfl (show 13 < 18 by decide) (by rw [ly3 hk]; rfl) hdg kk
theorem p3_14 {y : Int32} (CX : xCX p m c cc nL s args x0 own E B 160) (hM : xS E B 160 (layX E B) s σ H locs) (hk : kd k = 3) (hlink : Cond.fieldLink own index "ThermostatColony$Room" "latestClosing" "I" ∈ AL) (hdg : decode cc pc = .ok (.putfield index, 3)) (kk : ∀ (H1 : Heap) (locs1 : List Loc) (σ1 : xM), σ1 = xup σ k 14 y → xS E B 160 (layX E B) s σ1 H1 locs1 → W p l e R s m args below meth c H1 locs1 0 0 Q (F0 m (pc + 3) ls rest)) : W p l e R s m args below meth c H locs 0 0 Q (F0 m pc ls (.int (y) :: .ref (B + k) :: rest)) :=
  x_put (ty := .int) CX hM (y) y (kdl hk rfl) (ly3 hk _) in_X3 tyX3 tyX3_ok nmX3 rfl 14 (by decide) hlink rfl rfl rfl rfl (show 14 < 18 by decide) (by rw [ly3 hk]; rfl) hdg kk
theorem p3_15 {y : Int32} (CX : xCX p m c cc nL s args x0 own E B 160) (hM : xS E B 160 (layX E B) s σ H locs) (hk : kd k = 3) (hlink : Cond.fieldLink own index "ThermostatColony$Room" "fines" "I" ∈ AL) (hdg : decode cc pc = .ok (.putfield index, 3)) (kk : ∀ (H1 : Heap) (locs1 : List Loc) (σ1 : xM), σ1 = xup σ k 15 y → xS E B 160 (layX E B) s σ1 H1 locs1 → W p l e R s m args below meth c H1 locs1 0 0 Q (F0 m (pc + 3) ls rest)) : W p l e R s m args below meth c H locs 0 0 Q (F0 m pc ls (.int (y) :: .ref (B + k) :: rest)) :=
  x_put (ty := .int) CX hM (y) y (kdl hk rfl) (ly3 hk _) in_X3 tyX3 tyX3_ok nmX3 rfl 15 (by decide) hlink rfl rfl rfl rfl (show 15 < 18 by decide) (by rw [ly3 hk]; rfl) hdg kk
theorem p3_16 {y : Int32} (CX : xCX p m c cc nL s args x0 own E B 160) (hM : xS E B 160 (layX E B) s σ H locs) (hk : kd k = 3) (hlink : Cond.fieldLink own index "ThermostatColony$Room" "suspectMinutes" "I" ∈ AL) (hdg : decode cc pc = .ok (.putfield index, 3)) (kk : ∀ (H1 : Heap) (locs1 : List Loc) (σ1 : xM), σ1 = xup σ k 16 y → xS E B 160 (layX E B) s σ1 H1 locs1 → W p l e R s m args below meth c H1 locs1 0 0 Q (F0 m (pc + 3) ls rest)) : W p l e R s m args below meth c H locs 0 0 Q (F0 m pc ls (.int (y) :: .ref (B + k) :: rest)) :=
  x_put (ty := .int) CX hM (y) y (kdl hk rfl) (ly3 hk _) in_X3 tyX3 tyX3_ok nmX3 rfl 16 (by decide) hlink rfl rfl rfl rfl (show 16 < 18 by decide) (by rw [ly3 hk]; rfl) hdg kk
theorem p3_17 {y : Int32} (CX : xCX p m c cc nL s args x0 own E B 160) (hM : xS E B 160 (layX E B) s σ H locs) (hk : kd k = 3) (hlink : Cond.fieldLink own index "ThermostatColony$Room" "minuteTemperature" "I" ∈ AL) (hdg : decode cc pc = .ok (.putfield index, 3)) (kk : ∀ (H1 : Heap) (locs1 : List Loc) (σ1 : xM), σ1 = xup σ k 17 y → xS E B 160 (layX E B) s σ1 H1 locs1 → W p l e R s m args below meth c H1 locs1 0 0 Q (F0 m (pc + 3) ls rest)) : W p l e R s m args below meth c H locs 0 0 Q (F0 m pc ls (.int (y) :: .ref (B + k) :: rest)) :=
  x_put (ty := .int) CX hM (y) y (kdl hk rfl) (ly3 hk _) in_X3 tyX3 tyX3_ok nmX3 rfl 17 (by decide) hlink rfl rfl rfl rfl (show 17 < 18 by decide) (by rw [ly3 hk]; rfl) hdg kk
theorem p4_2 {y : Int32} (CX : xCX p m c cc nL s args x0 own E B 160) (hM : xS E B 160 (layX E B) s σ H locs) (hk : kd k = 4) (hlink : Cond.fieldLink own index "ThermostatColony$Weather" "size" "I" ∈ AL) (hdg : decode cc pc = .ok (.putfield index, 3)) (kk : ∀ (H1 : Heap) (locs1 : List Loc) (σ1 : xM), σ1 = xup σ k 2 y → xS E B 160 (layX E B) s σ1 H1 locs1 → W p l e R s m args below meth c H1 locs1 0 0 Q (F0 m (pc + 3) ls rest)) : W p l e R s m args below meth c H locs 0 0 Q (F0 m pc ls (.int (y) :: .ref (B + k) :: rest)) :=
  x_put (ty := .int) CX hM (y) y (kdl hk rfl) (ly4 hk _) in_X4 tyX4 tyX4_ok nmX4 rfl 2 (by decide) hlink rfl rfl rfl rfl (show 2 < 3 by decide) (by rw [ly4 hk]; rfl) hdg kk
end WRAP
theorem lsw_out {x : Int32} {d : Int} (cs : List Int32) (ps : List (Int × Int)) (hcs : ps.map (fun q => q.1) = cs.map Int32.toInt) (h : ∀ c ∈ cs, ¬ x = c) : Op.lookupswitch.offset ps d x.toInt = d := by
  refine Op.lookupswitch.offset_none ?_
  rw [List.find?_eq_none]
  intro q hq
  have h1 : q.1 ∈ cs.map Int32.toInt := by rw [← hcs]; exact List.mem_map.mpr ⟨q, hq, rfl⟩
  obtain ⟨c, hc, e⟩ := List.mem_map.mp h1
  intro hx
  exact h c hc (Int32.toInt_inj.mp ((eq_of_beq hx).symm.trans e.symm))
