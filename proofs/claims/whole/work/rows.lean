section
-- ===== PART A: goes FIRST, ahead of the names: the tables' words, and 'selects' of the private methods out of them =====
/-- a private method of a class that the tables say can be made, by its rows of tables_1 -/
def lw_okq (q : MethodName × Nat) : Prop := (q.1.cls ≠ "java/lang/invoke/MethodHandle" ∧ q.1.cls ≠ "java/lang/invoke/VarHandle") ∧ Cond.instantiable q.1.cls q.2 ∈ tables_1 ∧ Cond.privateMethod q.1 ∈ tables_1 ∧ Cond.instanceMethod q.1 ∈ tables_1
theorem lw_p0 : lw_okq (⟨"ThermostatColony$History", "stateAt", "(I)LThermostatColony$Colony;"⟩, 3) := ⟨⟨by decide +kernel, by decide +kernel⟩, List.mem_of_getElem? (i := 179) (by decide +kernel), List.mem_of_getElem? (i := 247) (by decide +kernel), List.mem_of_getElem? (i := 248) (by decide +kernel)⟩
theorem lw_p1 : lw_okq (⟨"ThermostatColony$Colony", "putLinkAt", "(II)V"⟩, 6) := ⟨⟨by decide +kernel, by decide +kernel⟩, List.mem_of_getElem? (i := 20) (by decide +kernel), List.mem_of_getElem? (i := 327) (by decide +kernel), List.mem_of_getElem? (i := 328) (by decide +kernel)⟩
theorem lw_p2 : lw_okq (⟨"ThermostatColony$WeatherText", "skipSpaces", "()V"⟩, 3) := ⟨⟨by decide +kernel, by decide +kernel⟩, List.mem_of_getElem? (i := 199) (by decide +kernel), List.mem_of_getElem? (i := 441) (by decide +kernel), List.mem_of_getElem? (i := 442) (by decide +kernel)⟩
theorem lw_p3 : lw_okq (⟨"ThermostatColony$WeatherText", "here", "()I"⟩, 3) := ⟨⟨by decide +kernel, by decide +kernel⟩, List.mem_of_getElem? (i := 199) (by decide +kernel), List.mem_of_getElem? (i := 445) (by decide +kernel), List.mem_of_getElem? (i := 446) (by decide +kernel)⟩
theorem lw_p4 : lw_okq (⟨"ThermostatColony$WeatherText", "readPoint", "(LThermostatColony$Weather;)I"⟩, 3) := ⟨⟨by decide +kernel, by decide +kernel⟩, List.mem_of_getElem? (i := 199) (by decide +kernel), List.mem_of_getElem? (i := 449) (by decide +kernel), List.mem_of_getElem? (i := 450) (by decide +kernel)⟩
theorem lw_p5 : lw_okq (⟨"ThermostatColony$WeatherText", "isDigitHere", "()Z"⟩, 3) := ⟨⟨by decide +kernel, by decide +kernel⟩, List.mem_of_getElem? (i := 199) (by decide +kernel), List.mem_of_getElem? (i := 453) (by decide +kernel), List.mem_of_getElem? (i := 454) (by decide +kernel)⟩
theorem lw_p6 : lw_okq (⟨"ThermostatColony$WeatherText", "readNumber", "()I"⟩, 3) := ⟨⟨by decide +kernel, by decide +kernel⟩, List.mem_of_getElem? (i := 199) (by decide +kernel), List.mem_of_getElem? (i := 458) (by decide +kernel), List.mem_of_getElem? (i := 459) (by decide +kernel)⟩
theorem lw_p7 : lw_okq (⟨"ThermostatColony$WeatherText", "readTemperature", "(LThermostatColony$Weather;I)I"⟩, 3) := ⟨⟨by decide +kernel, by decide +kernel⟩, List.mem_of_getElem? (i := 199) (by decide +kernel), List.mem_of_getElem? (i := 468) (by decide +kernel), List.mem_of_getElem? (i := 469) (by decide +kernel)⟩
theorem lw_p8 : lw_okq (⟨"ThermostatColony$Weather", "temperatureBefore", "(II)I"⟩, 3) := ⟨⟨by decide +kernel, by decide +kernel⟩, List.mem_of_getElem? (i := 28) (by decide +kernel), List.mem_of_getElem? (i := 485) (by decide +kernel), List.mem_of_getElem? (i := 486) (by decide +kernel)⟩
theorem lw_p9 : lw_okq (⟨"ThermostatColony$Colony", "heatRooms", "()V"⟩, 6) := ⟨⟨by decide +kernel, by decide +kernel⟩, List.mem_of_getElem? (i := 20) (by decide +kernel), List.mem_of_getElem? (i := 501) (by decide +kernel), List.mem_of_getElem? (i := 502) (by decide +kernel)⟩
theorem lw_p10 : lw_okq (⟨"ThermostatColony$Colony", "exchangeHeat", "()V"⟩, 6) := ⟨⟨by decide +kernel, by decide +kernel⟩, List.mem_of_getElem? (i := 20) (by decide +kernel), List.mem_of_getElem? (i := 510) (by decide +kernel), List.mem_of_getElem? (i := 511) (by decide +kernel)⟩
theorem lw_p11 : lw_okq (⟨"ThermostatColony$Colony", "settle", "(LThermostatColony$Room;)Z"⟩, 6) := ⟨⟨by decide +kernel, by decide +kernel⟩, List.mem_of_getElem? (i := 20) (by decide +kernel), List.mem_of_getElem? (i := 518) (by decide +kernel), List.mem_of_getElem? (i := 519) (by decide +kernel)⟩
theorem lw_p12 : lw_okq (⟨"ThermostatColony$Colony", "close", "(LThermostatColony$Room;)V"⟩, 6) := ⟨⟨by decide +kernel, by decide +kernel⟩, List.mem_of_getElem? (i := 20) (by decide +kernel), List.mem_of_getElem? (i := 527) (by decide +kernel), List.mem_of_getElem? (i := 528) (by decide +kernel)⟩
theorem lw_p13 : lw_okq (⟨"ThermostatColony", "forecastWithBand", "(II)LThermostatColony$Room;"⟩, 5) := ⟨⟨by decide +kernel, by decide +kernel⟩, List.mem_of_getElem? (i := 12) (by decide +kernel), List.mem_of_getElem? (i := 559) (by decide +kernel), List.mem_of_getElem? (i := 560) (by decide +kernel)⟩
theorem lw_p14 : lw_okq (⟨"ThermostatColony", "isQuiet", "(LThermostatColony$Room;I)Z"⟩, 5) := ⟨⟨by decide +kernel, by decide +kernel⟩, List.mem_of_getElem? (i := 12) (by decide +kernel), List.mem_of_getElem? (i := 567) (by decide +kernel), List.mem_of_getElem? (i := 568) (by decide +kernel)⟩
theorem lw_p15 : lw_okq (⟨"ThermostatColonyModel", "notes", "()V"⟩, 11) := ⟨⟨by decide +kernel, by decide +kernel⟩, List.mem_of_getElem? (i := 579) (by decide +kernel), List.mem_of_getElem? (i := 635) (by decide +kernel), List.mem_of_getElem? (i := 636) (by decide +kernel)⟩
def lw_privs_1 : List (MethodName × Nat) := [(⟨"ThermostatColony$History", "stateAt", "(I)LThermostatColony$Colony;"⟩, 3), (⟨"ThermostatColony$Colony", "putLinkAt", "(II)V"⟩, 6), (⟨"ThermostatColony$WeatherText", "skipSpaces", "()V"⟩, 3), (⟨"ThermostatColony$WeatherText", "here", "()I"⟩, 3), (⟨"ThermostatColony$WeatherText", "readPoint", "(LThermostatColony$Weather;)I"⟩, 3), (⟨"ThermostatColony$WeatherText", "isDigitHere", "()Z"⟩, 3), (⟨"ThermostatColony$WeatherText", "readNumber", "()I"⟩, 3), (⟨"ThermostatColony$WeatherText", "readTemperature", "(LThermostatColony$Weather;I)I"⟩, 3), (⟨"ThermostatColony$Weather", "temperatureBefore", "(II)I"⟩, 3), (⟨"ThermostatColony$Colony", "heatRooms", "()V"⟩, 6), (⟨"ThermostatColony$Colony", "exchangeHeat", "()V"⟩, 6), (⟨"ThermostatColony$Colony", "settle", "(LThermostatColony$Room;)Z"⟩, 6), (⟨"ThermostatColony$Colony", "close", "(LThermostatColony$Room;)V"⟩, 6), (⟨"ThermostatColony", "forecastWithBand", "(II)LThermostatColony$Room;"⟩, 5), (⟨"ThermostatColony", "isQuiet", "(LThermostatColony$Room;I)Z"⟩, 5), (⟨"ThermostatColonyModel", "notes", "()V"⟩, 11)]
theorem lw_r1 : ∀ q ∈ lw_privs_1, lw_okq q := List.forall_mem_cons.mpr ⟨lw_p0, List.forall_mem_cons.mpr ⟨lw_p1, List.forall_mem_cons.mpr ⟨lw_p2, List.forall_mem_cons.mpr ⟨lw_p3, List.forall_mem_cons.mpr ⟨lw_p4, List.forall_mem_cons.mpr ⟨lw_p5, List.forall_mem_cons.mpr ⟨lw_p6, List.forall_mem_cons.mpr ⟨lw_p7, List.forall_mem_cons.mpr ⟨lw_p8, List.forall_mem_cons.mpr ⟨lw_p9, List.forall_mem_cons.mpr ⟨lw_p10, List.forall_mem_cons.mpr ⟨lw_p11, List.forall_mem_cons.mpr ⟨lw_p12, List.forall_mem_cons.mpr ⟨lw_p13, List.forall_mem_cons.mpr ⟨lw_p14, List.forall_mem_cons.mpr ⟨lw_p15, fun _ h => absurd h List.not_mem_nil⟩⟩⟩⟩⟩⟩⟩⟩⟩⟩⟩⟩⟩⟩⟩⟩
theorem lw_p16 : lw_okq (⟨"ThermostatColonyModel", "puts", "(III)V"⟩, 11) := ⟨⟨by decide +kernel, by decide +kernel⟩, List.mem_of_getElem? (i := 579) (by decide +kernel), List.mem_of_getElem? (i := 639) (by decide +kernel), List.mem_of_getElem? (i := 640) (by decide +kernel)⟩
theorem lw_p17 : lw_okq (⟨"ThermostatColonyModel", "areRooms", "(II)Z"⟩, 11) := ⟨⟨by decide +kernel, by decide +kernel⟩, List.mem_of_getElem? (i := 579) (by decide +kernel), List.mem_of_getElem? (i := 648) (by decide +kernel), List.mem_of_getElem? (i := 649) (by decide +kernel)⟩
theorem lw_p18 : lw_okq (⟨"ThermostatColonyModel", "isRoom", "(I)Z"⟩, 11) := ⟨⟨by decide +kernel, by decide +kernel⟩, List.mem_of_getElem? (i := 579) (by decide +kernel), List.mem_of_getElem? (i := 652) (by decide +kernel), List.mem_of_getElem? (i := 653) (by decide +kernel)⟩
theorem lw_p19 : lw_okq (⟨"ThermostatColonyModel", "isTooMuch", "(II)Z"⟩, 11) := ⟨⟨by decide +kernel, by decide +kernel⟩, List.mem_of_getElem? (i := 579) (by decide +kernel), List.mem_of_getElem? (i := 656) (by decide +kernel), List.mem_of_getElem? (i := 657) (by decide +kernel)⟩
theorem lw_p20 : lw_okq (⟨"ThermostatColonyModel", "drain", "(I)I"⟩, 11) := ⟨⟨by decide +kernel, by decide +kernel⟩, List.mem_of_getElem? (i := 579) (by decide +kernel), List.mem_of_getElem? (i := 660) (by decide +kernel), List.mem_of_getElem? (i := 661) (by decide +kernel)⟩
theorem lw_p21 : lw_okq (⟨"ThermostatColonyModel", "of", "(II)I"⟩, 11) := ⟨⟨by decide +kernel, by decide +kernel⟩, List.mem_of_getElem? (i := 579) (by decide +kernel), List.mem_of_getElem? (i := 664) (by decide +kernel), List.mem_of_getElem? (i := 665) (by decide +kernel)⟩
theorem lw_p22 : lw_okq (⟨"ThermostatColonyModel", "grows", "(III)V"⟩, 11) := ⟨⟨by decide +kernel, by decide +kernel⟩, List.mem_of_getElem? (i := 579) (by decide +kernel), List.mem_of_getElem? (i := 696) (by decide +kernel), List.mem_of_getElem? (i := 697) (by decide +kernel)⟩
theorem lw_p23 : lw_okq (⟨"ThermostatColonyModel", "temperature", "(I)I"⟩, 11) := ⟨⟨by decide +kernel, by decide +kernel⟩, List.mem_of_getElem? (i := 579) (by decide +kernel), List.mem_of_getElem? (i := 700) (by decide +kernel), List.mem_of_getElem? (i := 701) (by decide +kernel)⟩
theorem lw_p24 : lw_okq (⟨"ThermostatColonyModel", "isSuspect", "(I)Z"⟩, 11) := ⟨⟨by decide +kernel, by decide +kernel⟩, List.mem_of_getElem? (i := 579) (by decide +kernel), List.mem_of_getElem? (i := 724) (by decide +kernel), List.mem_of_getElem? (i := 725) (by decide +kernel)⟩
theorem lw_p25 : lw_okq (⟨"ThermostatColonyModel", "readsAll", "()Z"⟩, 11) := ⟨⟨by decide +kernel, by decide +kernel⟩, List.mem_of_getElem? (i := 579) (by decide +kernel), List.mem_of_getElem? (i := 740) (by decide +kernel), List.mem_of_getElem? (i := 741) (by decide +kernel)⟩
theorem lw_p26 : lw_okq (⟨"ThermostatColonyModel", "here", "()I"⟩, 11) := ⟨⟨by decide +kernel, by decide +kernel⟩, List.mem_of_getElem? (i := 579) (by decide +kernel), List.mem_of_getElem? (i := 744) (by decide +kernel), List.mem_of_getElem? (i := 745) (by decide +kernel)⟩
theorem lw_p27 : lw_okq (⟨"ThermostatColonyModel", "reads", "(IIZ)Z"⟩, 11) := ⟨⟨by decide +kernel, by decide +kernel⟩, List.mem_of_getElem? (i := 579) (by decide +kernel), List.mem_of_getElem? (i := 749) (by decide +kernel), List.mem_of_getElem? (i := 750) (by decide +kernel)⟩
theorem lw_p28 : lw_okq (⟨"ThermostatColonyModel", "air", "(I)I"⟩, 11) := ⟨⟨by decide +kernel, by decide +kernel⟩, List.mem_of_getElem? (i := 579) (by decide +kernel), List.mem_of_getElem? (i := 757) (by decide +kernel), List.mem_of_getElem? (i := 758) (by decide +kernel)⟩
theorem lw_p29 : lw_okq (⟨"ThermostatColonyModel", "minutes", "(I)I"⟩, 11) := ⟨⟨by decide +kernel, by decide +kernel⟩, List.mem_of_getElem? (i := 579) (by decide +kernel), List.mem_of_getElem? (i := 765) (by decide +kernel), List.mem_of_getElem? (i := 766) (by decide +kernel)⟩
theorem lw_p30 : lw_okq (⟨"ThermostatColonyModel", "minute", "()I"⟩, 11) := ⟨⟨by decide +kernel, by decide +kernel⟩, List.mem_of_getElem? (i := 579) (by decide +kernel), List.mem_of_getElem? (i := 769) (by decide +kernel), List.mem_of_getElem? (i := 770) (by decide +kernel)⟩
theorem lw_p31 : lw_okq (⟨"ThermostatColonyModel", "flows", "(II)V"⟩, 11) := ⟨⟨by decide +kernel, by decide +kernel⟩, List.mem_of_getElem? (i := 579) (by decide +kernel), List.mem_of_getElem? (i := 773) (by decide +kernel), List.mem_of_getElem? (i := 774) (by decide +kernel)⟩
def lw_privs_2 : List (MethodName × Nat) := [(⟨"ThermostatColonyModel", "puts", "(III)V"⟩, 11), (⟨"ThermostatColonyModel", "areRooms", "(II)Z"⟩, 11), (⟨"ThermostatColonyModel", "isRoom", "(I)Z"⟩, 11), (⟨"ThermostatColonyModel", "isTooMuch", "(II)Z"⟩, 11), (⟨"ThermostatColonyModel", "drain", "(I)I"⟩, 11), (⟨"ThermostatColonyModel", "of", "(II)I"⟩, 11), (⟨"ThermostatColonyModel", "grows", "(III)V"⟩, 11), (⟨"ThermostatColonyModel", "temperature", "(I)I"⟩, 11), (⟨"ThermostatColonyModel", "isSuspect", "(I)Z"⟩, 11), (⟨"ThermostatColonyModel", "readsAll", "()Z"⟩, 11), (⟨"ThermostatColonyModel", "here", "()I"⟩, 11), (⟨"ThermostatColonyModel", "reads", "(IIZ)Z"⟩, 11), (⟨"ThermostatColonyModel", "air", "(I)I"⟩, 11), (⟨"ThermostatColonyModel", "minutes", "(I)I"⟩, 11), (⟨"ThermostatColonyModel", "minute", "()I"⟩, 11), (⟨"ThermostatColonyModel", "flows", "(II)V"⟩, 11)]
theorem lw_r2 : ∀ q ∈ lw_privs_2, lw_okq q := List.forall_mem_cons.mpr ⟨lw_p16, List.forall_mem_cons.mpr ⟨lw_p17, List.forall_mem_cons.mpr ⟨lw_p18, List.forall_mem_cons.mpr ⟨lw_p19, List.forall_mem_cons.mpr ⟨lw_p20, List.forall_mem_cons.mpr ⟨lw_p21, List.forall_mem_cons.mpr ⟨lw_p22, List.forall_mem_cons.mpr ⟨lw_p23, List.forall_mem_cons.mpr ⟨lw_p24, List.forall_mem_cons.mpr ⟨lw_p25, List.forall_mem_cons.mpr ⟨lw_p26, List.forall_mem_cons.mpr ⟨lw_p27, List.forall_mem_cons.mpr ⟨lw_p28, List.forall_mem_cons.mpr ⟨lw_p29, List.forall_mem_cons.mpr ⟨lw_p30, List.forall_mem_cons.mpr ⟨lw_p31, fun _ h => absurd h List.not_mem_nil⟩⟩⟩⟩⟩⟩⟩⟩⟩⟩⟩⟩⟩⟩⟩⟩
theorem lw_p32 : lw_okq (⟨"ThermostatColonyModel", "turns", "(I)I"⟩, 11) := ⟨⟨by decide +kernel, by decide +kernel⟩, List.mem_of_getElem? (i := 579) (by decide +kernel), List.mem_of_getElem? (i := 777) (by decide +kernel), List.mem_of_getElem? (i := 778) (by decide +kernel)⟩
theorem lw_p33 : lw_okq (⟨"ThermostatColonyModel", "closes", "(I)V"⟩, 11) := ⟨⟨by decide +kernel, by decide +kernel⟩, List.mem_of_getElem? (i := 579) (by decide +kernel), List.mem_of_getElem? (i := 781) (by decide +kernel), List.mem_of_getElem? (i := 782) (by decide +kernel)⟩
theorem lw_p34 : lw_okq (⟨"ThermostatColonyModel", "opens", "(I)I"⟩, 11) := ⟨⟨by decide +kernel, by decide +kernel⟩, List.mem_of_getElem? (i := 579) (by decide +kernel), List.mem_of_getElem? (i := 785) (by decide +kernel), List.mem_of_getElem? (i := 786) (by decide +kernel)⟩
theorem lw_p35 : lw_okq (⟨"ThermostatColonyModel", "keeps", "()V"⟩, 11) := ⟨⟨by decide +kernel, by decide +kernel⟩, List.mem_of_getElem? (i := 579) (by decide +kernel), List.mem_of_getElem? (i := 793) (by decide +kernel), List.mem_of_getElem? (i := 794) (by decide +kernel)⟩
theorem lw_p36 : lw_okq (⟨"ThermostatColonyModel", "restores", "()V"⟩, 11) := ⟨⟨by decide +kernel, by decide +kernel⟩, List.mem_of_getElem? (i := 579) (by decide +kernel), List.mem_of_getElem? (i := 797) (by decide +kernel), List.mem_of_getElem? (i := 798) (by decide +kernel)⟩
theorem lw_p37 : lw_okq (⟨"ThermostatColonyModel", "heated", "()I"⟩, 11) := ⟨⟨by decide +kernel, by decide +kernel⟩, List.mem_of_getElem? (i := 579) (by decide +kernel), List.mem_of_getElem? (i := 805) (by decide +kernel), List.mem_of_getElem? (i := 806) (by decide +kernel)⟩
theorem lw_p38 : lw_okq (⟨"ThermostatColonyModel", "fined", "(III)I"⟩, 11) := ⟨⟨by decide +kernel, by decide +kernel⟩, List.mem_of_getElem? (i := 579) (by decide +kernel), List.mem_of_getElem? (i := 813) (by decide +kernel), List.mem_of_getElem? (i := 814) (by decide +kernel)⟩
def lw_privs_3 : List (MethodName × Nat) := [(⟨"ThermostatColonyModel", "turns", "(I)I"⟩, 11), (⟨"ThermostatColonyModel", "closes", "(I)V"⟩, 11), (⟨"ThermostatColonyModel", "opens", "(I)I"⟩, 11), (⟨"ThermostatColonyModel", "keeps", "()V"⟩, 11), (⟨"ThermostatColonyModel", "restores", "()V"⟩, 11), (⟨"ThermostatColonyModel", "heated", "()I"⟩, 11), (⟨"ThermostatColonyModel", "fined", "(III)I"⟩, 11)]
theorem lw_r3 : ∀ q ∈ lw_privs_3, lw_okq q := List.forall_mem_cons.mpr ⟨lw_p32, List.forall_mem_cons.mpr ⟨lw_p33, List.forall_mem_cons.mpr ⟨lw_p34, List.forall_mem_cons.mpr ⟨lw_p35, List.forall_mem_cons.mpr ⟨lw_p36, List.forall_mem_cons.mpr ⟨lw_p37, List.forall_mem_cons.mpr ⟨lw_p38, fun _ h => absurd h List.not_mem_nil⟩⟩⟩⟩⟩⟩⟩
def lw_privs : List (MethodName × Nat) := lw_privs_1 ++ (lw_privs_2 ++ (lw_privs_3))
def lw_tbl : List Cond := k2_sels lw_privs ++ tables_1
theorem lw_privs_ok : ∀ q ∈ lw_privs, lw_okq q := by
  show ∀ q ∈ lw_privs_1 ++ (lw_privs_2 ++ (lw_privs_3)), lw_okq q
  exact List.forall_mem_append.mpr ⟨lw_r1, List.forall_mem_append.mpr ⟨lw_r2, lw_r3⟩⟩
-- ===== end of PART A; then your names; then what follows =====
end
section
/-! ===== BEGIN words of one list among another's, by their places ===== -/
theorem goodIn_r {big : List Cond} (ws : List Cond) (ps : List Nat) (hp : ws = ps.filterMap (fun i => big[i]?)) (h : ws.all goodWord = true) : GoodIn big ws := by
  intro w hw
  have h1 := List.all_eq_true.mp h w hw
  rw [hp] at hw
  obtain ⟨i, -, hi⟩ := List.mem_filterMap.mp hw
  have hm : w ∈ big := by first | exact List.mem_of_getElem? hi | exact List.getElem?_mem hi
  exact ⟨hm, good_of_word h1⟩
theorem goodIn_app {big a b : List Cond} (ha : GoodIn big a) (hb : GoodIn big b) : GoodIn big (a ++ b) := fun w h => (List.mem_append.mp h).elim (ha w) (hb w)
theorem goodIn_ca {big a b : List Cond} {c : Cond} (ha : GoodIn big (c :: a)) (hb : GoodIn big b) : GoodIn big (c :: (a ++ b)) := fun w h => (List.mem_cons.mp h).elim (fun e => ha w (List.mem_cons.mpr (Or.inl e))) (fun h => (List.mem_append.mp h).elim (fun h => ha w (List.mem_cons.mpr (Or.inr h))) (hb w))
theorem goodIn_sub {big ws : List Cond} (hm : ∀ w ∈ ws, w ∈ big) (h : ws.all goodWord = true) : GoodIn big ws := fun w hw => ⟨hm w hw, good_of_word (List.all_eq_true.mp h w hw)⟩
/-! ===== END ===== -/

/-! ===== BEGIN printed: names, fields, word lists, decode rows ===== -/
def RX0 : String := "ThermostatColony$Books"
def TX0 : u_T := fun k => match k with
  | 0 => ("ThermostatColony$Books", "firstHeat", "I", false)
  | 1 => ("ThermostatColony$Books", "fromHeater", "I", false)
  | 2 => ("ThermostatColony$Books", "toOutside", "I", false)
  | 3 => ("ThermostatColony$Books", "toOthers", "I", false)
  | _ => ("ThermostatColony$Books", "byWarm", "I", false)
def tyX0 : Nat → FieldType := fun k => match k with
  | 0 => .int
  | 1 => .int
  | 2 => .int
  | 3 => .int
  | _ => .int
abbrev wsX00 : List Cond := u_ws RX0 TX0 5
theorem nmX0 : ∀ a, a < 5 → ∀ b, b < 5 → a ≠ b → (TX0 a).2.1 ≠ (TX0 b).2.1 := by decide +kernel
theorem tyX0_ok : ∀ k, k < 5 → parseFieldDescriptor (TX0 k).2.2.1 = some (tyX0 k) := by decide +kernel
abbrev cX0_init : ByteArray := prog_2_method_1_code
def yX0_init : MethodName := ⟨RX0, "<init>", "()V"⟩
abbrev cX0_begin : ByteArray := prog_2_method_2_code
def yX0_begin : MethodName := ⟨RX0, "begin", "(I)V"⟩
abbrev cX0_copyFrom : ByteArray := prog_2_method_3_code
def yX0_copyFrom : MethodName := ⟨RX0, "copyFrom", "(LThermostatColony$Books;)V"⟩
abbrev cX0_sum : ByteArray := prog_2_method_4_code
def yX0_sum : MethodName := ⟨RX0, "sum", "(I)I"⟩
def RX1 : String := "ThermostatColony$Colony"
def TX1 : u_T := fun k => match k with
  | 0 => ("ThermostatColony$Colony", "numbers", "[I", true)
  | 1 => ("ThermostatColony$Colony", "rooms", "[LThermostatColony$Room;", true)
  | 2 => ("ThermostatColony$Colony", "links", "[I", true)
  | 3 => ("ThermostatColony$Colony", "weather", "LThermostatColony$Weather;", true)
  | 4 => ("ThermostatColony$Colony", "roomCount", "I", false)
  | _ => ("ThermostatColony$Colony", "time", "I", false)
def tyX1 : Nat → FieldType := fun k => match k with
  | 0 => .array .int
  | 1 => .array (.object "ThermostatColony$Room")
  | 2 => .array .int
  | 3 => .object "ThermostatColony$Weather"
  | 4 => .int
  | _ => .int
abbrev wsX10 : List Cond := u_ws RX1 TX1 6
theorem nmX1 : ∀ a, a < 6 → ∀ b, b < 6 → a ≠ b → (TX1 a).2.1 ≠ (TX1 b).2.1 := by decide +kernel
theorem tyX1_ok : ∀ k, k < 6 → parseFieldDescriptor (TX1 k).2.2.1 = some (tyX1 k) := by decide +kernel
abbrev cX1_init : ByteArray := prog_3_method_1_code
def yX1_init : MethodName := ⟨RX1, "<init>", "()V"⟩
abbrev cX1_copyFrom : ByteArray := prog_3_method_2_code
def yX1_copyFrom : MethodName := ⟨RX1, "copyFrom", "(LThermostatColony$Colony;)V"⟩
abbrev cX1_number : ByteArray := prog_3_method_3_code
def yX1_number : MethodName := ⟨RX1, "number", "(I)I"⟩
abbrev cX1_putNumber : ByteArray := prog_3_method_4_code
def yX1_putNumber : MethodName := ⟨RX1, "putNumber", "(II)V"⟩
abbrev cX1_roomAt : ByteArray := prog_3_method_5_code
def yX1_roomAt : MethodName := ⟨RX1, "roomAt", "(I)LThermostatColony$Room;"⟩
abbrev cX1_beginRoom : ByteArray := prog_3_method_6_code
def yX1_beginRoom : MethodName := ⟨RX1, "beginRoom", "(IIII)I"⟩
abbrev cX1_hasPair : ByteArray := prog_3_method_7_code
def yX1_hasPair : MethodName := ⟨RX1, "hasPair", "(II)Z"⟩
abbrev cX1_linkOf : ByteArray := prog_3_method_8_code
def yX1_linkOf : MethodName := ⟨RX1, "linkOf", "(II)I"⟩
abbrev cX1_putLink : ByteArray := prog_3_method_9_code
def yX1_putLink : MethodName := ⟨RX1, "putLink", "(III)V"⟩
abbrev cX1_putLinkAt : ByteArray := prog_3_method_10_code
def yX1_putLinkAt : MethodName := ⟨RX1, "putLinkAt", "(II)V"⟩
abbrev cX1_linkPlace : ByteArray := prog_3_method_11_code
def yX1_linkPlace : MethodName := ⟨RX1, "linkPlace", "(II)I"⟩
abbrev cX1_canCarry : ByteArray := prog_3_method_12_code
def yX1_canCarry : MethodName := ⟨RX1, "canCarry", "(II)Z"⟩
abbrev cX1_isSuspect : ByteArray := prog_3_method_13_code
def yX1_isSuspect : MethodName := ⟨RX1, "isSuspect", "(LThermostatColony$Room;)Z"⟩
abbrev cX1_suspectRooms : ByteArray := prog_3_method_14_code
def yX1_suspectRooms : MethodName := ⟨RX1, "suspectRooms", "()I"⟩
abbrev cX1_allFines : ByteArray := prog_3_method_15_code
def yX1_allFines : MethodName := ⟨RX1, "allFines", "()I"⟩
abbrev cX1_heatFromHeaters : ByteArray := prog_3_method_16_code
def yX1_heatFromHeaters : MethodName := ⟨RX1, "heatFromHeaters", "()I"⟩
abbrev cX1_passMinutes : ByteArray := prog_3_method_17_code
def yX1_passMinutes : MethodName := ⟨RX1, "passMinutes", "(I)I"⟩
abbrev cX1_passMinute : ByteArray := prog_3_method_18_code
def yX1_passMinute : MethodName := ⟨RX1, "passMinute", "()I"⟩
abbrev cX1_heatRooms : ByteArray := prog_3_method_19_code
def yX1_heatRooms : MethodName := ⟨RX1, "heatRooms", "()V"⟩
abbrev cX1_exchangeHeat : ByteArray := prog_3_method_20_code
def yX1_exchangeHeat : MethodName := ⟨RX1, "exchangeHeat", "()V"⟩
abbrev cX1_settle : ByteArray := prog_3_method_21_code
def yX1_settle : MethodName := ⟨RX1, "settle", "(LThermostatColony$Room;)Z"⟩
abbrev cX1_close : ByteArray := prog_3_method_22_code
def yX1_close : MethodName := ⟨RX1, "close", "(LThermostatColony$Room;)V"⟩
def RX2 : String := "ThermostatColony$History"
def TX2 : u_T := fun k => match k with
  | 0 => ("ThermostatColony$History", "states", "[LThermostatColony$Colony;", true)
  | 1 => ("ThermostatColony$History", "next", "I", false)
  | _ => ("ThermostatColony$History", "size", "I", false)
def tyX2 : Nat → FieldType := fun k => match k with
  | 0 => .array (.object "ThermostatColony$Colony")
  | 1 => .int
  | _ => .int
abbrev wsX20 : List Cond := u_ws RX2 TX2 3
theorem nmX2 : ∀ a, a < 3 → ∀ b, b < 3 → a ≠ b → (TX2 a).2.1 ≠ (TX2 b).2.1 := by decide +kernel
theorem tyX2_ok : ∀ k, k < 3 → parseFieldDescriptor (TX2 k).2.2.1 = some (tyX2 k) := by decide +kernel
abbrev cX2_init : ByteArray := prog_4_method_1_code
def yX2_init : MethodName := ⟨RX2, "<init>", "()V"⟩
abbrev cX2_save : ByteArray := prog_4_method_2_code
def yX2_save : MethodName := ⟨RX2, "save", "(LThermostatColony$Colony;)V"⟩
abbrev cX2_restore : ByteArray := prog_4_method_3_code
def yX2_restore : MethodName := ⟨RX2, "restore", "(LThermostatColony$Colony;)V"⟩
abbrev cX2_stateAt : ByteArray := prog_4_method_4_code
def yX2_stateAt : MethodName := ⟨RX2, "stateAt", "(I)LThermostatColony$Colony;"⟩
def RX3 : String := "ThermostatColony$Room"
def TX3 : u_T := fun k => match k with
  | 0 => ("ThermostatColony$Room", "books", "LThermostatColony$Books;", true)
  | 1 => ("ThermostatColony$Room", "capacity", "I", false)
  | 2 => ("ThermostatColony$Room", "power", "I", false)
  | 3 => ("ThermostatColony$Room", "leak", "I", false)
  | 4 => ("ThermostatColony$Room", "heat", "I", false)
  | 5 => ("ThermostatColony$Room", "point", "I", false)
  | 6 => ("ThermostatColony$Room", "band", "I", false)
  | 7 => ("ThermostatColony$Room", "blade", "I", false)
  | 8 => ("ThermostatColony$Room", "closed", "Z", false)
  | 9 => ("ThermostatColony$Room", "welded", "Z", false)
  | 10 => ("ThermostatColony$Room", "tripped", "Z", false)
  | 11 => ("ThermostatColony$Room", "wear", "I", false)
  | 12 => ("ThermostatColony$Room", "attempts", "I", false)
  | 13 => ("ThermostatColony$Room", "closings", "I", false)
  | 14 => ("ThermostatColony$Room", "latestClosing", "I", false)
  | 15 => ("ThermostatColony$Room", "fines", "I", false)
  | 16 => ("ThermostatColony$Room", "suspectMinutes", "I", false)
  | _ => ("ThermostatColony$Room", "minuteTemperature", "I", false)
def tyX3 : Nat → FieldType := fun k => match k with
  | 0 => .object "ThermostatColony$Books"
  | 1 => .int
  | 2 => .int
  | 3 => .int
  | 4 => .int
  | 5 => .int
  | 6 => .int
  | 7 => .int
  | 8 => .boolean
  | 9 => .boolean
  | 10 => .boolean
  | 11 => .int
  | 12 => .int
  | 13 => .int
  | 14 => .int
  | 15 => .int
  | 16 => .int
  | _ => .int
abbrev wsX30 : List Cond := u_ws RX3 TX3 18
theorem nmX3 : ∀ a, a < 18 → ∀ b, b < 18 → a ≠ b → (TX3 a).2.1 ≠ (TX3 b).2.1 := by decide +kernel
theorem tyX3_ok : ∀ k, k < 18 → parseFieldDescriptor (TX3 k).2.2.1 = some (tyX3 k) := by decide +kernel
abbrev cX3_init : ByteArray := prog_5_method_1_code
def yX3_init : MethodName := ⟨RX3, "<init>", "()V"⟩
abbrev cX3_begin : ByteArray := prog_5_method_2_code
def yX3_begin : MethodName := ⟨RX3, "begin", "(IIII)V"⟩
abbrev cX3_copyFrom : ByteArray := prog_5_method_3_code
def yX3_copyFrom : MethodName := ⟨RX3, "copyFrom", "(LThermostatColony$Room;)V"⟩
abbrev cX3_temperature : ByteArray := prog_5_method_4_code
def yX3_temperature : MethodName := ⟨RX3, "temperature", "()I"⟩
abbrev cX3_temperatureWith : ByteArray := prog_5_method_5_code
def yX3_temperatureWith : MethodName := ⟨RX3, "temperatureWith", "(I)I"⟩
abbrev cX3_isBladeCold : ByteArray := prog_5_method_6_code
def yX3_isBladeCold : MethodName := ⟨RX3, "isBladeCold", "()Z"⟩
abbrev cX3_isBladeHot : ByteArray := prog_5_method_7_code
def yX3_isBladeHot : MethodName := ⟨RX3, "isBladeHot", "()Z"⟩
abbrev cX3_bringIn : ByteArray := prog_5_method_8_code
def yX3_bringIn : MethodName := ⟨RX3, "bringIn", "(I)V"⟩
abbrev cX3_beginMinute : ByteArray := prog_5_method_9_code
def yX3_beginMinute : MethodName := ⟨RX3, "beginMinute", "(I)V"⟩
abbrev cX3_giveToOthers : ByteArray := prog_5_method_10_code
def yX3_giveToOthers : MethodName := ⟨RX3, "giveToOthers", "(I)V"⟩
abbrev cX3_tryToOpen : ByteArray := prog_5_method_11_code
def yX3_tryToOpen : MethodName := ⟨RX3, "tryToOpen", "(I)V"⟩
abbrev cX3_renewContact : ByteArray := prog_5_method_12_code
def yX3_renewContact : MethodName := ⟨RX3, "renewContact", "()V"⟩
abbrev cX3_property : ByteArray := prog_5_method_13_code
def yX3_property : MethodName := ⟨RX3, "property", "(I)I"⟩
def RX4 : String := "ThermostatColony$Weather"
def TX4 : u_T := fun k => match k with
  | 0 => ("ThermostatColony$Weather", "minutes", "[I", true)
  | 1 => ("ThermostatColony$Weather", "degrees", "[I", true)
  | _ => ("ThermostatColony$Weather", "size", "I", false)
def tyX4 : Nat → FieldType := fun k => match k with
  | 0 => .array .int
  | 1 => .array .int
  | _ => .int
abbrev wsX40 : List Cond := u_ws RX4 TX4 3
theorem nmX4 : ∀ a, a < 3 → ∀ b, b < 3 → a ≠ b → (TX4 a).2.1 ≠ (TX4 b).2.1 := by decide +kernel
theorem tyX4_ok : ∀ k, k < 3 → parseFieldDescriptor (TX4 k).2.2.1 = some (tyX4 k) := by decide +kernel
abbrev cX4_init : ByteArray := prog_6_method_1_code
def yX4_init : MethodName := ⟨RX4, "<init>", "()V"⟩
abbrev cX4_copyFrom : ByteArray := prog_6_method_2_code
def yX4_copyFrom : MethodName := ⟨RX4, "copyFrom", "(LThermostatColony$Weather;)V"⟩
abbrev cX4_canTake : ByteArray := prog_6_method_3_code
def yX4_canTake : MethodName := ⟨RX4, "canTake", "(I)Z"⟩
abbrev cX4_add : ByteArray := prog_6_method_4_code
def yX4_add : MethodName := ⟨RX4, "add", "(II)V"⟩
abbrev cX4_temperatureAt : ByteArray := prog_6_method_5_code
def yX4_temperatureAt : MethodName := ⟨RX4, "temperatureAt", "(I)I"⟩
abbrev cX4_temperatureBefore : ByteArray := prog_6_method_6_code
def yX4_temperatureBefore : MethodName := ⟨RX4, "temperatureBefore", "(II)I"⟩
def RX5 : String := "ThermostatColony$WeatherText"
def TX5 : u_T := fun k => match k with
  | 0 => ("ThermostatColony$WeatherText", "characters", "[I", true)
  | 1 => ("ThermostatColony$WeatherText", "length", "I", false)
  | _ => ("ThermostatColony$WeatherText", "position", "I", false)
def tyX5 : Nat → FieldType := fun k => match k with
  | 0 => .array .int
  | 1 => .int
  | _ => .int
abbrev wsX50 : List Cond := u_ws RX5 TX5 3
theorem nmX5 : ∀ a, a < 3 → ∀ b, b < 3 → a ≠ b → (TX5 a).2.1 ≠ (TX5 b).2.1 := by decide +kernel
theorem tyX5_ok : ∀ k, k < 3 → parseFieldDescriptor (TX5 k).2.2.1 = some (tyX5 k) := by decide +kernel
abbrev cX5_init : ByteArray := prog_7_method_1_code
def yX5_init : MethodName := ⟨RX5, "<init>", "()V"⟩
abbrev cX5_append : ByteArray := prog_7_method_2_code
def yX5_append : MethodName := ⟨RX5, "append", "(I)Z"⟩
abbrev cX5_readInto : ByteArray := prog_7_method_3_code
def yX5_readInto : MethodName := ⟨RX5, "readInto", "(LThermostatColony$Weather;)I"⟩
abbrev cX5_readPoint : ByteArray := prog_7_method_4_code
def yX5_readPoint : MethodName := ⟨RX5, "readPoint", "(LThermostatColony$Weather;)I"⟩
abbrev cX5_readTemperature : ByteArray := prog_7_method_5_code
def yX5_readTemperature : MethodName := ⟨RX5, "readTemperature", "(LThermostatColony$Weather;I)I"⟩
abbrev cX5_readNumber : ByteArray := prog_7_method_6_code
def yX5_readNumber : MethodName := ⟨RX5, "readNumber", "()I"⟩
abbrev cX5_skipSpaces : ByteArray := prog_7_method_7_code
def yX5_skipSpaces : MethodName := ⟨RX5, "skipSpaces", "()V"⟩
abbrev cX5_isDigitHere : ByteArray := prog_7_method_8_code
def yX5_isDigitHere : MethodName := ⟨RX5, "isDigitHere", "()Z"⟩
abbrev cX5_here : ByteArray := prog_7_method_9_code
def yX5_here : MethodName := ⟨RX5, "here", "()I"⟩
def RX6 : String := "ThermostatColony"
def TX6 : u_T := fun k => match k with
  | 0 => ("ThermostatColony", "now", "LThermostatColony$Colony;", true)
  | 1 => ("ThermostatColony", "forecast", "LThermostatColony$Colony;", true)
  | 2 => ("ThermostatColony", "history", "LThermostatColony$History;", true)
  | 3 => ("ThermostatColony", "text", "LThermostatColony$WeatherText;", true)
  | _ => ("ThermostatColony", "weatherRead", "LThermostatColony$Weather;", true)
def tyX6 : Nat → FieldType := fun k => match k with
  | 0 => .object "ThermostatColony$Colony"
  | 1 => .object "ThermostatColony$Colony"
  | 2 => .object "ThermostatColony$History"
  | 3 => .object "ThermostatColony$WeatherText"
  | _ => .object "ThermostatColony$Weather"
abbrev wsX60 : List Cond := u_ws RX6 TX6 5
theorem nmX6 : ∀ a, a < 5 → ∀ b, b < 5 → a ≠ b → (TX6 a).2.1 ≠ (TX6 b).2.1 := by decide +kernel
theorem tyX6_ok : ∀ k, k < 5 → parseFieldDescriptor (TX6 k).2.2.1 = some (tyX6 k) := by decide +kernel
abbrev cX6_init : ByteArray := prog_1_method_1_code
def yX6_init : MethodName := ⟨RX6, "<init>", "()V"⟩
abbrev cX6_addRoom : ByteArray := prog_1_method_2_code
def yX6_addRoom : MethodName := ⟨RX6, "addRoom", "(IIII)I"⟩
abbrev cX6_setLink : ByteArray := prog_1_method_3_code
def yX6_setLink : MethodName := ⟨RX6, "setLink", "(III)I"⟩
abbrev cX6_setThermostat : ByteArray := prog_1_method_4_code
def yX6_setThermostat : MethodName := ⟨RX6, "setThermostat", "(III)I"⟩
abbrev cX6_setNumber : ByteArray := prog_1_method_5_code
def yX6_setNumber : MethodName := ⟨RX6, "setNumber", "(II)I"⟩
abbrev cX6_warm : ByteArray := prog_1_method_6_code
def yX6_warm : MethodName := ⟨RX6, "warm", "(II)I"⟩
abbrev cX6_service : ByteArray := prog_1_method_7_code
def yX6_service : MethodName := ⟨RX6, "service", "(I)I"⟩
abbrev cX6_resetCutout : ByteArray := prog_1_method_8_code
def yX6_resetCutout : MethodName := ⟨RX6, "resetCutout", "(I)I"⟩
abbrev cX6_room : ByteArray := prog_1_method_9_code
def yX6_room : MethodName := ⟨RX6, "room", "(II)I"⟩
abbrev cX6_book : ByteArray := prog_1_method_10_code
def yX6_book : MethodName := ⟨RX6, "book", "(II)I"⟩
abbrev cX6_link : ByteArray := prog_1_method_11_code
def yX6_link : MethodName := ⟨RX6, "link", "(II)I"⟩
abbrev cX6_count : ByteArray := prog_1_method_12_code
def yX6_count : MethodName := ⟨RX6, "count", "(I)I"⟩
abbrev cX6_appendCharacter : ByteArray := prog_1_method_13_code
def yX6_appendCharacter : MethodName := ⟨RX6, "appendCharacter", "(I)I"⟩
abbrev cX6_clearText : ByteArray := prog_1_method_14_code
def yX6_clearText : MethodName := ⟨RX6, "clearText", "()I"⟩
abbrev cX6_load : ByteArray := prog_1_method_15_code
def yX6_load : MethodName := ⟨RX6, "load", "()I"⟩
abbrev cX6_outside : ByteArray := prog_1_method_16_code
def yX6_outside : MethodName := ⟨RX6, "outside", "(I)I"⟩
abbrev cX6_pass : ByteArray := prog_1_method_17_code
def yX6_pass : MethodName := ⟨RX6, "pass", "(I)I"⟩
abbrev cX6_minutesToSuspect : ByteArray := prog_1_method_18_code
def yX6_minutesToSuspect : MethodName := ⟨RX6, "minutesToSuspect", "(I)I"⟩
abbrev cX6_heatIn : ByteArray := prog_1_method_19_code
def yX6_heatIn : MethodName := ⟨RX6, "heatIn", "(I)I"⟩
abbrev cX6_finesWith : ByteArray := prog_1_method_20_code
def yX6_finesWith : MethodName := ⟨RX6, "finesWith", "(III)I"⟩
abbrev cX6_quietBand : ByteArray := prog_1_method_21_code
def yX6_quietBand : MethodName := ⟨RX6, "quietBand", "(II)I"⟩
abbrev cX6_undo : ByteArray := prog_1_method_22_code
def yX6_undo : MethodName := ⟨RX6, "undo", "()I"⟩
abbrev cX6_forecastWithBand : ByteArray := prog_1_method_23_code
def yX6_forecastWithBand : MethodName := ⟨RX6, "forecastWithBand", "(II)LThermostatColony$Room;"⟩
abbrev cX6_isQuiet : ByteArray := prog_1_method_24_code
def yX6_isQuiet : MethodName := ⟨RX6, "isQuiet", "(LThermostatColony$Room;I)Z"⟩
abbrev cX6_isNumberInRange : ByteArray := prog_1_method_25_code
def yX6_isNumberInRange : MethodName := ⟨RX6, "isNumberInRange", "(II)Z"⟩
abbrev cX6_within : ByteArray := prog_1_method_26_code
def yX6_within : MethodName := ⟨RX6, "within", "(III)Z"⟩
def RX7 : String := "ThermostatColonyModel"
def TX7 : u_T := fun k => match k with
  | 0 => ("ThermostatColonyModel", "s", "[I", true)
  | 1 => ("ThermostatColonyModel", "past", "[I", true)
  | 2 => ("ThermostatColonyModel", "pasts", "I", false)
  | 3 => ("ThermostatColonyModel", "text", "[B", true)
  | 4 => ("ThermostatColonyModel", "typed", "I", false)
  | 5 => ("ThermostatColonyModel", "kept", "[I", true)
  | 6 => ("ThermostatColonyModel", "told", "[I", true)
  | 7 => ("ThermostatColonyModel", "points", "I", false)
  | 8 => ("ThermostatColonyModel", "next", "I", false)
  | 9 => ("ThermostatColonyModel", "number", "I", false)
  | _ => ("ThermostatColonyModel", "warmth", "[I", true)
def tyX7 : Nat → FieldType := fun k => match k with
  | 0 => .array .int
  | 1 => .array .int
  | 2 => .int
  | 3 => .array .byte
  | 4 => .int
  | 5 => .array .int
  | 6 => .array .int
  | 7 => .int
  | 8 => .int
  | 9 => .int
  | _ => .array .int
abbrev wsX70 : List Cond := u_ws RX7 TX7 11
theorem nmX7 : ∀ a, a < 11 → ∀ b, b < 11 → a ≠ b → (TX7 a).2.1 ≠ (TX7 b).2.1 := by decide +kernel
theorem tyX7_ok : ∀ k, k < 11 → parseFieldDescriptor (TX7 k).2.2.1 = some (tyX7 k) := by decide +kernel
abbrev cX7_init : ByteArray := prog_9_method_1_code
def yX7_init : MethodName := ⟨RX7, "<init>", "()V"⟩
abbrev cX7_in : ByteArray := prog_9_method_3_code
def yX7_in : MethodName := ⟨RX7, "in", "(III)Z"⟩
abbrev cX7_notes : ByteArray := prog_9_method_4_code
def yX7_notes : MethodName := ⟨RX7, "notes", "()V"⟩
abbrev cX7_undo : ByteArray := prog_9_method_5_code
def yX7_undo : MethodName := ⟨RX7, "undo", "()I"⟩
abbrev cX7_isRoom : ByteArray := prog_9_method_6_code
def yX7_isRoom : MethodName := ⟨RX7, "isRoom", "(I)Z"⟩
abbrev cX7_of : ByteArray := prog_9_method_7_code
def yX7_of : MethodName := ⟨RX7, "of", "(II)I"⟩
abbrev cX7_puts : ByteArray := prog_9_method_8_code
def yX7_puts : MethodName := ⟨RX7, "puts", "(III)V"⟩
abbrev cX7_grows : ByteArray := prog_9_method_9_code
def yX7_grows : MethodName := ⟨RX7, "grows", "(III)V"⟩
abbrev cX7_degrees : ByteArray := prog_9_method_10_code
def yX7_degrees : MethodName := ⟨RX7, "degrees", "(II)I"⟩
abbrev cX7_temperature : ByteArray := prog_9_method_11_code
def yX7_temperature : MethodName := ⟨RX7, "temperature", "(I)I"⟩
abbrev cX7_addRoom : ByteArray := prog_9_method_12_code
def yX7_addRoom : MethodName := ⟨RX7, "addRoom", "(IIII)I"⟩
abbrev cX7_areRooms : ByteArray := prog_9_method_13_code
def yX7_areRooms : MethodName := ⟨RX7, "areRooms", "(II)Z"⟩
abbrev cX7_drain : ByteArray := prog_9_method_14_code
def yX7_drain : MethodName := ⟨RX7, "drain", "(I)I"⟩
abbrev cX7_isTooMuch : ByteArray := prog_9_method_15_code
def yX7_isTooMuch : MethodName := ⟨RX7, "isTooMuch", "(II)Z"⟩
abbrev cX7_setLink : ByteArray := prog_9_method_16_code
def yX7_setLink : MethodName := ⟨RX7, "setLink", "(III)I"⟩
abbrev cX7_link : ByteArray := prog_9_method_17_code
def yX7_link : MethodName := ⟨RX7, "link", "(II)I"⟩
abbrev cX7_setThermostat : ByteArray := prog_9_method_18_code
def yX7_setThermostat : MethodName := ⟨RX7, "setThermostat", "(III)I"⟩
abbrev cX7_isNumber : ByteArray := prog_9_method_19_code
def yX7_isNumber : MethodName := ⟨RX7, "isNumber", "(II)Z"⟩
abbrev cX7_setNumber : ByteArray := prog_9_method_20_code
def yX7_setNumber : MethodName := ⟨RX7, "setNumber", "(II)I"⟩
abbrev cX7_warm : ByteArray := prog_9_method_21_code
def yX7_warm : MethodName := ⟨RX7, "warm", "(II)I"⟩
abbrev cX7_service : ByteArray := prog_9_method_22_code
def yX7_service : MethodName := ⟨RX7, "service", "(I)I"⟩
abbrev cX7_resetCutout : ByteArray := prog_9_method_23_code
def yX7_resetCutout : MethodName := ⟨RX7, "resetCutout", "(I)I"⟩
abbrev cX7_room : ByteArray := prog_9_method_24_code
def yX7_room : MethodName := ⟨RX7, "room", "(II)I"⟩
abbrev cX7_book : ByteArray := prog_9_method_25_code
def yX7_book : MethodName := ⟨RX7, "book", "(II)I"⟩
abbrev cX7_isSuspect : ByteArray := prog_9_method_26_code
def yX7_isSuspect : MethodName := ⟨RX7, "isSuspect", "(I)Z"⟩
abbrev cX7_count : ByteArray := prog_9_method_27_code
def yX7_count : MethodName := ⟨RX7, "count", "(I)I"⟩
abbrev cX7_appendCharacter : ByteArray := prog_9_method_28_code
def yX7_appendCharacter : MethodName := ⟨RX7, "appendCharacter", "(I)I"⟩
abbrev cX7_clearText : ByteArray := prog_9_method_29_code
def yX7_clearText : MethodName := ⟨RX7, "clearText", "()I"⟩
abbrev cX7_here : ByteArray := prog_9_method_30_code
def yX7_here : MethodName := ⟨RX7, "here", "()I"⟩
abbrev cX7_reads : ByteArray := prog_9_method_31_code
def yX7_reads : MethodName := ⟨RX7, "reads", "(IIZ)Z"⟩
abbrev cX7_readsAll : ByteArray := prog_9_method_32_code
def yX7_readsAll : MethodName := ⟨RX7, "readsAll", "()Z"⟩
abbrev cX7_load : ByteArray := prog_9_method_33_code
def yX7_load : MethodName := ⟨RX7, "load", "()I"⟩
abbrev cX7_air : ByteArray := prog_9_method_34_code
def yX7_air : MethodName := ⟨RX7, "air", "(I)I"⟩
abbrev cX7_outside : ByteArray := prog_9_method_35_code
def yX7_outside : MethodName := ⟨RX7, "outside", "(I)I"⟩
abbrev cX7_flows : ByteArray := prog_9_method_36_code
def yX7_flows : MethodName := ⟨RX7, "flows", "(II)V"⟩
abbrev cX7_closes : ByteArray := prog_9_method_37_code
def yX7_closes : MethodName := ⟨RX7, "closes", "(I)V"⟩
abbrev cX7_opens : ByteArray := prog_9_method_38_code
def yX7_opens : MethodName := ⟨RX7, "opens", "(I)I"⟩
abbrev cX7_turns : ByteArray := prog_9_method_39_code
def yX7_turns : MethodName := ⟨RX7, "turns", "(I)I"⟩
abbrev cX7_minute : ByteArray := prog_9_method_40_code
def yX7_minute : MethodName := ⟨RX7, "minute", "()I"⟩
abbrev cX7_minutes : ByteArray := prog_9_method_41_code
def yX7_minutes : MethodName := ⟨RX7, "minutes", "(I)I"⟩
abbrev cX7_pass : ByteArray := prog_9_method_42_code
def yX7_pass : MethodName := ⟨RX7, "pass", "(I)I"⟩
abbrev cX7_keeps : ByteArray := prog_9_method_43_code
def yX7_keeps : MethodName := ⟨RX7, "keeps", "()V"⟩
abbrev cX7_restores : ByteArray := prog_9_method_44_code
def yX7_restores : MethodName := ⟨RX7, "restores", "()V"⟩
abbrev cX7_minutesToSuspect : ByteArray := prog_9_method_45_code
def yX7_minutesToSuspect : MethodName := ⟨RX7, "minutesToSuspect", "(I)I"⟩
abbrev cX7_heated : ByteArray := prog_9_method_46_code
def yX7_heated : MethodName := ⟨RX7, "heated", "()I"⟩
abbrev cX7_heatIn : ByteArray := prog_9_method_47_code
def yX7_heatIn : MethodName := ⟨RX7, "heatIn", "(I)I"⟩
abbrev cX7_fined : ByteArray := prog_9_method_48_code
def yX7_fined : MethodName := ⟨RX7, "fined", "(III)I"⟩
abbrev cX7_finesWith : ByteArray := prog_9_method_49_code
def yX7_finesWith : MethodName := ⟨RX7, "finesWith", "(III)I"⟩
abbrev cX7_quietBand : ByteArray := prog_9_method_50_code
def yX7_quietBand : MethodName := ⟨RX7, "quietBand", "(II)I"⟩
def RJ9 : String := "java/lang/Math"
def TJ9 : u_T := fun k => match k with
  | _ => ("", "", "", false)
def tyJ9 : Nat → FieldType := fun k => match k with
  | _ => .int
abbrev wsJ90 : List Cond := u_ws RJ9 TJ9 0
theorem nmJ9 : ∀ a, a < 0 → ∀ b, b < 0 → a ≠ b → (TJ9 a).2.1 ≠ (TJ9 b).2.1 := by decide +kernel
theorem tyJ9_ok : ∀ k, k < 0 → parseFieldDescriptor (TJ9 k).2.2.1 = some (tyJ9 k) := by decide +kernel
abbrev cJ9_floorDiv_7cf53 : ByteArray := prog_10_method_47_code
def yJ9_floorDiv_7cf53 : MethodName := ⟨RJ9, "floorDiv", "(II)I"⟩
abbrev cJ9_min_7cf53 : ByteArray := prog_10_method_69_code
def yJ9_min_7cf53 : MethodName := ⟨RJ9, "min", "(II)I"⟩
def RJ10 : String := "java/lang/System"
def TJ10 : u_T := fun k => match k with
  | _ => ("", "", "", false)
def tyJ10 : Nat → FieldType := fun k => match k with
  | _ => .int
abbrev wsJ100 : List Cond := u_ws RJ10 TJ10 0
theorem nmJ10 : ∀ a, a < 0 → ∀ b, b < 0 → a ≠ b → (TJ10 a).2.1 ≠ (TJ10 b).2.1 := by decide +kernel
theorem tyJ10_ok : ∀ k, k < 0 → parseFieldDescriptor (TJ10 k).2.2.1 = some (tyJ10 k) := by decide +kernel
def RL : String := "ThermostatColonyLaw"
abbrev cL_law : ByteArray := code
def yL_law : MethodName := ⟨RL, "law", "([I)Z"⟩
abbrev vwCl : List vw_C := [(RX0, TX0, 5), (RX1, TX1, 6), (RX2, TX2, 3), (RX3, TX3, 18), (RX4, TX4, 3), (RX5, TX5, 3), (RX6, TX6, 5), (RX7, TX7, 11)]
end
section
theorem dX0_init_0 : decode cX0_init 0 = .ok (.aload_n 0, 1) := by decide +kernel
theorem dX0_init_1 : decode cX0_init 1 = .ok (.invokespecial 3, 3) := by decide +kernel
theorem dX0_init_4 : decode cX0_init 4 = .ok (.return_, 1) := by decide +kernel
theorem dX0_begin_0 : decode cX0_begin 0 = .ok (.aload_n 0, 1) := by decide +kernel
theorem dX0_begin_1 : decode cX0_begin 1 = .ok (.iload_n 1, 1) := by decide +kernel
theorem dX0_begin_2 : decode cX0_begin 2 = .ok (.putfield 9, 3) := by decide +kernel
theorem dX0_begin_5 : decode cX0_begin 5 = .ok (.aload_n 0, 1) := by decide +kernel
theorem dX0_begin_6 : decode cX0_begin 6 = .ok (.iconst 0, 1) := by decide +kernel
theorem dX0_begin_7 : decode cX0_begin 7 = .ok (.putfield 15, 3) := by decide +kernel
theorem dX0_begin_10 : decode cX0_begin 10 = .ok (.aload_n 0, 1) := by decide +kernel
theorem dX0_begin_11 : decode cX0_begin 11 = .ok (.iconst 0, 1) := by decide +kernel
theorem dX0_begin_12 : decode cX0_begin 12 = .ok (.putfield 18, 3) := by decide +kernel
theorem dX0_begin_15 : decode cX0_begin 15 = .ok (.aload_n 0, 1) := by decide +kernel
theorem dX0_begin_16 : decode cX0_begin 16 = .ok (.iconst 0, 1) := by decide +kernel
theorem dX0_begin_17 : decode cX0_begin 17 = .ok (.putfield 21, 3) := by decide +kernel
theorem dX0_begin_20 : decode cX0_begin 20 = .ok (.aload_n 0, 1) := by decide +kernel
theorem dX0_begin_21 : decode cX0_begin 21 = .ok (.iconst 0, 1) := by decide +kernel
theorem dX0_begin_22 : decode cX0_begin 22 = .ok (.putfield 24, 3) := by decide +kernel
theorem dX0_begin_25 : decode cX0_begin 25 = .ok (.return_, 1) := by decide +kernel
theorem dX0_copyFrom_0 : decode cX0_copyFrom 0 = .ok (.aload_n 0, 1) := by decide +kernel
theorem dX0_copyFrom_1 : decode cX0_copyFrom 1 = .ok (.aload_n 1, 1) := by decide +kernel
theorem dX0_copyFrom_2 : decode cX0_copyFrom 2 = .ok (.getfield 9, 3) := by decide +kernel
theorem dX0_copyFrom_5 : decode cX0_copyFrom 5 = .ok (.putfield 9, 3) := by decide +kernel
theorem dX0_copyFrom_8 : decode cX0_copyFrom 8 = .ok (.aload_n 0, 1) := by decide +kernel
theorem dX0_copyFrom_9 : decode cX0_copyFrom 9 = .ok (.aload_n 1, 1) := by decide +kernel
theorem dX0_copyFrom_10 : decode cX0_copyFrom 10 = .ok (.getfield 15, 3) := by decide +kernel
theorem dX0_copyFrom_13 : decode cX0_copyFrom 13 = .ok (.putfield 15, 3) := by decide +kernel
theorem dX0_copyFrom_16 : decode cX0_copyFrom 16 = .ok (.aload_n 0, 1) := by decide +kernel
theorem dX0_copyFrom_17 : decode cX0_copyFrom 17 = .ok (.aload_n 1, 1) := by decide +kernel
theorem dX0_copyFrom_18 : decode cX0_copyFrom 18 = .ok (.getfield 18, 3) := by decide +kernel
theorem dX0_copyFrom_21 : decode cX0_copyFrom 21 = .ok (.putfield 18, 3) := by decide +kernel
theorem dX0_copyFrom_24 : decode cX0_copyFrom 24 = .ok (.aload_n 0, 1) := by decide +kernel
theorem dX0_copyFrom_25 : decode cX0_copyFrom 25 = .ok (.aload_n 1, 1) := by decide +kernel
theorem dX0_copyFrom_26 : decode cX0_copyFrom 26 = .ok (.getfield 21, 3) := by decide +kernel
theorem dX0_copyFrom_29 : decode cX0_copyFrom 29 = .ok (.putfield 21, 3) := by decide +kernel
theorem dX0_copyFrom_32 : decode cX0_copyFrom 32 = .ok (.aload_n 0, 1) := by decide +kernel
theorem dX0_copyFrom_33 : decode cX0_copyFrom 33 = .ok (.aload_n 1, 1) := by decide +kernel
theorem dX0_copyFrom_34 : decode cX0_copyFrom 34 = .ok (.getfield 24, 3) := by decide +kernel
theorem dX0_copyFrom_37 : decode cX0_copyFrom 37 = .ok (.putfield 24, 3) := by decide +kernel
theorem dX0_copyFrom_40 : decode cX0_copyFrom 40 = .ok (.return_, 1) := by decide +kernel
theorem dX0_sum_0 : decode cX0_sum 0 = .ok (.iload_n 1, 1) := by decide +kernel
theorem dX0_sum_1 : decode cX0_sum 1 = .ok (.tableswitch 60 0 4 #[35, 40, 45, 50, 55], 35) := by decide +kernel
theorem dX0_sum_36 : decode cX0_sum 36 = .ok (.aload_n 0, 1) := by decide +kernel
theorem dX0_sum_37 : decode cX0_sum 37 = .ok (.getfield 9, 3) := by decide +kernel
theorem dX0_sum_40 : decode cX0_sum 40 = .ok (.ireturn, 1) := by decide +kernel
theorem dX0_sum_41 : decode cX0_sum 41 = .ok (.aload_n 0, 1) := by decide +kernel
theorem dX0_sum_42 : decode cX0_sum 42 = .ok (.getfield 15, 3) := by decide +kernel
theorem dX0_sum_45 : decode cX0_sum 45 = .ok (.ireturn, 1) := by decide +kernel
theorem dX0_sum_46 : decode cX0_sum 46 = .ok (.aload_n 0, 1) := by decide +kernel
theorem dX0_sum_47 : decode cX0_sum 47 = .ok (.getfield 18, 3) := by decide +kernel
theorem dX0_sum_50 : decode cX0_sum 50 = .ok (.ireturn, 1) := by decide +kernel
theorem dX0_sum_51 : decode cX0_sum 51 = .ok (.aload_n 0, 1) := by decide +kernel
theorem dX0_sum_52 : decode cX0_sum 52 = .ok (.getfield 21, 3) := by decide +kernel
theorem dX0_sum_55 : decode cX0_sum 55 = .ok (.ireturn, 1) := by decide +kernel
theorem dX0_sum_56 : decode cX0_sum 56 = .ok (.aload_n 0, 1) := by decide +kernel
theorem dX0_sum_57 : decode cX0_sum 57 = .ok (.getfield 24, 3) := by decide +kernel
theorem dX0_sum_60 : decode cX0_sum 60 = .ok (.ireturn, 1) := by decide +kernel
theorem dX0_sum_61 : decode cX0_sum 61 = .ok (.ldc 27, 2) := by decide +kernel
theorem dX0_sum_63 : decode cX0_sum 63 = .ok (.ireturn, 1) := by decide +kernel
theorem dX1_init_0 : decode cX1_init 0 = .ok (.aload_n 0, 1) := by decide +kernel
theorem dX1_init_1 : decode cX1_init 1 = .ok (.invokespecial 3, 3) := by decide +kernel
theorem dX1_init_4 : decode cX1_init 4 = .ok (.aload_n 0, 1) := by decide +kernel
theorem dX1_init_5 : decode cX1_init 5 = .ok (.bipush 7, 2) := by decide +kernel
theorem dX1_init_7 : decode cX1_init 7 = .ok (.newarray .int, 2) := by decide +kernel
theorem dX1_init_9 : decode cX1_init 9 = .ok (.putfield 9, 3) := by decide +kernel
theorem dX1_init_12 : decode cX1_init 12 = .ok (.aload_n 0, 1) := by decide +kernel
theorem dX1_init_13 : decode cX1_init 13 = .ok (.bipush 6, 2) := by decide +kernel
theorem dX1_init_15 : decode cX1_init 15 = .ok (.anewarray 15, 3) := by decide +kernel
theorem dX1_init_18 : decode cX1_init 18 = .ok (.putfield 17, 3) := by decide +kernel
theorem dX1_init_21 : decode cX1_init 21 = .ok (.aload_n 0, 1) := by decide +kernel
theorem dX1_init_22 : decode cX1_init 22 = .ok (.bipush 36, 2) := by decide +kernel
theorem dX1_init_24 : decode cX1_init 24 = .ok (.newarray .int, 2) := by decide +kernel
theorem dX1_init_26 : decode cX1_init 26 = .ok (.putfield 21, 3) := by decide +kernel
theorem dX1_init_29 : decode cX1_init 29 = .ok (.aload_n 0, 1) := by decide +kernel
theorem dX1_init_30 : decode cX1_init 30 = .ok (.new 24, 3) := by decide +kernel
theorem dX1_init_33 : decode cX1_init 33 = .ok (.dup, 1) := by decide +kernel
theorem dX1_init_34 : decode cX1_init 34 = .ok (.invokespecial 26, 3) := by decide +kernel
theorem dX1_init_37 : decode cX1_init 37 = .ok (.putfield 27, 3) := by decide +kernel
theorem dX1_init_40 : decode cX1_init 40 = .ok (.iconst 0, 1) := by decide +kernel
theorem dX1_init_41 : decode cX1_init 41 = .ok (.istore_n 1, 1) := by decide +kernel
theorem dX1_init_42 : decode cX1_init 42 = .ok (.iload_n 1, 1) := by decide +kernel
theorem dX1_init_43 : decode cX1_init 43 = .ok (.aload_n 0, 1) := by decide +kernel
theorem dX1_init_44 : decode cX1_init 44 = .ok (.getfield 9, 3) := by decide +kernel
theorem dX1_init_47 : decode cX1_init 47 = .ok (.arraylength, 1) := by decide +kernel
theorem dX1_init_48 : decode cX1_init 48 = .ok (.if_icmp .ge 28, 3) := by decide +kernel
theorem dX1_init_51 : decode cX1_init 51 = .ok (.iload_n 1, 1) := by decide +kernel
theorem dX1_init_52 : decode cX1_init 52 = .ok (.getstatic 31, 3) := by decide +kernel
theorem dX1_init_55 : decode cX1_init 55 = .ok (.arraylength, 1) := by decide +kernel
theorem dX1_init_56 : decode cX1_init 56 = .ok (.if_icmp .ge 20, 3) := by decide +kernel
theorem dX1_init_59 : decode cX1_init 59 = .ok (.aload_n 0, 1) := by decide +kernel
theorem dX1_init_60 : decode cX1_init 60 = .ok (.getfield 9, 3) := by decide +kernel
theorem dX1_init_63 : decode cX1_init 63 = .ok (.iload_n 1, 1) := by decide +kernel
theorem dX1_init_64 : decode cX1_init 64 = .ok (.getstatic 31, 3) := by decide +kernel
theorem dX1_init_67 : decode cX1_init 67 = .ok (.iload_n 1, 1) := by decide +kernel
theorem dX1_init_68 : decode cX1_init 68 = .ok (.iaload, 1) := by decide +kernel
theorem dX1_init_69 : decode cX1_init 69 = .ok (.iastore, 1) := by decide +kernel
theorem dX1_init_70 : decode cX1_init 70 = .ok (.iinc 1 1, 3) := by decide +kernel
theorem dX1_init_73 : decode cX1_init 73 = .ok (.goto (-31), 3) := by decide +kernel
theorem dX1_init_76 : decode cX1_init 76 = .ok (.iconst 0, 1) := by decide +kernel
theorem dX1_init_77 : decode cX1_init 77 = .ok (.istore_n 1, 1) := by decide +kernel
theorem dX1_init_78 : decode cX1_init 78 = .ok (.iload_n 1, 1) := by decide +kernel
theorem dX1_init_79 : decode cX1_init 79 = .ok (.aload_n 0, 1) := by decide +kernel
theorem dX1_init_80 : decode cX1_init 80 = .ok (.getfield 17, 3) := by decide +kernel
theorem dX1_init_83 : decode cX1_init 83 = .ok (.arraylength, 1) := by decide +kernel
theorem dX1_init_84 : decode cX1_init 84 = .ok (.if_icmp .ge 22, 3) := by decide +kernel
theorem dX1_init_87 : decode cX1_init 87 = .ok (.aload_n 0, 1) := by decide +kernel
theorem dX1_init_88 : decode cX1_init 88 = .ok (.getfield 17, 3) := by decide +kernel
theorem dX1_init_91 : decode cX1_init 91 = .ok (.iload_n 1, 1) := by decide +kernel
theorem dX1_init_92 : decode cX1_init 92 = .ok (.new 15, 3) := by decide +kernel
theorem dX1_init_95 : decode cX1_init 95 = .ok (.dup, 1) := by decide +kernel
theorem dX1_init_96 : decode cX1_init 96 = .ok (.invokespecial 34, 3) := by decide +kernel
theorem dX1_init_99 : decode cX1_init 99 = .ok (.aastore, 1) := by decide +kernel
theorem dX1_init_100 : decode cX1_init 100 = .ok (.iinc 1 1, 3) := by decide +kernel
theorem dX1_init_103 : decode cX1_init 103 = .ok (.goto (-25), 3) := by decide +kernel
theorem dX1_init_106 : decode cX1_init 106 = .ok (.return_, 1) := by decide +kernel
theorem dX1_copyFrom_0 : decode cX1_copyFrom 0 = .ok (.aload_n 1, 1) := by decide +kernel
theorem dX1_copyFrom_1 : decode cX1_copyFrom 1 = .ok (.getfield 9, 3) := by decide +kernel
theorem dX1_copyFrom_4 : decode cX1_copyFrom 4 = .ok (.iconst 0, 1) := by decide +kernel
theorem dX1_copyFrom_5 : decode cX1_copyFrom 5 = .ok (.aload_n 0, 1) := by decide +kernel
theorem dX1_copyFrom_6 : decode cX1_copyFrom 6 = .ok (.getfield 9, 3) := by decide +kernel
theorem dX1_copyFrom_9 : decode cX1_copyFrom 9 = .ok (.iconst 0, 1) := by decide +kernel
theorem dX1_copyFrom_10 : decode cX1_copyFrom 10 = .ok (.bipush 7, 2) := by decide +kernel
theorem dX1_copyFrom_12 : decode cX1_copyFrom 12 = .ok (.invokestatic 35, 3) := by decide +kernel
theorem dX1_copyFrom_15 : decode cX1_copyFrom 15 = .ok (.aload_n 1, 1) := by decide +kernel
theorem dX1_copyFrom_16 : decode cX1_copyFrom 16 = .ok (.getfield 21, 3) := by decide +kernel
theorem dX1_copyFrom_19 : decode cX1_copyFrom 19 = .ok (.iconst 0, 1) := by decide +kernel
theorem dX1_copyFrom_20 : decode cX1_copyFrom 20 = .ok (.aload_n 0, 1) := by decide +kernel
theorem dX1_copyFrom_21 : decode cX1_copyFrom 21 = .ok (.getfield 21, 3) := by decide +kernel
theorem dX1_copyFrom_24 : decode cX1_copyFrom 24 = .ok (.iconst 0, 1) := by decide +kernel
theorem dX1_copyFrom_25 : decode cX1_copyFrom 25 = .ok (.bipush 36, 2) := by decide +kernel
theorem dX1_copyFrom_27 : decode cX1_copyFrom 27 = .ok (.invokestatic 35, 3) := by decide +kernel
theorem dX1_copyFrom_30 : decode cX1_copyFrom 30 = .ok (.aload_n 0, 1) := by decide +kernel
theorem dX1_copyFrom_31 : decode cX1_copyFrom 31 = .ok (.getfield 27, 3) := by decide +kernel
theorem dX1_copyFrom_34 : decode cX1_copyFrom 34 = .ok (.aload_n 1, 1) := by decide +kernel
theorem dX1_copyFrom_35 : decode cX1_copyFrom 35 = .ok (.getfield 27, 3) := by decide +kernel
theorem dX1_copyFrom_38 : decode cX1_copyFrom 38 = .ok (.invokevirtual 41, 3) := by decide +kernel
theorem dX1_copyFrom_41 : decode cX1_copyFrom 41 = .ok (.aload_n 0, 1) := by decide +kernel
theorem dX1_copyFrom_42 : decode cX1_copyFrom 42 = .ok (.aload_n 1, 1) := by decide +kernel
theorem dX1_copyFrom_43 : decode cX1_copyFrom 43 = .ok (.getfield 45, 3) := by decide +kernel
theorem dX1_copyFrom_46 : decode cX1_copyFrom 46 = .ok (.putfield 45, 3) := by decide +kernel
theorem dX1_copyFrom_49 : decode cX1_copyFrom 49 = .ok (.aload_n 0, 1) := by decide +kernel
theorem dX1_copyFrom_50 : decode cX1_copyFrom 50 = .ok (.aload_n 1, 1) := by decide +kernel
theorem dX1_copyFrom_51 : decode cX1_copyFrom 51 = .ok (.getfield 49, 3) := by decide +kernel
theorem dX1_copyFrom_54 : decode cX1_copyFrom 54 = .ok (.putfield 49, 3) := by decide +kernel
theorem dX1_copyFrom_57 : decode cX1_copyFrom 57 = .ok (.iconst 0, 1) := by decide +kernel
theorem dX1_copyFrom_58 : decode cX1_copyFrom 58 = .ok (.istore_n 2, 1) := by decide +kernel
theorem dX1_copyFrom_59 : decode cX1_copyFrom 59 = .ok (.iload_n 2, 1) := by decide +kernel
theorem dX1_copyFrom_60 : decode cX1_copyFrom 60 = .ok (.aload_n 0, 1) := by decide +kernel
theorem dX1_copyFrom_61 : decode cX1_copyFrom 61 = .ok (.getfield 45, 3) := by decide +kernel
theorem dX1_copyFrom_64 : decode cX1_copyFrom 64 = .ok (.if_icmp .ge 37, 3) := by decide +kernel
theorem dX1_copyFrom_67 : decode cX1_copyFrom 67 = .ok (.aload_n 0, 1) := by decide +kernel
theorem dX1_copyFrom_68 : decode cX1_copyFrom 68 = .ok (.iload_n 2, 1) := by decide +kernel
theorem dX1_copyFrom_69 : decode cX1_copyFrom 69 = .ok (.invokevirtual 52, 3) := by decide +kernel
theorem dX1_copyFrom_72 : decode cX1_copyFrom 72 = .ok (.astore_n 3, 1) := by decide +kernel
theorem dX1_copyFrom_73 : decode cX1_copyFrom 73 = .ok (.aload_n 1, 1) := by decide +kernel
theorem dX1_copyFrom_74 : decode cX1_copyFrom 74 = .ok (.iload_n 2, 1) := by decide +kernel
theorem dX1_copyFrom_75 : decode cX1_copyFrom 75 = .ok (.invokevirtual 52, 3) := by decide +kernel
theorem dX1_copyFrom_78 : decode cX1_copyFrom 78 = .ok (.astore 4, 2) := by decide +kernel
theorem dX1_copyFrom_80 : decode cX1_copyFrom 80 = .ok (.aload_n 3, 1) := by decide +kernel
theorem dX1_copyFrom_81 : decode cX1_copyFrom 81 = .ok (.ifnull 14, 3) := by decide +kernel
theorem dX1_copyFrom_84 : decode cX1_copyFrom 84 = .ok (.aload 4, 2) := by decide +kernel
theorem dX1_copyFrom_86 : decode cX1_copyFrom 86 = .ok (.ifnull 9, 3) := by decide +kernel
theorem dX1_copyFrom_89 : decode cX1_copyFrom 89 = .ok (.aload_n 3, 1) := by decide +kernel
theorem dX1_copyFrom_90 : decode cX1_copyFrom 90 = .ok (.aload 4, 2) := by decide +kernel
theorem dX1_copyFrom_92 : decode cX1_copyFrom 92 = .ok (.invokevirtual 56, 3) := by decide +kernel
theorem dX1_copyFrom_95 : decode cX1_copyFrom 95 = .ok (.iinc 2 1, 3) := by decide +kernel
theorem dX1_copyFrom_98 : decode cX1_copyFrom 98 = .ok (.goto (-39), 3) := by decide +kernel
theorem dX1_copyFrom_101 : decode cX1_copyFrom 101 = .ok (.return_, 1) := by decide +kernel
theorem dX1_number_0 : decode cX1_number 0 = .ok (.iload_n 1, 1) := by decide +kernel
theorem dX1_number_1 : decode cX1_number 1 = .ok (.ifCond .lt 21, 3) := by decide +kernel
theorem dX1_number_4 : decode cX1_number 4 = .ok (.iload_n 1, 1) := by decide +kernel
theorem dX1_number_5 : decode cX1_number 5 = .ok (.aload_n 0, 1) := by decide +kernel
theorem dX1_number_6 : decode cX1_number 6 = .ok (.getfield 9, 3) := by decide +kernel
theorem dX1_number_9 : decode cX1_number 9 = .ok (.arraylength, 1) := by decide +kernel
theorem dX1_number_10 : decode cX1_number 10 = .ok (.if_icmp .ge 12, 3) := by decide +kernel
theorem dX1_number_13 : decode cX1_number 13 = .ok (.aload_n 0, 1) := by decide +kernel
theorem dX1_number_14 : decode cX1_number 14 = .ok (.getfield 9, 3) := by decide +kernel
theorem dX1_number_17 : decode cX1_number 17 = .ok (.iload_n 1, 1) := by decide +kernel
theorem dX1_number_18 : decode cX1_number 18 = .ok (.iaload, 1) := by decide +kernel
theorem dX1_number_19 : decode cX1_number 19 = .ok (.goto 4, 3) := by decide +kernel
theorem dX1_number_22 : decode cX1_number 22 = .ok (.iconst 0, 1) := by decide +kernel
theorem dX1_number_23 : decode cX1_number 23 = .ok (.ireturn, 1) := by decide +kernel
theorem dX1_putNumber_0 : decode cX1_putNumber 0 = .ok (.iload_n 1, 1) := by decide +kernel
theorem dX1_putNumber_1 : decode cX1_putNumber 1 = .ok (.ifCond .lt 19, 3) := by decide +kernel
theorem dX1_putNumber_4 : decode cX1_putNumber 4 = .ok (.iload_n 1, 1) := by decide +kernel
theorem dX1_putNumber_5 : decode cX1_putNumber 5 = .ok (.aload_n 0, 1) := by decide +kernel
theorem dX1_putNumber_6 : decode cX1_putNumber 6 = .ok (.getfield 9, 3) := by decide +kernel
theorem dX1_putNumber_9 : decode cX1_putNumber 9 = .ok (.arraylength, 1) := by decide +kernel
theorem dX1_putNumber_10 : decode cX1_putNumber 10 = .ok (.if_icmp .ge 10, 3) := by decide +kernel
theorem dX1_putNumber_13 : decode cX1_putNumber 13 = .ok (.aload_n 0, 1) := by decide +kernel
theorem dX1_putNumber_14 : decode cX1_putNumber 14 = .ok (.getfield 9, 3) := by decide +kernel
theorem dX1_putNumber_17 : decode cX1_putNumber 17 = .ok (.iload_n 1, 1) := by decide +kernel
theorem dX1_putNumber_18 : decode cX1_putNumber 18 = .ok (.iload_n 2, 1) := by decide +kernel
theorem dX1_putNumber_19 : decode cX1_putNumber 19 = .ok (.iastore, 1) := by decide +kernel
theorem dX1_putNumber_20 : decode cX1_putNumber 20 = .ok (.return_, 1) := by decide +kernel
theorem dX1_roomAt_0 : decode cX1_roomAt 0 = .ok (.iload_n 1, 1) := by decide +kernel
theorem dX1_roomAt_1 : decode cX1_roomAt 1 = .ok (.ifCond .lt 29, 3) := by decide +kernel
theorem dX1_roomAt_4 : decode cX1_roomAt 4 = .ok (.iload_n 1, 1) := by decide +kernel
theorem dX1_roomAt_5 : decode cX1_roomAt 5 = .ok (.aload_n 0, 1) := by decide +kernel
theorem dX1_roomAt_6 : decode cX1_roomAt 6 = .ok (.getfield 45, 3) := by decide +kernel
theorem dX1_roomAt_9 : decode cX1_roomAt 9 = .ok (.if_icmp .ge 21, 3) := by decide +kernel
theorem dX1_roomAt_12 : decode cX1_roomAt 12 = .ok (.iload_n 1, 1) := by decide +kernel
theorem dX1_roomAt_13 : decode cX1_roomAt 13 = .ok (.aload_n 0, 1) := by decide +kernel
theorem dX1_roomAt_14 : decode cX1_roomAt 14 = .ok (.getfield 17, 3) := by decide +kernel
theorem dX1_roomAt_17 : decode cX1_roomAt 17 = .ok (.arraylength, 1) := by decide +kernel
theorem dX1_roomAt_18 : decode cX1_roomAt 18 = .ok (.if_icmp .ge 12, 3) := by decide +kernel
theorem dX1_roomAt_21 : decode cX1_roomAt 21 = .ok (.aload_n 0, 1) := by decide +kernel
theorem dX1_roomAt_22 : decode cX1_roomAt 22 = .ok (.getfield 17, 3) := by decide +kernel
theorem dX1_roomAt_25 : decode cX1_roomAt 25 = .ok (.iload_n 1, 1) := by decide +kernel
theorem dX1_roomAt_26 : decode cX1_roomAt 26 = .ok (.aaload, 1) := by decide +kernel
theorem dX1_roomAt_27 : decode cX1_roomAt 27 = .ok (.goto 4, 3) := by decide +kernel
theorem dX1_roomAt_30 : decode cX1_roomAt 30 = .ok (.aconst_null, 1) := by decide +kernel
theorem dX1_roomAt_31 : decode cX1_roomAt 31 = .ok (.areturn, 1) := by decide +kernel
theorem dX1_beginRoom_0 : decode cX1_beginRoom 0 = .ok (.aload_n 0, 1) := by decide +kernel
theorem dX1_beginRoom_1 : decode cX1_beginRoom 1 = .ok (.getfield 45, 3) := by decide +kernel
theorem dX1_beginRoom_4 : decode cX1_beginRoom 4 = .ok (.istore 5, 2) := by decide +kernel
theorem dX1_beginRoom_6 : decode cX1_beginRoom 6 = .ok (.aload_n 0, 1) := by decide +kernel
theorem dX1_beginRoom_7 : decode cX1_beginRoom 7 = .ok (.dup, 1) := by decide +kernel
theorem dX1_beginRoom_8 : decode cX1_beginRoom 8 = .ok (.getfield 45, 3) := by decide +kernel
theorem dX1_beginRoom_11 : decode cX1_beginRoom 11 = .ok (.iconst 1, 1) := by decide +kernel
theorem dX1_beginRoom_12 : decode cX1_beginRoom 12 = .ok (.iadd, 1) := by decide +kernel
theorem dX1_beginRoom_13 : decode cX1_beginRoom 13 = .ok (.putfield 45, 3) := by decide +kernel
theorem dX1_beginRoom_16 : decode cX1_beginRoom 16 = .ok (.aload_n 0, 1) := by decide +kernel
theorem dX1_beginRoom_17 : decode cX1_beginRoom 17 = .ok (.iload 5, 2) := by decide +kernel
theorem dX1_beginRoom_19 : decode cX1_beginRoom 19 = .ok (.invokevirtual 52, 3) := by decide +kernel
theorem dX1_beginRoom_22 : decode cX1_beginRoom 22 = .ok (.astore 6, 2) := by decide +kernel
theorem dX1_beginRoom_24 : decode cX1_beginRoom 24 = .ok (.aload 6, 2) := by decide +kernel
theorem dX1_beginRoom_26 : decode cX1_beginRoom 26 = .ok (.ifnull 13, 3) := by decide +kernel
theorem dX1_beginRoom_29 : decode cX1_beginRoom 29 = .ok (.aload 6, 2) := by decide +kernel
theorem dX1_beginRoom_31 : decode cX1_beginRoom 31 = .ok (.iload_n 1, 1) := by decide +kernel
theorem dX1_beginRoom_32 : decode cX1_beginRoom 32 = .ok (.iload_n 2, 1) := by decide +kernel
theorem dX1_beginRoom_33 : decode cX1_beginRoom 33 = .ok (.iload_n 3, 1) := by decide +kernel
theorem dX1_beginRoom_34 : decode cX1_beginRoom 34 = .ok (.iload 4, 2) := by decide +kernel
theorem dX1_beginRoom_36 : decode cX1_beginRoom 36 = .ok (.invokevirtual 59, 3) := by decide +kernel
theorem dX1_beginRoom_39 : decode cX1_beginRoom 39 = .ok (.iload 5, 2) := by decide +kernel
theorem dX1_beginRoom_41 : decode cX1_beginRoom 41 = .ok (.ireturn, 1) := by decide +kernel
theorem dX1_hasPair_0 : decode cX1_hasPair 0 = .ok (.iload_n 1, 1) := by decide +kernel
theorem dX1_hasPair_1 : decode cX1_hasPair 1 = .ok (.iload_n 2, 1) := by decide +kernel
theorem dX1_hasPair_2 : decode cX1_hasPair 2 = .ok (.if_icmp .eq 23, 3) := by decide +kernel
theorem dX1_hasPair_5 : decode cX1_hasPair 5 = .ok (.aload_n 0, 1) := by decide +kernel
theorem dX1_hasPair_6 : decode cX1_hasPair 6 = .ok (.iload_n 1, 1) := by decide +kernel
theorem dX1_hasPair_7 : decode cX1_hasPair 7 = .ok (.invokevirtual 52, 3) := by decide +kernel
theorem dX1_hasPair_10 : decode cX1_hasPair 10 = .ok (.ifnull 15, 3) := by decide +kernel
theorem dX1_hasPair_13 : decode cX1_hasPair 13 = .ok (.aload_n 0, 1) := by decide +kernel
theorem dX1_hasPair_14 : decode cX1_hasPair 14 = .ok (.iload_n 2, 1) := by decide +kernel
theorem dX1_hasPair_15 : decode cX1_hasPair 15 = .ok (.invokevirtual 52, 3) := by decide +kernel
theorem dX1_hasPair_18 : decode cX1_hasPair 18 = .ok (.ifnull 7, 3) := by decide +kernel
theorem dX1_hasPair_21 : decode cX1_hasPair 21 = .ok (.iconst 1, 1) := by decide +kernel
theorem dX1_hasPair_22 : decode cX1_hasPair 22 = .ok (.goto 4, 3) := by decide +kernel
theorem dX1_hasPair_25 : decode cX1_hasPair 25 = .ok (.iconst 0, 1) := by decide +kernel
theorem dX1_hasPair_26 : decode cX1_hasPair 26 = .ok (.ireturn, 1) := by decide +kernel
theorem dX1_linkOf_0 : decode cX1_linkOf 0 = .ok (.iload_n 1, 1) := by decide +kernel
theorem dX1_linkOf_1 : decode cX1_linkOf 1 = .ok (.iload_n 2, 1) := by decide +kernel
theorem dX1_linkOf_2 : decode cX1_linkOf 2 = .ok (.invokestatic 63, 3) := by decide +kernel
theorem dX1_linkOf_5 : decode cX1_linkOf 5 = .ok (.istore_n 3, 1) := by decide +kernel
theorem dX1_linkOf_6 : decode cX1_linkOf 6 = .ok (.iload_n 3, 1) := by decide +kernel
theorem dX1_linkOf_7 : decode cX1_linkOf 7 = .ok (.ifCond .lt 21, 3) := by decide +kernel
theorem dX1_linkOf_10 : decode cX1_linkOf 10 = .ok (.iload_n 3, 1) := by decide +kernel
theorem dX1_linkOf_11 : decode cX1_linkOf 11 = .ok (.aload_n 0, 1) := by decide +kernel
theorem dX1_linkOf_12 : decode cX1_linkOf 12 = .ok (.getfield 21, 3) := by decide +kernel
theorem dX1_linkOf_15 : decode cX1_linkOf 15 = .ok (.arraylength, 1) := by decide +kernel
theorem dX1_linkOf_16 : decode cX1_linkOf 16 = .ok (.if_icmp .ge 12, 3) := by decide +kernel
theorem dX1_linkOf_19 : decode cX1_linkOf 19 = .ok (.aload_n 0, 1) := by decide +kernel
theorem dX1_linkOf_20 : decode cX1_linkOf 20 = .ok (.getfield 21, 3) := by decide +kernel
theorem dX1_linkOf_23 : decode cX1_linkOf 23 = .ok (.iload_n 3, 1) := by decide +kernel
theorem dX1_linkOf_24 : decode cX1_linkOf 24 = .ok (.iaload, 1) := by decide +kernel
theorem dX1_linkOf_25 : decode cX1_linkOf 25 = .ok (.goto 4, 3) := by decide +kernel
theorem dX1_linkOf_28 : decode cX1_linkOf 28 = .ok (.iconst 0, 1) := by decide +kernel
theorem dX1_linkOf_29 : decode cX1_linkOf 29 = .ok (.ireturn, 1) := by decide +kernel
theorem dX1_putLink_0 : decode cX1_putLink 0 = .ok (.aload_n 0, 1) := by decide +kernel
theorem dX1_putLink_1 : decode cX1_putLink 1 = .ok (.iload_n 1, 1) := by decide +kernel
theorem dX1_putLink_2 : decode cX1_putLink 2 = .ok (.iload_n 2, 1) := by decide +kernel
theorem dX1_putLink_3 : decode cX1_putLink 3 = .ok (.invokestatic 63, 3) := by decide +kernel
theorem dX1_putLink_6 : decode cX1_putLink 6 = .ok (.iload_n 3, 1) := by decide +kernel
theorem dX1_putLink_7 : decode cX1_putLink 7 = .ok (.invokevirtual 67, 3) := by decide +kernel
theorem dX1_putLink_10 : decode cX1_putLink 10 = .ok (.aload_n 0, 1) := by decide +kernel
theorem dX1_putLink_11 : decode cX1_putLink 11 = .ok (.iload_n 2, 1) := by decide +kernel
theorem dX1_putLink_12 : decode cX1_putLink 12 = .ok (.iload_n 1, 1) := by decide +kernel
theorem dX1_putLink_13 : decode cX1_putLink 13 = .ok (.invokestatic 63, 3) := by decide +kernel
theorem dX1_putLink_16 : decode cX1_putLink 16 = .ok (.iload_n 3, 1) := by decide +kernel
theorem dX1_putLink_17 : decode cX1_putLink 17 = .ok (.invokevirtual 67, 3) := by decide +kernel
theorem dX1_putLink_20 : decode cX1_putLink 20 = .ok (.return_, 1) := by decide +kernel
theorem dX1_putLinkAt_0 : decode cX1_putLinkAt 0 = .ok (.iload_n 1, 1) := by decide +kernel
theorem dX1_putLinkAt_1 : decode cX1_putLinkAt 1 = .ok (.ifCond .lt 19, 3) := by decide +kernel
theorem dX1_putLinkAt_4 : decode cX1_putLinkAt 4 = .ok (.iload_n 1, 1) := by decide +kernel
theorem dX1_putLinkAt_5 : decode cX1_putLinkAt 5 = .ok (.aload_n 0, 1) := by decide +kernel
theorem dX1_putLinkAt_6 : decode cX1_putLinkAt 6 = .ok (.getfield 21, 3) := by decide +kernel
theorem dX1_putLinkAt_9 : decode cX1_putLinkAt 9 = .ok (.arraylength, 1) := by decide +kernel
theorem dX1_putLinkAt_10 : decode cX1_putLinkAt 10 = .ok (.if_icmp .ge 10, 3) := by decide +kernel
theorem dX1_putLinkAt_13 : decode cX1_putLinkAt 13 = .ok (.aload_n 0, 1) := by decide +kernel
theorem dX1_putLinkAt_14 : decode cX1_putLinkAt 14 = .ok (.getfield 21, 3) := by decide +kernel
theorem dX1_putLinkAt_17 : decode cX1_putLinkAt 17 = .ok (.iload_n 1, 1) := by decide +kernel
theorem dX1_putLinkAt_18 : decode cX1_putLinkAt 18 = .ok (.iload_n 2, 1) := by decide +kernel
theorem dX1_putLinkAt_19 : decode cX1_putLinkAt 19 = .ok (.iastore, 1) := by decide +kernel
theorem dX1_putLinkAt_20 : decode cX1_putLinkAt 20 = .ok (.return_, 1) := by decide +kernel
theorem dX1_linkPlace_0 : decode cX1_linkPlace 0 = .ok (.iload_n 0, 1) := by decide +kernel
theorem dX1_linkPlace_1 : decode cX1_linkPlace 1 = .ok (.bipush 6, 2) := by decide +kernel
theorem dX1_linkPlace_3 : decode cX1_linkPlace 3 = .ok (.imul, 1) := by decide +kernel
theorem dX1_linkPlace_4 : decode cX1_linkPlace 4 = .ok (.iload_n 1, 1) := by decide +kernel
theorem dX1_linkPlace_5 : decode cX1_linkPlace 5 = .ok (.iadd, 1) := by decide +kernel
theorem dX1_linkPlace_6 : decode cX1_linkPlace 6 = .ok (.ireturn, 1) := by decide +kernel
theorem dX1_canCarry_0 : decode cX1_canCarry 0 = .ok (.aload_n 0, 1) := by decide +kernel
theorem dX1_canCarry_1 : decode cX1_canCarry 1 = .ok (.iload_n 1, 1) := by decide +kernel
theorem dX1_canCarry_2 : decode cX1_canCarry 2 = .ok (.invokevirtual 52, 3) := by decide +kernel
theorem dX1_canCarry_5 : decode cX1_canCarry 5 = .ok (.astore_n 3, 1) := by decide +kernel
theorem dX1_canCarry_6 : decode cX1_canCarry 6 = .ok (.aload_n 3, 1) := by decide +kernel
theorem dX1_canCarry_7 : decode cX1_canCarry 7 = .ok (.ifnonnull 5, 3) := by decide +kernel
theorem dX1_canCarry_10 : decode cX1_canCarry 10 = .ok (.iconst 0, 1) := by decide +kernel
theorem dX1_canCarry_11 : decode cX1_canCarry 11 = .ok (.ireturn, 1) := by decide +kernel
theorem dX1_canCarry_12 : decode cX1_canCarry 12 = .ok (.aload_n 3, 1) := by decide +kernel
theorem dX1_canCarry_13 : decode cX1_canCarry 13 = .ok (.getfield 71, 3) := by decide +kernel
theorem dX1_canCarry_16 : decode cX1_canCarry 16 = .ok (.iload_n 2, 1) := by decide +kernel
theorem dX1_canCarry_17 : decode cX1_canCarry 17 = .ok (.iadd, 1) := by decide +kernel
theorem dX1_canCarry_18 : decode cX1_canCarry 18 = .ok (.istore 4, 2) := by decide +kernel
theorem dX1_canCarry_20 : decode cX1_canCarry 20 = .ok (.iconst 0, 1) := by decide +kernel
theorem dX1_canCarry_21 : decode cX1_canCarry 21 = .ok (.istore 5, 2) := by decide +kernel
theorem dX1_canCarry_23 : decode cX1_canCarry 23 = .ok (.iload 5, 2) := by decide +kernel
theorem dX1_canCarry_25 : decode cX1_canCarry 25 = .ok (.aload_n 0, 1) := by decide +kernel
theorem dX1_canCarry_26 : decode cX1_canCarry 26 = .ok (.getfield 45, 3) := by decide +kernel
theorem dX1_canCarry_29 : decode cX1_canCarry 29 = .ok (.if_icmp .ge 21, 3) := by decide +kernel
theorem dX1_canCarry_32 : decode cX1_canCarry 32 = .ok (.iload 4, 2) := by decide +kernel
theorem dX1_canCarry_34 : decode cX1_canCarry 34 = .ok (.aload_n 0, 1) := by decide +kernel
theorem dX1_canCarry_35 : decode cX1_canCarry 35 = .ok (.iload_n 1, 1) := by decide +kernel
theorem dX1_canCarry_36 : decode cX1_canCarry 36 = .ok (.iload 5, 2) := by decide +kernel
theorem dX1_canCarry_38 : decode cX1_canCarry 38 = .ok (.invokevirtual 74, 3) := by decide +kernel
theorem dX1_canCarry_41 : decode cX1_canCarry 41 = .ok (.iadd, 1) := by decide +kernel
theorem dX1_canCarry_42 : decode cX1_canCarry 42 = .ok (.istore 4, 2) := by decide +kernel
theorem dX1_canCarry_44 : decode cX1_canCarry 44 = .ok (.iinc 5 1, 3) := by decide +kernel
theorem dX1_canCarry_47 : decode cX1_canCarry 47 = .ok (.goto (-24), 3) := by decide +kernel
theorem dX1_canCarry_50 : decode cX1_canCarry 50 = .ok (.iload 4, 2) := by decide +kernel
theorem dX1_canCarry_52 : decode cX1_canCarry 52 = .ok (.aload_n 3, 1) := by decide +kernel
theorem dX1_canCarry_53 : decode cX1_canCarry 53 = .ok (.getfield 77, 3) := by decide +kernel
theorem dX1_canCarry_56 : decode cX1_canCarry 56 = .ok (.iconst 2, 1) := by decide +kernel
theorem dX1_canCarry_57 : decode cX1_canCarry 57 = .ok (.idiv, 1) := by decide +kernel
theorem dX1_canCarry_58 : decode cX1_canCarry 58 = .ok (.if_icmp .gt 7, 3) := by decide +kernel
theorem dX1_canCarry_61 : decode cX1_canCarry 61 = .ok (.iconst 1, 1) := by decide +kernel
theorem dX1_canCarry_62 : decode cX1_canCarry 62 = .ok (.goto 4, 3) := by decide +kernel
theorem dX1_canCarry_65 : decode cX1_canCarry 65 = .ok (.iconst 0, 1) := by decide +kernel
theorem dX1_canCarry_66 : decode cX1_canCarry 66 = .ok (.ireturn, 1) := by decide +kernel
theorem dX1_isSuspect_0 : decode cX1_isSuspect 0 = .ok (.aload_n 1, 1) := by decide +kernel
theorem dX1_isSuspect_1 : decode cX1_isSuspect 1 = .ok (.getfield 80, 3) := by decide +kernel
theorem dX1_isSuspect_4 : decode cX1_isSuspect 4 = .ok (.aload_n 0, 1) := by decide +kernel
theorem dX1_isSuspect_5 : decode cX1_isSuspect 5 = .ok (.bipush 6, 2) := by decide +kernel
theorem dX1_isSuspect_7 : decode cX1_isSuspect 7 = .ok (.invokevirtual 83, 3) := by decide +kernel
theorem dX1_isSuspect_10 : decode cX1_isSuspect 10 = .ok (.if_icmp .lt 7, 3) := by decide +kernel
theorem dX1_isSuspect_13 : decode cX1_isSuspect 13 = .ok (.iconst 1, 1) := by decide +kernel
theorem dX1_isSuspect_14 : decode cX1_isSuspect 14 = .ok (.goto 4, 3) := by decide +kernel
theorem dX1_isSuspect_17 : decode cX1_isSuspect 17 = .ok (.iconst 0, 1) := by decide +kernel
theorem dX1_isSuspect_18 : decode cX1_isSuspect 18 = .ok (.ireturn, 1) := by decide +kernel
theorem dX1_suspectRooms_0 : decode cX1_suspectRooms 0 = .ok (.iconst 0, 1) := by decide +kernel
theorem dX1_suspectRooms_1 : decode cX1_suspectRooms 1 = .ok (.istore_n 1, 1) := by decide +kernel
theorem dX1_suspectRooms_2 : decode cX1_suspectRooms 2 = .ok (.iconst 0, 1) := by decide +kernel
theorem dX1_suspectRooms_3 : decode cX1_suspectRooms 3 = .ok (.istore_n 2, 1) := by decide +kernel
theorem dX1_suspectRooms_4 : decode cX1_suspectRooms 4 = .ok (.iload_n 2, 1) := by decide +kernel
theorem dX1_suspectRooms_5 : decode cX1_suspectRooms 5 = .ok (.aload_n 0, 1) := by decide +kernel
theorem dX1_suspectRooms_6 : decode cX1_suspectRooms 6 = .ok (.getfield 45, 3) := by decide +kernel
theorem dX1_suspectRooms_9 : decode cX1_suspectRooms 9 = .ok (.if_icmp .ge 35, 3) := by decide +kernel
theorem dX1_suspectRooms_12 : decode cX1_suspectRooms 12 = .ok (.aload_n 0, 1) := by decide +kernel
theorem dX1_suspectRooms_13 : decode cX1_suspectRooms 13 = .ok (.iload_n 2, 1) := by decide +kernel
theorem dX1_suspectRooms_14 : decode cX1_suspectRooms 14 = .ok (.invokevirtual 52, 3) := by decide +kernel
theorem dX1_suspectRooms_17 : decode cX1_suspectRooms 17 = .ok (.astore_n 3, 1) := by decide +kernel
theorem dX1_suspectRooms_18 : decode cX1_suspectRooms 18 = .ok (.iload_n 1, 1) := by decide +kernel
theorem dX1_suspectRooms_19 : decode cX1_suspectRooms 19 = .ok (.aload_n 3, 1) := by decide +kernel
theorem dX1_suspectRooms_20 : decode cX1_suspectRooms 20 = .ok (.ifnull 15, 3) := by decide +kernel
theorem dX1_suspectRooms_23 : decode cX1_suspectRooms 23 = .ok (.aload_n 0, 1) := by decide +kernel
theorem dX1_suspectRooms_24 : decode cX1_suspectRooms 24 = .ok (.aload_n 3, 1) := by decide +kernel
theorem dX1_suspectRooms_25 : decode cX1_suspectRooms 25 = .ok (.invokevirtual 87, 3) := by decide +kernel
theorem dX1_suspectRooms_28 : decode cX1_suspectRooms 28 = .ok (.ifCond .eq 7, 3) := by decide +kernel
theorem dX1_suspectRooms_31 : decode cX1_suspectRooms 31 = .ok (.iconst 1, 1) := by decide +kernel
theorem dX1_suspectRooms_32 : decode cX1_suspectRooms 32 = .ok (.goto 4, 3) := by decide +kernel
theorem dX1_suspectRooms_35 : decode cX1_suspectRooms 35 = .ok (.iconst 0, 1) := by decide +kernel
theorem dX1_suspectRooms_36 : decode cX1_suspectRooms 36 = .ok (.iadd, 1) := by decide +kernel
theorem dX1_suspectRooms_37 : decode cX1_suspectRooms 37 = .ok (.istore_n 1, 1) := by decide +kernel
theorem dX1_suspectRooms_38 : decode cX1_suspectRooms 38 = .ok (.iinc 2 1, 3) := by decide +kernel
theorem dX1_suspectRooms_41 : decode cX1_suspectRooms 41 = .ok (.goto (-37), 3) := by decide +kernel
theorem dX1_suspectRooms_44 : decode cX1_suspectRooms 44 = .ok (.iload_n 1, 1) := by decide +kernel
theorem dX1_suspectRooms_45 : decode cX1_suspectRooms 45 = .ok (.ireturn, 1) := by decide +kernel
theorem dX1_allFines_0 : decode cX1_allFines 0 = .ok (.iconst 0, 1) := by decide +kernel
theorem dX1_allFines_1 : decode cX1_allFines 1 = .ok (.istore_n 1, 1) := by decide +kernel
theorem dX1_allFines_2 : decode cX1_allFines 2 = .ok (.iconst 0, 1) := by decide +kernel
theorem dX1_allFines_3 : decode cX1_allFines 3 = .ok (.istore_n 2, 1) := by decide +kernel
theorem dX1_allFines_4 : decode cX1_allFines 4 = .ok (.iload_n 2, 1) := by decide +kernel
theorem dX1_allFines_5 : decode cX1_allFines 5 = .ok (.aload_n 0, 1) := by decide +kernel
theorem dX1_allFines_6 : decode cX1_allFines 6 = .ok (.getfield 45, 3) := by decide +kernel
theorem dX1_allFines_9 : decode cX1_allFines 9 = .ok (.if_icmp .ge 30, 3) := by decide +kernel
theorem dX1_allFines_12 : decode cX1_allFines 12 = .ok (.aload_n 0, 1) := by decide +kernel
theorem dX1_allFines_13 : decode cX1_allFines 13 = .ok (.iload_n 2, 1) := by decide +kernel
theorem dX1_allFines_14 : decode cX1_allFines 14 = .ok (.invokevirtual 52, 3) := by decide +kernel
theorem dX1_allFines_17 : decode cX1_allFines 17 = .ok (.astore_n 3, 1) := by decide +kernel
theorem dX1_allFines_18 : decode cX1_allFines 18 = .ok (.iload_n 1, 1) := by decide +kernel
theorem dX1_allFines_19 : decode cX1_allFines 19 = .ok (.aload_n 3, 1) := by decide +kernel
theorem dX1_allFines_20 : decode cX1_allFines 20 = .ok (.ifnull 10, 3) := by decide +kernel
theorem dX1_allFines_23 : decode cX1_allFines 23 = .ok (.aload_n 3, 1) := by decide +kernel
theorem dX1_allFines_24 : decode cX1_allFines 24 = .ok (.getfield 91, 3) := by decide +kernel
theorem dX1_allFines_27 : decode cX1_allFines 27 = .ok (.goto 4, 3) := by decide +kernel
theorem dX1_allFines_30 : decode cX1_allFines 30 = .ok (.iconst 0, 1) := by decide +kernel
theorem dX1_allFines_31 : decode cX1_allFines 31 = .ok (.iadd, 1) := by decide +kernel
theorem dX1_allFines_32 : decode cX1_allFines 32 = .ok (.istore_n 1, 1) := by decide +kernel
theorem dX1_allFines_33 : decode cX1_allFines 33 = .ok (.iinc 2 1, 3) := by decide +kernel
theorem dX1_allFines_36 : decode cX1_allFines 36 = .ok (.goto (-32), 3) := by decide +kernel
theorem dX1_allFines_39 : decode cX1_allFines 39 = .ok (.iload_n 1, 1) := by decide +kernel
theorem dX1_allFines_40 : decode cX1_allFines 40 = .ok (.ireturn, 1) := by decide +kernel
theorem dX1_heatFromHeaters_0 : decode cX1_heatFromHeaters 0 = .ok (.iconst 0, 1) := by decide +kernel
theorem dX1_heatFromHeaters_1 : decode cX1_heatFromHeaters 1 = .ok (.istore_n 1, 1) := by decide +kernel
theorem dX1_heatFromHeaters_2 : decode cX1_heatFromHeaters 2 = .ok (.iconst 0, 1) := by decide +kernel
theorem dX1_heatFromHeaters_3 : decode cX1_heatFromHeaters 3 = .ok (.istore_n 2, 1) := by decide +kernel
theorem dX1_heatFromHeaters_4 : decode cX1_heatFromHeaters 4 = .ok (.iload_n 2, 1) := by decide +kernel
theorem dX1_heatFromHeaters_5 : decode cX1_heatFromHeaters 5 = .ok (.aload_n 0, 1) := by decide +kernel
theorem dX1_heatFromHeaters_6 : decode cX1_heatFromHeaters 6 = .ok (.getfield 45, 3) := by decide +kernel
theorem dX1_heatFromHeaters_9 : decode cX1_heatFromHeaters 9 = .ok (.if_icmp .ge 33, 3) := by decide +kernel
theorem dX1_heatFromHeaters_12 : decode cX1_heatFromHeaters 12 = .ok (.aload_n 0, 1) := by decide +kernel
theorem dX1_heatFromHeaters_13 : decode cX1_heatFromHeaters 13 = .ok (.iload_n 2, 1) := by decide +kernel
theorem dX1_heatFromHeaters_14 : decode cX1_heatFromHeaters 14 = .ok (.invokevirtual 52, 3) := by decide +kernel
theorem dX1_heatFromHeaters_17 : decode cX1_heatFromHeaters 17 = .ok (.astore_n 3, 1) := by decide +kernel
theorem dX1_heatFromHeaters_18 : decode cX1_heatFromHeaters 18 = .ok (.iload_n 1, 1) := by decide +kernel
theorem dX1_heatFromHeaters_19 : decode cX1_heatFromHeaters 19 = .ok (.aload_n 3, 1) := by decide +kernel
theorem dX1_heatFromHeaters_20 : decode cX1_heatFromHeaters 20 = .ok (.ifnull 13, 3) := by decide +kernel
theorem dX1_heatFromHeaters_23 : decode cX1_heatFromHeaters 23 = .ok (.aload_n 3, 1) := by decide +kernel
theorem dX1_heatFromHeaters_24 : decode cX1_heatFromHeaters 24 = .ok (.getfield 94, 3) := by decide +kernel
theorem dX1_heatFromHeaters_27 : decode cX1_heatFromHeaters 27 = .ok (.getfield 98, 3) := by decide +kernel
theorem dX1_heatFromHeaters_30 : decode cX1_heatFromHeaters 30 = .ok (.goto 4, 3) := by decide +kernel
theorem dX1_heatFromHeaters_33 : decode cX1_heatFromHeaters 33 = .ok (.iconst 0, 1) := by decide +kernel
theorem dX1_heatFromHeaters_34 : decode cX1_heatFromHeaters 34 = .ok (.iadd, 1) := by decide +kernel
theorem dX1_heatFromHeaters_35 : decode cX1_heatFromHeaters 35 = .ok (.istore_n 1, 1) := by decide +kernel
theorem dX1_heatFromHeaters_36 : decode cX1_heatFromHeaters 36 = .ok (.iinc 2 1, 3) := by decide +kernel
theorem dX1_heatFromHeaters_39 : decode cX1_heatFromHeaters 39 = .ok (.goto (-35), 3) := by decide +kernel
theorem dX1_heatFromHeaters_42 : decode cX1_heatFromHeaters 42 = .ok (.iload_n 1, 1) := by decide +kernel
theorem dX1_heatFromHeaters_43 : decode cX1_heatFromHeaters 43 = .ok (.ireturn, 1) := by decide +kernel
theorem dX1_passMinutes_0 : decode cX1_passMinutes 0 = .ok (.iconst 0, 1) := by decide +kernel
theorem dX1_passMinutes_1 : decode cX1_passMinutes 1 = .ok (.istore_n 2, 1) := by decide +kernel
theorem dX1_passMinutes_2 : decode cX1_passMinutes 2 = .ok (.iconst 0, 1) := by decide +kernel
theorem dX1_passMinutes_3 : decode cX1_passMinutes 3 = .ok (.istore_n 3, 1) := by decide +kernel
theorem dX1_passMinutes_4 : decode cX1_passMinutes 4 = .ok (.iload_n 3, 1) := by decide +kernel
theorem dX1_passMinutes_5 : decode cX1_passMinutes 5 = .ok (.iload_n 1, 1) := by decide +kernel
theorem dX1_passMinutes_6 : decode cX1_passMinutes 6 = .ok (.if_icmp .ge 16, 3) := by decide +kernel
theorem dX1_passMinutes_9 : decode cX1_passMinutes 9 = .ok (.iload_n 2, 1) := by decide +kernel
theorem dX1_passMinutes_10 : decode cX1_passMinutes 10 = .ok (.aload_n 0, 1) := by decide +kernel
theorem dX1_passMinutes_11 : decode cX1_passMinutes 11 = .ok (.invokevirtual 103, 3) := by decide +kernel
theorem dX1_passMinutes_14 : decode cX1_passMinutes 14 = .ok (.iadd, 1) := by decide +kernel
theorem dX1_passMinutes_15 : decode cX1_passMinutes 15 = .ok (.istore_n 2, 1) := by decide +kernel
theorem dX1_passMinutes_16 : decode cX1_passMinutes 16 = .ok (.iinc 3 1, 3) := by decide +kernel
theorem dX1_passMinutes_19 : decode cX1_passMinutes 19 = .ok (.goto (-15), 3) := by decide +kernel
theorem dX1_passMinutes_22 : decode cX1_passMinutes 22 = .ok (.iload_n 2, 1) := by decide +kernel
theorem dX1_passMinutes_23 : decode cX1_passMinutes 23 = .ok (.ireturn, 1) := by decide +kernel
theorem dX1_passMinute_0 : decode cX1_passMinute 0 = .ok (.aload_n 0, 1) := by decide +kernel
theorem dX1_passMinute_1 : decode cX1_passMinute 1 = .ok (.invokevirtual 107, 3) := by decide +kernel
theorem dX1_passMinute_4 : decode cX1_passMinute 4 = .ok (.aload_n 0, 1) := by decide +kernel
theorem dX1_passMinute_5 : decode cX1_passMinute 5 = .ok (.invokevirtual 110, 3) := by decide +kernel
theorem dX1_passMinute_8 : decode cX1_passMinute 8 = .ok (.iconst 0, 1) := by decide +kernel
theorem dX1_passMinute_9 : decode cX1_passMinute 9 = .ok (.istore_n 1, 1) := by decide +kernel
theorem dX1_passMinute_10 : decode cX1_passMinute 10 = .ok (.iconst 0, 1) := by decide +kernel
theorem dX1_passMinute_11 : decode cX1_passMinute 11 = .ok (.istore_n 2, 1) := by decide +kernel
theorem dX1_passMinute_12 : decode cX1_passMinute 12 = .ok (.iload_n 2, 1) := by decide +kernel
theorem dX1_passMinute_13 : decode cX1_passMinute 13 = .ok (.aload_n 0, 1) := by decide +kernel
theorem dX1_passMinute_14 : decode cX1_passMinute 14 = .ok (.getfield 45, 3) := by decide +kernel
theorem dX1_passMinute_17 : decode cX1_passMinute 17 = .ok (.if_icmp .ge 30, 3) := by decide +kernel
theorem dX1_passMinute_20 : decode cX1_passMinute 20 = .ok (.aload_n 0, 1) := by decide +kernel
theorem dX1_passMinute_21 : decode cX1_passMinute 21 = .ok (.iload_n 2, 1) := by decide +kernel
theorem dX1_passMinute_22 : decode cX1_passMinute 22 = .ok (.invokevirtual 52, 3) := by decide +kernel
theorem dX1_passMinute_25 : decode cX1_passMinute 25 = .ok (.astore_n 3, 1) := by decide +kernel
theorem dX1_passMinute_26 : decode cX1_passMinute 26 = .ok (.aload_n 3, 1) := by decide +kernel
theorem dX1_passMinute_27 : decode cX1_passMinute 27 = .ok (.ifnull 14, 3) := by decide +kernel
theorem dX1_passMinute_30 : decode cX1_passMinute 30 = .ok (.aload_n 0, 1) := by decide +kernel
theorem dX1_passMinute_31 : decode cX1_passMinute 31 = .ok (.aload_n 3, 1) := by decide +kernel
theorem dX1_passMinute_32 : decode cX1_passMinute 32 = .ok (.invokevirtual 113, 3) := by decide +kernel
theorem dX1_passMinute_35 : decode cX1_passMinute 35 = .ok (.ifCond .eq 6, 3) := by decide +kernel
theorem dX1_passMinute_38 : decode cX1_passMinute 38 = .ok (.iinc 1 1, 3) := by decide +kernel
theorem dX1_passMinute_41 : decode cX1_passMinute 41 = .ok (.iinc 2 1, 3) := by decide +kernel
theorem dX1_passMinute_44 : decode cX1_passMinute 44 = .ok (.goto (-32), 3) := by decide +kernel
theorem dX1_passMinute_47 : decode cX1_passMinute 47 = .ok (.aload_n 0, 1) := by decide +kernel
theorem dX1_passMinute_48 : decode cX1_passMinute 48 = .ok (.dup, 1) := by decide +kernel
theorem dX1_passMinute_49 : decode cX1_passMinute 49 = .ok (.getfield 49, 3) := by decide +kernel
theorem dX1_passMinute_52 : decode cX1_passMinute 52 = .ok (.iconst 1, 1) := by decide +kernel
theorem dX1_passMinute_53 : decode cX1_passMinute 53 = .ok (.iadd, 1) := by decide +kernel
theorem dX1_passMinute_54 : decode cX1_passMinute 54 = .ok (.putfield 49, 3) := by decide +kernel
theorem dX1_passMinute_57 : decode cX1_passMinute 57 = .ok (.iload_n 1, 1) := by decide +kernel
theorem dX1_passMinute_58 : decode cX1_passMinute 58 = .ok (.ireturn, 1) := by decide +kernel
theorem dX1_heatRooms_0 : decode cX1_heatRooms 0 = .ok (.aload_n 0, 1) := by decide +kernel
theorem dX1_heatRooms_1 : decode cX1_heatRooms 1 = .ok (.getfield 27, 3) := by decide +kernel
theorem dX1_heatRooms_4 : decode cX1_heatRooms 4 = .ok (.aload_n 0, 1) := by decide +kernel
theorem dX1_heatRooms_5 : decode cX1_heatRooms 5 = .ok (.getfield 49, 3) := by decide +kernel
theorem dX1_heatRooms_8 : decode cX1_heatRooms 8 = .ok (.invokevirtual 116, 3) := by decide +kernel
theorem dX1_heatRooms_11 : decode cX1_heatRooms 11 = .ok (.istore_n 1, 1) := by decide +kernel
theorem dX1_heatRooms_12 : decode cX1_heatRooms 12 = .ok (.iconst 0, 1) := by decide +kernel
theorem dX1_heatRooms_13 : decode cX1_heatRooms 13 = .ok (.istore_n 2, 1) := by decide +kernel
theorem dX1_heatRooms_14 : decode cX1_heatRooms 14 = .ok (.iload_n 2, 1) := by decide +kernel
theorem dX1_heatRooms_15 : decode cX1_heatRooms 15 = .ok (.aload_n 0, 1) := by decide +kernel
theorem dX1_heatRooms_16 : decode cX1_heatRooms 16 = .ok (.getfield 45, 3) := by decide +kernel
theorem dX1_heatRooms_19 : decode cX1_heatRooms 19 = .ok (.if_icmp .ge 24, 3) := by decide +kernel
theorem dX1_heatRooms_22 : decode cX1_heatRooms 22 = .ok (.aload_n 0, 1) := by decide +kernel
theorem dX1_heatRooms_23 : decode cX1_heatRooms 23 = .ok (.iload_n 2, 1) := by decide +kernel
theorem dX1_heatRooms_24 : decode cX1_heatRooms 24 = .ok (.invokevirtual 52, 3) := by decide +kernel
theorem dX1_heatRooms_27 : decode cX1_heatRooms 27 = .ok (.astore_n 3, 1) := by decide +kernel
theorem dX1_heatRooms_28 : decode cX1_heatRooms 28 = .ok (.aload_n 3, 1) := by decide +kernel
theorem dX1_heatRooms_29 : decode cX1_heatRooms 29 = .ok (.ifnull 8, 3) := by decide +kernel
theorem dX1_heatRooms_32 : decode cX1_heatRooms 32 = .ok (.aload_n 3, 1) := by decide +kernel
theorem dX1_heatRooms_33 : decode cX1_heatRooms 33 = .ok (.iload_n 1, 1) := by decide +kernel
theorem dX1_heatRooms_34 : decode cX1_heatRooms 34 = .ok (.invokevirtual 119, 3) := by decide +kernel
theorem dX1_heatRooms_37 : decode cX1_heatRooms 37 = .ok (.iinc 2 1, 3) := by decide +kernel
theorem dX1_heatRooms_40 : decode cX1_heatRooms 40 = .ok (.goto (-26), 3) := by decide +kernel
theorem dX1_heatRooms_43 : decode cX1_heatRooms 43 = .ok (.return_, 1) := by decide +kernel
theorem dX1_exchangeHeat_0 : decode cX1_exchangeHeat 0 = .ok (.iconst 0, 1) := by decide +kernel
theorem dX1_exchangeHeat_1 : decode cX1_exchangeHeat 1 = .ok (.istore_n 1, 1) := by decide +kernel
theorem dX1_exchangeHeat_2 : decode cX1_exchangeHeat 2 = .ok (.iload_n 1, 1) := by decide +kernel
theorem dX1_exchangeHeat_3 : decode cX1_exchangeHeat 3 = .ok (.aload_n 0, 1) := by decide +kernel
theorem dX1_exchangeHeat_4 : decode cX1_exchangeHeat 4 = .ok (.getfield 45, 3) := by decide +kernel
theorem dX1_exchangeHeat_7 : decode cX1_exchangeHeat 7 = .ok (.if_icmp .ge 90, 3) := by decide +kernel
theorem dX1_exchangeHeat_10 : decode cX1_exchangeHeat 10 = .ok (.iload_n 1, 1) := by decide +kernel
theorem dX1_exchangeHeat_11 : decode cX1_exchangeHeat 11 = .ok (.iconst 1, 1) := by decide +kernel
theorem dX1_exchangeHeat_12 : decode cX1_exchangeHeat 12 = .ok (.iadd, 1) := by decide +kernel
theorem dX1_exchangeHeat_13 : decode cX1_exchangeHeat 13 = .ok (.istore_n 2, 1) := by decide +kernel
theorem dX1_exchangeHeat_14 : decode cX1_exchangeHeat 14 = .ok (.iload_n 2, 1) := by decide +kernel
theorem dX1_exchangeHeat_15 : decode cX1_exchangeHeat 15 = .ok (.aload_n 0, 1) := by decide +kernel
theorem dX1_exchangeHeat_16 : decode cX1_exchangeHeat 16 = .ok (.getfield 45, 3) := by decide +kernel
theorem dX1_exchangeHeat_19 : decode cX1_exchangeHeat 19 = .ok (.if_icmp .ge 72, 3) := by decide +kernel
theorem dX1_exchangeHeat_22 : decode cX1_exchangeHeat 22 = .ok (.aload_n 0, 1) := by decide +kernel
theorem dX1_exchangeHeat_23 : decode cX1_exchangeHeat 23 = .ok (.iload_n 1, 1) := by decide +kernel
theorem dX1_exchangeHeat_24 : decode cX1_exchangeHeat 24 = .ok (.invokevirtual 52, 3) := by decide +kernel
theorem dX1_exchangeHeat_27 : decode cX1_exchangeHeat 27 = .ok (.astore_n 3, 1) := by decide +kernel
theorem dX1_exchangeHeat_28 : decode cX1_exchangeHeat 28 = .ok (.aload_n 0, 1) := by decide +kernel
theorem dX1_exchangeHeat_29 : decode cX1_exchangeHeat 29 = .ok (.iload_n 2, 1) := by decide +kernel
theorem dX1_exchangeHeat_30 : decode cX1_exchangeHeat 30 = .ok (.invokevirtual 52, 3) := by decide +kernel
theorem dX1_exchangeHeat_33 : decode cX1_exchangeHeat 33 = .ok (.astore 4, 2) := by decide +kernel
theorem dX1_exchangeHeat_35 : decode cX1_exchangeHeat 35 = .ok (.aload_n 3, 1) := by decide +kernel
theorem dX1_exchangeHeat_36 : decode cX1_exchangeHeat 36 = .ok (.ifnull 49, 3) := by decide +kernel
theorem dX1_exchangeHeat_39 : decode cX1_exchangeHeat 39 = .ok (.aload 4, 2) := by decide +kernel
theorem dX1_exchangeHeat_41 : decode cX1_exchangeHeat 41 = .ok (.ifnull 44, 3) := by decide +kernel
theorem dX1_exchangeHeat_44 : decode cX1_exchangeHeat 44 = .ok (.aload_n 3, 1) := by decide +kernel
theorem dX1_exchangeHeat_45 : decode cX1_exchangeHeat 45 = .ok (.getfield 123, 3) := by decide +kernel
theorem dX1_exchangeHeat_48 : decode cX1_exchangeHeat 48 = .ok (.aload 4, 2) := by decide +kernel
theorem dX1_exchangeHeat_50 : decode cX1_exchangeHeat 50 = .ok (.getfield 123, 3) := by decide +kernel
theorem dX1_exchangeHeat_53 : decode cX1_exchangeHeat 53 = .ok (.isub, 1) := by decide +kernel
theorem dX1_exchangeHeat_54 : decode cX1_exchangeHeat 54 = .ok (.istore 5, 2) := by decide +kernel
theorem dX1_exchangeHeat_56 : decode cX1_exchangeHeat 56 = .ok (.aload_n 0, 1) := by decide +kernel
theorem dX1_exchangeHeat_57 : decode cX1_exchangeHeat 57 = .ok (.iload_n 1, 1) := by decide +kernel
theorem dX1_exchangeHeat_58 : decode cX1_exchangeHeat 58 = .ok (.iload_n 2, 1) := by decide +kernel
theorem dX1_exchangeHeat_59 : decode cX1_exchangeHeat 59 = .ok (.invokevirtual 74, 3) := by decide +kernel
theorem dX1_exchangeHeat_62 : decode cX1_exchangeHeat 62 = .ok (.iload 5, 2) := by decide +kernel
theorem dX1_exchangeHeat_64 : decode cX1_exchangeHeat 64 = .ok (.imul, 1) := by decide +kernel
theorem dX1_exchangeHeat_65 : decode cX1_exchangeHeat 65 = .ok (.sipush 1000, 3) := by decide +kernel
theorem dX1_exchangeHeat_68 : decode cX1_exchangeHeat 68 = .ok (.idiv, 1) := by decide +kernel
theorem dX1_exchangeHeat_69 : decode cX1_exchangeHeat 69 = .ok (.istore 6, 2) := by decide +kernel
theorem dX1_exchangeHeat_71 : decode cX1_exchangeHeat 71 = .ok (.aload_n 3, 1) := by decide +kernel
theorem dX1_exchangeHeat_72 : decode cX1_exchangeHeat 72 = .ok (.iload 6, 2) := by decide +kernel
theorem dX1_exchangeHeat_74 : decode cX1_exchangeHeat 74 = .ok (.invokevirtual 126, 3) := by decide +kernel
theorem dX1_exchangeHeat_77 : decode cX1_exchangeHeat 77 = .ok (.aload 4, 2) := by decide +kernel
theorem dX1_exchangeHeat_79 : decode cX1_exchangeHeat 79 = .ok (.iload 6, 2) := by decide +kernel
theorem dX1_exchangeHeat_81 : decode cX1_exchangeHeat 81 = .ok (.ineg, 1) := by decide +kernel
theorem dX1_exchangeHeat_82 : decode cX1_exchangeHeat 82 = .ok (.invokevirtual 126, 3) := by decide +kernel
theorem dX1_exchangeHeat_85 : decode cX1_exchangeHeat 85 = .ok (.iinc 2 1, 3) := by decide +kernel
theorem dX1_exchangeHeat_88 : decode cX1_exchangeHeat 88 = .ok (.goto (-74), 3) := by decide +kernel
theorem dX1_exchangeHeat_91 : decode cX1_exchangeHeat 91 = .ok (.iinc 1 1, 3) := by decide +kernel
theorem dX1_exchangeHeat_94 : decode cX1_exchangeHeat 94 = .ok (.goto (-92), 3) := by decide +kernel
theorem dX1_exchangeHeat_97 : decode cX1_exchangeHeat 97 = .ok (.return_, 1) := by decide +kernel
theorem dX1_settle_0 : decode cX1_settle 0 = .ok (.aload_n 1, 1) := by decide +kernel
theorem dX1_settle_1 : decode cX1_settle 1 = .ok (.getfield 129, 3) := by decide +kernel
theorem dX1_settle_4 : decode cX1_settle 4 = .ok (.istore_n 2, 1) := by decide +kernel
theorem dX1_settle_5 : decode cX1_settle 5 = .ok (.aload_n 1, 1) := by decide +kernel
theorem dX1_settle_6 : decode cX1_settle 6 = .ok (.invokevirtual 133, 3) := by decide +kernel
theorem dX1_settle_9 : decode cX1_settle 9 = .ok (.istore_n 3, 1) := by decide +kernel
theorem dX1_settle_10 : decode cX1_settle 10 = .ok (.iload_n 3, 1) := by decide +kernel
theorem dX1_settle_11 : decode cX1_settle 11 = .ok (.aload_n 0, 1) := by decide +kernel
theorem dX1_settle_12 : decode cX1_settle 12 = .ok (.iconst 5, 1) := by decide +kernel
theorem dX1_settle_13 : decode cX1_settle 13 = .ok (.invokevirtual 83, 3) := by decide +kernel
theorem dX1_settle_16 : decode cX1_settle 16 = .ok (.if_icmp .le 8, 3) := by decide +kernel
theorem dX1_settle_19 : decode cX1_settle 19 = .ok (.aload_n 1, 1) := by decide +kernel
theorem dX1_settle_20 : decode cX1_settle 20 = .ok (.iconst 1, 1) := by decide +kernel
theorem dX1_settle_21 : decode cX1_settle 21 = .ok (.putfield 136, 3) := by decide +kernel
theorem dX1_settle_24 : decode cX1_settle 24 = .ok (.aload_n 1, 1) := by decide +kernel
theorem dX1_settle_25 : decode cX1_settle 25 = .ok (.dup, 1) := by decide +kernel
theorem dX1_settle_26 : decode cX1_settle 26 = .ok (.getfield 139, 3) := by decide +kernel
theorem dX1_settle_29 : decode cX1_settle 29 = .ok (.iload_n 3, 1) := by decide +kernel
theorem dX1_settle_30 : decode cX1_settle 30 = .ok (.aload_n 1, 1) := by decide +kernel
theorem dX1_settle_31 : decode cX1_settle 31 = .ok (.getfield 139, 3) := by decide +kernel
theorem dX1_settle_34 : decode cX1_settle 34 = .ok (.isub, 1) := by decide +kernel
theorem dX1_settle_35 : decode cX1_settle 35 = .ok (.aload_n 0, 1) := by decide +kernel
theorem dX1_settle_36 : decode cX1_settle 36 = .ok (.iconst 0, 1) := by decide +kernel
theorem dX1_settle_37 : decode cX1_settle 37 = .ok (.invokevirtual 83, 3) := by decide +kernel
theorem dX1_settle_40 : decode cX1_settle 40 = .ok (.imul, 1) := by decide +kernel
theorem dX1_settle_41 : decode cX1_settle 41 = .ok (.bipush 100, 2) := by decide +kernel
theorem dX1_settle_43 : decode cX1_settle 43 = .ok (.idiv, 1) := by decide +kernel
theorem dX1_settle_44 : decode cX1_settle 44 = .ok (.iadd, 1) := by decide +kernel
theorem dX1_settle_45 : decode cX1_settle 45 = .ok (.putfield 139, 3) := by decide +kernel
theorem dX1_settle_48 : decode cX1_settle 48 = .ok (.aload_n 1, 1) := by decide +kernel
theorem dX1_settle_49 : decode cX1_settle 49 = .ok (.getfield 129, 3) := by decide +kernel
theorem dX1_settle_52 : decode cX1_settle 52 = .ok (.ifCond .ne 18, 3) := by decide +kernel
theorem dX1_settle_55 : decode cX1_settle 55 = .ok (.aload_n 1, 1) := by decide +kernel
theorem dX1_settle_56 : decode cX1_settle 56 = .ok (.invokevirtual 142, 3) := by decide +kernel
theorem dX1_settle_59 : decode cX1_settle 59 = .ok (.ifCond .eq 11, 3) := by decide +kernel
theorem dX1_settle_62 : decode cX1_settle 62 = .ok (.aload_n 0, 1) := by decide +kernel
theorem dX1_settle_63 : decode cX1_settle 63 = .ok (.aload_n 1, 1) := by decide +kernel
theorem dX1_settle_64 : decode cX1_settle 64 = .ok (.invokevirtual 146, 3) := by decide +kernel
theorem dX1_settle_67 : decode cX1_settle 67 = .ok (.goto 26, 3) := by decide +kernel
theorem dX1_settle_70 : decode cX1_settle 70 = .ok (.aload_n 1, 1) := by decide +kernel
theorem dX1_settle_71 : decode cX1_settle 71 = .ok (.getfield 129, 3) := by decide +kernel
theorem dX1_settle_74 : decode cX1_settle 74 = .ok (.ifCond .eq 19, 3) := by decide +kernel
theorem dX1_settle_77 : decode cX1_settle 77 = .ok (.aload_n 1, 1) := by decide +kernel
theorem dX1_settle_78 : decode cX1_settle 78 = .ok (.invokevirtual 149, 3) := by decide +kernel
theorem dX1_settle_81 : decode cX1_settle 81 = .ok (.ifCond .eq 12, 3) := by decide +kernel
theorem dX1_settle_84 : decode cX1_settle 84 = .ok (.aload_n 1, 1) := by decide +kernel
theorem dX1_settle_85 : decode cX1_settle 85 = .ok (.aload_n 0, 1) := by decide +kernel
theorem dX1_settle_86 : decode cX1_settle 86 = .ok (.iconst 2, 1) := by decide +kernel
theorem dX1_settle_87 : decode cX1_settle 87 = .ok (.invokevirtual 83, 3) := by decide +kernel
theorem dX1_settle_90 : decode cX1_settle 90 = .ok (.invokevirtual 152, 3) := by decide +kernel
theorem dX1_settle_93 : decode cX1_settle 93 = .ok (.aload_n 1, 1) := by decide +kernel
theorem dX1_settle_94 : decode cX1_settle 94 = .ok (.aload_n 1, 1) := by decide +kernel
theorem dX1_settle_95 : decode cX1_settle 95 = .ok (.getfield 129, 3) := by decide +kernel
theorem dX1_settle_98 : decode cX1_settle 98 = .ok (.ifCond .eq 19, 3) := by decide +kernel
theorem dX1_settle_101 : decode cX1_settle 101 = .ok (.aload_n 1, 1) := by decide +kernel
theorem dX1_settle_102 : decode cX1_settle 102 = .ok (.invokevirtual 149, 3) := by decide +kernel
theorem dX1_settle_105 : decode cX1_settle 105 = .ok (.ifCond .eq 12, 3) := by decide +kernel
theorem dX1_settle_108 : decode cX1_settle 108 = .ok (.aload_n 1, 1) := by decide +kernel
theorem dX1_settle_109 : decode cX1_settle 109 = .ok (.getfield 80, 3) := by decide +kernel
theorem dX1_settle_112 : decode cX1_settle 112 = .ok (.iconst 1, 1) := by decide +kernel
theorem dX1_settle_113 : decode cX1_settle 113 = .ok (.iadd, 1) := by decide +kernel
theorem dX1_settle_114 : decode cX1_settle 114 = .ok (.goto 4, 3) := by decide +kernel
theorem dX1_settle_117 : decode cX1_settle 117 = .ok (.iconst 0, 1) := by decide +kernel
theorem dX1_settle_118 : decode cX1_settle 118 = .ok (.putfield 80, 3) := by decide +kernel
theorem dX1_settle_121 : decode cX1_settle 121 = .ok (.aload_n 1, 1) := by decide +kernel
theorem dX1_settle_122 : decode cX1_settle 122 = .ok (.getfield 129, 3) := by decide +kernel
theorem dX1_settle_125 : decode cX1_settle 125 = .ok (.iload_n 2, 1) := by decide +kernel
theorem dX1_settle_126 : decode cX1_settle 126 = .ok (.if_icmp .eq 7, 3) := by decide +kernel
theorem dX1_settle_129 : decode cX1_settle 129 = .ok (.iconst 1, 1) := by decide +kernel
theorem dX1_settle_130 : decode cX1_settle 130 = .ok (.goto 4, 3) := by decide +kernel
theorem dX1_settle_133 : decode cX1_settle 133 = .ok (.iconst 0, 1) := by decide +kernel
theorem dX1_settle_134 : decode cX1_settle 134 = .ok (.ireturn, 1) := by decide +kernel
theorem dX1_close_0 : decode cX1_close 0 = .ok (.aload_n 1, 1) := by decide +kernel
theorem dX1_close_1 : decode cX1_close 1 = .ok (.getfield 155, 3) := by decide +kernel
theorem dX1_close_4 : decode cX1_close 4 = .ok (.ifCond .le 34, 3) := by decide +kernel
theorem dX1_close_7 : decode cX1_close 7 = .ok (.aload_n 0, 1) := by decide +kernel
theorem dX1_close_8 : decode cX1_close 8 = .ok (.getfield 49, 3) := by decide +kernel
theorem dX1_close_11 : decode cX1_close 11 = .ok (.aload_n 1, 1) := by decide +kernel
theorem dX1_close_12 : decode cX1_close 12 = .ok (.getfield 158, 3) := by decide +kernel
theorem dX1_close_15 : decode cX1_close 15 = .ok (.isub, 1) := by decide +kernel
theorem dX1_close_16 : decode cX1_close 16 = .ok (.aload_n 0, 1) := by decide +kernel
theorem dX1_close_17 : decode cX1_close 17 = .ok (.iconst 3, 1) := by decide +kernel
theorem dX1_close_18 : decode cX1_close 18 = .ok (.invokevirtual 83, 3) := by decide +kernel
theorem dX1_close_21 : decode cX1_close 21 = .ok (.if_icmp .ge 17, 3) := by decide +kernel
theorem dX1_close_24 : decode cX1_close 24 = .ok (.aload_n 1, 1) := by decide +kernel
theorem dX1_close_25 : decode cX1_close 25 = .ok (.dup, 1) := by decide +kernel
theorem dX1_close_26 : decode cX1_close 26 = .ok (.getfield 91, 3) := by decide +kernel
theorem dX1_close_29 : decode cX1_close 29 = .ok (.aload_n 0, 1) := by decide +kernel
theorem dX1_close_30 : decode cX1_close 30 = .ok (.iconst 4, 1) := by decide +kernel
theorem dX1_close_31 : decode cX1_close 31 = .ok (.invokevirtual 83, 3) := by decide +kernel
theorem dX1_close_34 : decode cX1_close 34 = .ok (.iadd, 1) := by decide +kernel
theorem dX1_close_35 : decode cX1_close 35 = .ok (.putfield 91, 3) := by decide +kernel
theorem dX1_close_38 : decode cX1_close 38 = .ok (.aload_n 1, 1) := by decide +kernel
theorem dX1_close_39 : decode cX1_close 39 = .ok (.iconst 1, 1) := by decide +kernel
theorem dX1_close_40 : decode cX1_close 40 = .ok (.putfield 129, 3) := by decide +kernel
theorem dX1_close_43 : decode cX1_close 43 = .ok (.aload_n 1, 1) := by decide +kernel
theorem dX1_close_44 : decode cX1_close 44 = .ok (.dup, 1) := by decide +kernel
theorem dX1_close_45 : decode cX1_close 45 = .ok (.getfield 155, 3) := by decide +kernel
theorem dX1_close_48 : decode cX1_close 48 = .ok (.iconst 1, 1) := by decide +kernel
theorem dX1_close_49 : decode cX1_close 49 = .ok (.iadd, 1) := by decide +kernel
theorem dX1_close_50 : decode cX1_close 50 = .ok (.putfield 155, 3) := by decide +kernel
theorem dX1_close_53 : decode cX1_close 53 = .ok (.aload_n 1, 1) := by decide +kernel
theorem dX1_close_54 : decode cX1_close 54 = .ok (.aload_n 0, 1) := by decide +kernel
theorem dX1_close_55 : decode cX1_close 55 = .ok (.getfield 49, 3) := by decide +kernel
theorem dX1_close_58 : decode cX1_close 58 = .ok (.putfield 158, 3) := by decide +kernel
theorem dX1_close_61 : decode cX1_close 61 = .ok (.aload_n 1, 1) := by decide +kernel
theorem dX1_close_62 : decode cX1_close 62 = .ok (.dup, 1) := by decide +kernel
theorem dX1_close_63 : decode cX1_close 63 = .ok (.getfield 161, 3) := by decide +kernel
theorem dX1_close_66 : decode cX1_close 66 = .ok (.aload_n 1, 1) := by decide +kernel
theorem dX1_close_67 : decode cX1_close 67 = .ok (.getfield 164, 3) := by decide +kernel
theorem dX1_close_70 : decode cX1_close 70 = .ok (.iadd, 1) := by decide +kernel
theorem dX1_close_71 : decode cX1_close 71 = .ok (.putfield 161, 3) := by decide +kernel
theorem dX1_close_74 : decode cX1_close 74 = .ok (.aload_n 1, 1) := by decide +kernel
theorem dX1_close_75 : decode cX1_close 75 = .ok (.getfield 161, 3) := by decide +kernel
theorem dX1_close_78 : decode cX1_close 78 = .ok (.aload_n 0, 1) := by decide +kernel
theorem dX1_close_79 : decode cX1_close 79 = .ok (.iconst 1, 1) := by decide +kernel
theorem dX1_close_80 : decode cX1_close 80 = .ok (.invokevirtual 83, 3) := by decide +kernel
theorem dX1_close_83 : decode cX1_close 83 = .ok (.if_icmp .lt 8, 3) := by decide +kernel
theorem dX1_close_86 : decode cX1_close 86 = .ok (.aload_n 1, 1) := by decide +kernel
theorem dX1_close_87 : decode cX1_close 87 = .ok (.iconst 1, 1) := by decide +kernel
theorem dX1_close_88 : decode cX1_close 88 = .ok (.putfield 167, 3) := by decide +kernel
theorem dX1_close_91 : decode cX1_close 91 = .ok (.return_, 1) := by decide +kernel
theorem dX2_init_0 : decode cX2_init 0 = .ok (.aload_n 0, 1) := by decide +kernel
theorem dX2_init_1 : decode cX2_init 1 = .ok (.invokespecial 3, 3) := by decide +kernel
theorem dX2_init_4 : decode cX2_init 4 = .ok (.aload_n 0, 1) := by decide +kernel
theorem dX2_init_5 : decode cX2_init 5 = .ok (.bipush 6, 2) := by decide +kernel
theorem dX2_init_7 : decode cX2_init 7 = .ok (.anewarray 9, 3) := by decide +kernel
theorem dX2_init_10 : decode cX2_init 10 = .ok (.putfield 11, 3) := by decide +kernel
theorem dX2_init_13 : decode cX2_init 13 = .ok (.iconst 0, 1) := by decide +kernel
theorem dX2_init_14 : decode cX2_init 14 = .ok (.istore_n 1, 1) := by decide +kernel
theorem dX2_init_15 : decode cX2_init 15 = .ok (.iload_n 1, 1) := by decide +kernel
theorem dX2_init_16 : decode cX2_init 16 = .ok (.aload_n 0, 1) := by decide +kernel
theorem dX2_init_17 : decode cX2_init 17 = .ok (.getfield 11, 3) := by decide +kernel
theorem dX2_init_20 : decode cX2_init 20 = .ok (.arraylength, 1) := by decide +kernel
theorem dX2_init_21 : decode cX2_init 21 = .ok (.if_icmp .ge 22, 3) := by decide +kernel
theorem dX2_init_24 : decode cX2_init 24 = .ok (.aload_n 0, 1) := by decide +kernel
theorem dX2_init_25 : decode cX2_init 25 = .ok (.getfield 11, 3) := by decide +kernel
theorem dX2_init_28 : decode cX2_init 28 = .ok (.iload_n 1, 1) := by decide +kernel
theorem dX2_init_29 : decode cX2_init 29 = .ok (.new 9, 3) := by decide +kernel
theorem dX2_init_32 : decode cX2_init 32 = .ok (.dup, 1) := by decide +kernel
theorem dX2_init_33 : decode cX2_init 33 = .ok (.invokespecial 17, 3) := by decide +kernel
theorem dX2_init_36 : decode cX2_init 36 = .ok (.aastore, 1) := by decide +kernel
theorem dX2_init_37 : decode cX2_init 37 = .ok (.iinc 1 1, 3) := by decide +kernel
theorem dX2_init_40 : decode cX2_init 40 = .ok (.goto (-25), 3) := by decide +kernel
theorem dX2_init_43 : decode cX2_init 43 = .ok (.return_, 1) := by decide +kernel
theorem dX2_save_0 : decode cX2_save 0 = .ok (.aload_n 0, 1) := by decide +kernel
theorem dX2_save_1 : decode cX2_save 1 = .ok (.aload_n 0, 1) := by decide +kernel
theorem dX2_save_2 : decode cX2_save 2 = .ok (.getfield 18, 3) := by decide +kernel
theorem dX2_save_5 : decode cX2_save 5 = .ok (.invokevirtual 22, 3) := by decide +kernel
theorem dX2_save_8 : decode cX2_save 8 = .ok (.astore_n 2, 1) := by decide +kernel
theorem dX2_save_9 : decode cX2_save 9 = .ok (.aload_n 2, 1) := by decide +kernel
theorem dX2_save_10 : decode cX2_save 10 = .ok (.ifnull 36, 3) := by decide +kernel
theorem dX2_save_13 : decode cX2_save 13 = .ok (.aload_n 2, 1) := by decide +kernel
theorem dX2_save_14 : decode cX2_save 14 = .ok (.aload_n 1, 1) := by decide +kernel
theorem dX2_save_15 : decode cX2_save 15 = .ok (.invokevirtual 26, 3) := by decide +kernel
theorem dX2_save_18 : decode cX2_save 18 = .ok (.aload_n 0, 1) := by decide +kernel
theorem dX2_save_19 : decode cX2_save 19 = .ok (.aload_n 0, 1) := by decide +kernel
theorem dX2_save_20 : decode cX2_save 20 = .ok (.getfield 18, 3) := by decide +kernel
theorem dX2_save_23 : decode cX2_save 23 = .ok (.iconst 1, 1) := by decide +kernel
theorem dX2_save_24 : decode cX2_save 24 = .ok (.iadd, 1) := by decide +kernel
theorem dX2_save_25 : decode cX2_save 25 = .ok (.bipush 6, 2) := by decide +kernel
theorem dX2_save_27 : decode cX2_save 27 = .ok (.irem, 1) := by decide +kernel
theorem dX2_save_28 : decode cX2_save 28 = .ok (.putfield 18, 3) := by decide +kernel
theorem dX2_save_31 : decode cX2_save 31 = .ok (.aload_n 0, 1) := by decide +kernel
theorem dX2_save_32 : decode cX2_save 32 = .ok (.aload_n 0, 1) := by decide +kernel
theorem dX2_save_33 : decode cX2_save 33 = .ok (.getfield 30, 3) := by decide +kernel
theorem dX2_save_36 : decode cX2_save 36 = .ok (.iconst 1, 1) := by decide +kernel
theorem dX2_save_37 : decode cX2_save 37 = .ok (.iadd, 1) := by decide +kernel
theorem dX2_save_38 : decode cX2_save 38 = .ok (.bipush 6, 2) := by decide +kernel
theorem dX2_save_40 : decode cX2_save 40 = .ok (.invokestatic 33, 3) := by decide +kernel
theorem dX2_save_43 : decode cX2_save 43 = .ok (.putfield 30, 3) := by decide +kernel
theorem dX2_save_46 : decode cX2_save 46 = .ok (.return_, 1) := by decide +kernel
theorem dX2_restore_0 : decode cX2_restore 0 = .ok (.aload_n 0, 1) := by decide +kernel
theorem dX2_restore_1 : decode cX2_restore 1 = .ok (.getfield 18, 3) := by decide +kernel
theorem dX2_restore_4 : decode cX2_restore 4 = .ok (.bipush 6, 2) := by decide +kernel
theorem dX2_restore_6 : decode cX2_restore 6 = .ok (.iadd, 1) := by decide +kernel
theorem dX2_restore_7 : decode cX2_restore 7 = .ok (.iconst 1, 1) := by decide +kernel
theorem dX2_restore_8 : decode cX2_restore 8 = .ok (.isub, 1) := by decide +kernel
theorem dX2_restore_9 : decode cX2_restore 9 = .ok (.bipush 6, 2) := by decide +kernel
theorem dX2_restore_11 : decode cX2_restore 11 = .ok (.irem, 1) := by decide +kernel
theorem dX2_restore_12 : decode cX2_restore 12 = .ok (.istore_n 2, 1) := by decide +kernel
theorem dX2_restore_13 : decode cX2_restore 13 = .ok (.aload_n 0, 1) := by decide +kernel
theorem dX2_restore_14 : decode cX2_restore 14 = .ok (.iload_n 2, 1) := by decide +kernel
theorem dX2_restore_15 : decode cX2_restore 15 = .ok (.invokevirtual 22, 3) := by decide +kernel
theorem dX2_restore_18 : decode cX2_restore 18 = .ok (.astore_n 3, 1) := by decide +kernel
theorem dX2_restore_19 : decode cX2_restore 19 = .ok (.aload_n 3, 1) := by decide +kernel
theorem dX2_restore_20 : decode cX2_restore 20 = .ok (.ifnull 30, 3) := by decide +kernel
theorem dX2_restore_23 : decode cX2_restore 23 = .ok (.aload_n 0, 1) := by decide +kernel
theorem dX2_restore_24 : decode cX2_restore 24 = .ok (.getfield 30, 3) := by decide +kernel
theorem dX2_restore_27 : decode cX2_restore 27 = .ok (.ifCond .le 23, 3) := by decide +kernel
theorem dX2_restore_30 : decode cX2_restore 30 = .ok (.aload_n 1, 1) := by decide +kernel
theorem dX2_restore_31 : decode cX2_restore 31 = .ok (.aload_n 3, 1) := by decide +kernel
theorem dX2_restore_32 : decode cX2_restore 32 = .ok (.invokevirtual 26, 3) := by decide +kernel
theorem dX2_restore_35 : decode cX2_restore 35 = .ok (.aload_n 0, 1) := by decide +kernel
theorem dX2_restore_36 : decode cX2_restore 36 = .ok (.iload_n 2, 1) := by decide +kernel
theorem dX2_restore_37 : decode cX2_restore 37 = .ok (.putfield 18, 3) := by decide +kernel
theorem dX2_restore_40 : decode cX2_restore 40 = .ok (.aload_n 0, 1) := by decide +kernel
theorem dX2_restore_41 : decode cX2_restore 41 = .ok (.dup, 1) := by decide +kernel
theorem dX2_restore_42 : decode cX2_restore 42 = .ok (.getfield 30, 3) := by decide +kernel
theorem dX2_restore_45 : decode cX2_restore 45 = .ok (.iconst 1, 1) := by decide +kernel
theorem dX2_restore_46 : decode cX2_restore 46 = .ok (.isub, 1) := by decide +kernel
theorem dX2_restore_47 : decode cX2_restore 47 = .ok (.putfield 30, 3) := by decide +kernel
theorem dX2_restore_50 : decode cX2_restore 50 = .ok (.return_, 1) := by decide +kernel
theorem dX2_stateAt_0 : decode cX2_stateAt 0 = .ok (.iload_n 1, 1) := by decide +kernel
theorem dX2_stateAt_1 : decode cX2_stateAt 1 = .ok (.ifCond .lt 21, 3) := by decide +kernel
theorem dX2_stateAt_4 : decode cX2_stateAt 4 = .ok (.iload_n 1, 1) := by decide +kernel
theorem dX2_stateAt_5 : decode cX2_stateAt 5 = .ok (.aload_n 0, 1) := by decide +kernel
theorem dX2_stateAt_6 : decode cX2_stateAt 6 = .ok (.getfield 11, 3) := by decide +kernel
theorem dX2_stateAt_9 : decode cX2_stateAt 9 = .ok (.arraylength, 1) := by decide +kernel
theorem dX2_stateAt_10 : decode cX2_stateAt 10 = .ok (.if_icmp .ge 12, 3) := by decide +kernel
theorem dX2_stateAt_13 : decode cX2_stateAt 13 = .ok (.aload_n 0, 1) := by decide +kernel
theorem dX2_stateAt_14 : decode cX2_stateAt 14 = .ok (.getfield 11, 3) := by decide +kernel
theorem dX2_stateAt_17 : decode cX2_stateAt 17 = .ok (.iload_n 1, 1) := by decide +kernel
theorem dX2_stateAt_18 : decode cX2_stateAt 18 = .ok (.aaload, 1) := by decide +kernel
theorem dX2_stateAt_19 : decode cX2_stateAt 19 = .ok (.goto 4, 3) := by decide +kernel
theorem dX2_stateAt_22 : decode cX2_stateAt 22 = .ok (.aconst_null, 1) := by decide +kernel
theorem dX2_stateAt_23 : decode cX2_stateAt 23 = .ok (.areturn, 1) := by decide +kernel
theorem dX3_init_0 : decode cX3_init 0 = .ok (.aload_n 0, 1) := by decide +kernel
theorem dX3_init_1 : decode cX3_init 1 = .ok (.invokespecial 3, 3) := by decide +kernel
theorem dX3_init_4 : decode cX3_init 4 = .ok (.aload_n 0, 1) := by decide +kernel
theorem dX3_init_5 : decode cX3_init 5 = .ok (.new 9, 3) := by decide +kernel
theorem dX3_init_8 : decode cX3_init 8 = .ok (.dup, 1) := by decide +kernel
theorem dX3_init_9 : decode cX3_init 9 = .ok (.invokespecial 11, 3) := by decide +kernel
theorem dX3_init_12 : decode cX3_init 12 = .ok (.putfield 12, 3) := by decide +kernel
theorem dX3_init_15 : decode cX3_init 15 = .ok (.return_, 1) := by decide +kernel
theorem dX3_begin_0 : decode cX3_begin 0 = .ok (.aload_n 0, 1) := by decide +kernel
theorem dX3_begin_1 : decode cX3_begin 1 = .ok (.iload_n 1, 1) := by decide +kernel
theorem dX3_begin_2 : decode cX3_begin 2 = .ok (.putfield 18, 3) := by decide +kernel
theorem dX3_begin_5 : decode cX3_begin 5 = .ok (.aload_n 0, 1) := by decide +kernel
theorem dX3_begin_6 : decode cX3_begin 6 = .ok (.iload_n 2, 1) := by decide +kernel
theorem dX3_begin_7 : decode cX3_begin 7 = .ok (.putfield 22, 3) := by decide +kernel
theorem dX3_begin_10 : decode cX3_begin 10 = .ok (.aload_n 0, 1) := by decide +kernel
theorem dX3_begin_11 : decode cX3_begin 11 = .ok (.iload_n 3, 1) := by decide +kernel
theorem dX3_begin_12 : decode cX3_begin 12 = .ok (.putfield 25, 3) := by decide +kernel
theorem dX3_begin_15 : decode cX3_begin 15 = .ok (.aload_n 0, 1) := by decide +kernel
theorem dX3_begin_16 : decode cX3_begin 16 = .ok (.iload_n 1, 1) := by decide +kernel
theorem dX3_begin_17 : decode cX3_begin 17 = .ok (.iload 4, 2) := by decide +kernel
theorem dX3_begin_19 : decode cX3_begin 19 = .ok (.imul, 1) := by decide +kernel
theorem dX3_begin_20 : decode cX3_begin 20 = .ok (.putfield 28, 3) := by decide +kernel
theorem dX3_begin_23 : decode cX3_begin 23 = .ok (.aload_n 0, 1) := by decide +kernel
theorem dX3_begin_24 : decode cX3_begin 24 = .ok (.sipush 20000, 3) := by decide +kernel
theorem dX3_begin_27 : decode cX3_begin 27 = .ok (.putfield 31, 3) := by decide +kernel
theorem dX3_begin_30 : decode cX3_begin 30 = .ok (.aload_n 0, 1) := by decide +kernel
theorem dX3_begin_31 : decode cX3_begin 31 = .ok (.sipush 1000, 3) := by decide +kernel
theorem dX3_begin_34 : decode cX3_begin 34 = .ok (.putfield 34, 3) := by decide +kernel
theorem dX3_begin_37 : decode cX3_begin 37 = .ok (.aload_n 0, 1) := by decide +kernel
theorem dX3_begin_38 : decode cX3_begin 38 = .ok (.aload_n 0, 1) := by decide +kernel
theorem dX3_begin_39 : decode cX3_begin 39 = .ok (.invokevirtual 37, 3) := by decide +kernel
theorem dX3_begin_42 : decode cX3_begin 42 = .ok (.putfield 41, 3) := by decide +kernel
theorem dX3_begin_45 : decode cX3_begin 45 = .ok (.aload_n 0, 1) := by decide +kernel
theorem dX3_begin_46 : decode cX3_begin 46 = .ok (.iconst 0, 1) := by decide +kernel
theorem dX3_begin_47 : decode cX3_begin 47 = .ok (.putfield 44, 3) := by decide +kernel
theorem dX3_begin_50 : decode cX3_begin 50 = .ok (.aload_n 0, 1) := by decide +kernel
theorem dX3_begin_51 : decode cX3_begin 51 = .ok (.iconst 0, 1) := by decide +kernel
theorem dX3_begin_52 : decode cX3_begin 52 = .ok (.putfield 48, 3) := by decide +kernel
theorem dX3_begin_55 : decode cX3_begin 55 = .ok (.aload_n 0, 1) := by decide +kernel
theorem dX3_begin_56 : decode cX3_begin 56 = .ok (.iconst 0, 1) := by decide +kernel
theorem dX3_begin_57 : decode cX3_begin 57 = .ok (.putfield 51, 3) := by decide +kernel
theorem dX3_begin_60 : decode cX3_begin 60 = .ok (.aload_n 0, 1) := by decide +kernel
theorem dX3_begin_61 : decode cX3_begin 61 = .ok (.iconst 0, 1) := by decide +kernel
theorem dX3_begin_62 : decode cX3_begin 62 = .ok (.putfield 54, 3) := by decide +kernel
theorem dX3_begin_65 : decode cX3_begin 65 = .ok (.aload_n 0, 1) := by decide +kernel
theorem dX3_begin_66 : decode cX3_begin 66 = .ok (.iconst 0, 1) := by decide +kernel
theorem dX3_begin_67 : decode cX3_begin 67 = .ok (.putfield 57, 3) := by decide +kernel
theorem dX3_begin_70 : decode cX3_begin 70 = .ok (.aload_n 0, 1) := by decide +kernel
theorem dX3_begin_71 : decode cX3_begin 71 = .ok (.iconst 0, 1) := by decide +kernel
theorem dX3_begin_72 : decode cX3_begin 72 = .ok (.putfield 60, 3) := by decide +kernel
theorem dX3_begin_75 : decode cX3_begin 75 = .ok (.aload_n 0, 1) := by decide +kernel
theorem dX3_begin_76 : decode cX3_begin 76 = .ok (.ldc 63, 2) := by decide +kernel
theorem dX3_begin_78 : decode cX3_begin 78 = .ok (.putfield 64, 3) := by decide +kernel
theorem dX3_begin_81 : decode cX3_begin 81 = .ok (.aload_n 0, 1) := by decide +kernel
theorem dX3_begin_82 : decode cX3_begin 82 = .ok (.iconst 0, 1) := by decide +kernel
theorem dX3_begin_83 : decode cX3_begin 83 = .ok (.putfield 67, 3) := by decide +kernel
theorem dX3_begin_86 : decode cX3_begin 86 = .ok (.aload_n 0, 1) := by decide +kernel
theorem dX3_begin_87 : decode cX3_begin 87 = .ok (.iconst 0, 1) := by decide +kernel
theorem dX3_begin_88 : decode cX3_begin 88 = .ok (.putfield 70, 3) := by decide +kernel
theorem dX3_begin_91 : decode cX3_begin 91 = .ok (.aload_n 0, 1) := by decide +kernel
theorem dX3_begin_92 : decode cX3_begin 92 = .ok (.iconst 0, 1) := by decide +kernel
theorem dX3_begin_93 : decode cX3_begin 93 = .ok (.putfield 73, 3) := by decide +kernel
theorem dX3_begin_96 : decode cX3_begin 96 = .ok (.aload_n 0, 1) := by decide +kernel
theorem dX3_begin_97 : decode cX3_begin 97 = .ok (.getfield 12, 3) := by decide +kernel
theorem dX3_begin_100 : decode cX3_begin 100 = .ok (.aload_n 0, 1) := by decide +kernel
theorem dX3_begin_101 : decode cX3_begin 101 = .ok (.getfield 28, 3) := by decide +kernel
theorem dX3_begin_104 : decode cX3_begin 104 = .ok (.invokevirtual 76, 3) := by decide +kernel
theorem dX3_begin_107 : decode cX3_begin 107 = .ok (.return_, 1) := by decide +kernel
theorem dX3_copyFrom_0 : decode cX3_copyFrom 0 = .ok (.aload_n 0, 1) := by decide +kernel
theorem dX3_copyFrom_1 : decode cX3_copyFrom 1 = .ok (.getfield 12, 3) := by decide +kernel
theorem dX3_copyFrom_4 : decode cX3_copyFrom 4 = .ok (.aload_n 1, 1) := by decide +kernel
theorem dX3_copyFrom_5 : decode cX3_copyFrom 5 = .ok (.getfield 12, 3) := by decide +kernel
theorem dX3_copyFrom_8 : decode cX3_copyFrom 8 = .ok (.invokevirtual 80, 3) := by decide +kernel
theorem dX3_copyFrom_11 : decode cX3_copyFrom 11 = .ok (.aload_n 0, 1) := by decide +kernel
theorem dX3_copyFrom_12 : decode cX3_copyFrom 12 = .ok (.aload_n 1, 1) := by decide +kernel
theorem dX3_copyFrom_13 : decode cX3_copyFrom 13 = .ok (.getfield 18, 3) := by decide +kernel
theorem dX3_copyFrom_16 : decode cX3_copyFrom 16 = .ok (.putfield 18, 3) := by decide +kernel
theorem dX3_copyFrom_19 : decode cX3_copyFrom 19 = .ok (.aload_n 0, 1) := by decide +kernel
theorem dX3_copyFrom_20 : decode cX3_copyFrom 20 = .ok (.aload_n 1, 1) := by decide +kernel
theorem dX3_copyFrom_21 : decode cX3_copyFrom 21 = .ok (.getfield 22, 3) := by decide +kernel
theorem dX3_copyFrom_24 : decode cX3_copyFrom 24 = .ok (.putfield 22, 3) := by decide +kernel
theorem dX3_copyFrom_27 : decode cX3_copyFrom 27 = .ok (.aload_n 0, 1) := by decide +kernel
theorem dX3_copyFrom_28 : decode cX3_copyFrom 28 = .ok (.aload_n 1, 1) := by decide +kernel
theorem dX3_copyFrom_29 : decode cX3_copyFrom 29 = .ok (.getfield 25, 3) := by decide +kernel
theorem dX3_copyFrom_32 : decode cX3_copyFrom 32 = .ok (.putfield 25, 3) := by decide +kernel
theorem dX3_copyFrom_35 : decode cX3_copyFrom 35 = .ok (.aload_n 0, 1) := by decide +kernel
theorem dX3_copyFrom_36 : decode cX3_copyFrom 36 = .ok (.aload_n 1, 1) := by decide +kernel
theorem dX3_copyFrom_37 : decode cX3_copyFrom 37 = .ok (.getfield 28, 3) := by decide +kernel
theorem dX3_copyFrom_40 : decode cX3_copyFrom 40 = .ok (.putfield 28, 3) := by decide +kernel
theorem dX3_copyFrom_43 : decode cX3_copyFrom 43 = .ok (.aload_n 0, 1) := by decide +kernel
theorem dX3_copyFrom_44 : decode cX3_copyFrom 44 = .ok (.aload_n 1, 1) := by decide +kernel
theorem dX3_copyFrom_45 : decode cX3_copyFrom 45 = .ok (.getfield 31, 3) := by decide +kernel
theorem dX3_copyFrom_48 : decode cX3_copyFrom 48 = .ok (.putfield 31, 3) := by decide +kernel
theorem dX3_copyFrom_51 : decode cX3_copyFrom 51 = .ok (.aload_n 0, 1) := by decide +kernel
theorem dX3_copyFrom_52 : decode cX3_copyFrom 52 = .ok (.aload_n 1, 1) := by decide +kernel
theorem dX3_copyFrom_53 : decode cX3_copyFrom 53 = .ok (.getfield 34, 3) := by decide +kernel
theorem dX3_copyFrom_56 : decode cX3_copyFrom 56 = .ok (.putfield 34, 3) := by decide +kernel
theorem dX3_copyFrom_59 : decode cX3_copyFrom 59 = .ok (.aload_n 0, 1) := by decide +kernel
theorem dX3_copyFrom_60 : decode cX3_copyFrom 60 = .ok (.aload_n 1, 1) := by decide +kernel
theorem dX3_copyFrom_61 : decode cX3_copyFrom 61 = .ok (.getfield 41, 3) := by decide +kernel
theorem dX3_copyFrom_64 : decode cX3_copyFrom 64 = .ok (.putfield 41, 3) := by decide +kernel
theorem dX3_copyFrom_67 : decode cX3_copyFrom 67 = .ok (.aload_n 0, 1) := by decide +kernel
theorem dX3_copyFrom_68 : decode cX3_copyFrom 68 = .ok (.aload_n 1, 1) := by decide +kernel
theorem dX3_copyFrom_69 : decode cX3_copyFrom 69 = .ok (.getfield 44, 3) := by decide +kernel
theorem dX3_copyFrom_72 : decode cX3_copyFrom 72 = .ok (.putfield 44, 3) := by decide +kernel
theorem dX3_copyFrom_75 : decode cX3_copyFrom 75 = .ok (.aload_n 0, 1) := by decide +kernel
theorem dX3_copyFrom_76 : decode cX3_copyFrom 76 = .ok (.aload_n 1, 1) := by decide +kernel
theorem dX3_copyFrom_77 : decode cX3_copyFrom 77 = .ok (.getfield 48, 3) := by decide +kernel
theorem dX3_copyFrom_80 : decode cX3_copyFrom 80 = .ok (.putfield 48, 3) := by decide +kernel
theorem dX3_copyFrom_83 : decode cX3_copyFrom 83 = .ok (.aload_n 0, 1) := by decide +kernel
theorem dX3_copyFrom_84 : decode cX3_copyFrom 84 = .ok (.aload_n 1, 1) := by decide +kernel
theorem dX3_copyFrom_85 : decode cX3_copyFrom 85 = .ok (.getfield 51, 3) := by decide +kernel
theorem dX3_copyFrom_88 : decode cX3_copyFrom 88 = .ok (.putfield 51, 3) := by decide +kernel
theorem dX3_copyFrom_91 : decode cX3_copyFrom 91 = .ok (.aload_n 0, 1) := by decide +kernel
theorem dX3_copyFrom_92 : decode cX3_copyFrom 92 = .ok (.aload_n 1, 1) := by decide +kernel
theorem dX3_copyFrom_93 : decode cX3_copyFrom 93 = .ok (.getfield 54, 3) := by decide +kernel
theorem dX3_copyFrom_96 : decode cX3_copyFrom 96 = .ok (.putfield 54, 3) := by decide +kernel
theorem dX3_copyFrom_99 : decode cX3_copyFrom 99 = .ok (.aload_n 0, 1) := by decide +kernel
theorem dX3_copyFrom_100 : decode cX3_copyFrom 100 = .ok (.aload_n 1, 1) := by decide +kernel
theorem dX3_copyFrom_101 : decode cX3_copyFrom 101 = .ok (.getfield 57, 3) := by decide +kernel
theorem dX3_copyFrom_104 : decode cX3_copyFrom 104 = .ok (.putfield 57, 3) := by decide +kernel
theorem dX3_copyFrom_107 : decode cX3_copyFrom 107 = .ok (.aload_n 0, 1) := by decide +kernel
theorem dX3_copyFrom_108 : decode cX3_copyFrom 108 = .ok (.aload_n 1, 1) := by decide +kernel
theorem dX3_copyFrom_109 : decode cX3_copyFrom 109 = .ok (.getfield 60, 3) := by decide +kernel
theorem dX3_copyFrom_112 : decode cX3_copyFrom 112 = .ok (.putfield 60, 3) := by decide +kernel
theorem dX3_copyFrom_115 : decode cX3_copyFrom 115 = .ok (.aload_n 0, 1) := by decide +kernel
theorem dX3_copyFrom_116 : decode cX3_copyFrom 116 = .ok (.aload_n 1, 1) := by decide +kernel
theorem dX3_copyFrom_117 : decode cX3_copyFrom 117 = .ok (.getfield 64, 3) := by decide +kernel
theorem dX3_copyFrom_120 : decode cX3_copyFrom 120 = .ok (.putfield 64, 3) := by decide +kernel
theorem dX3_copyFrom_123 : decode cX3_copyFrom 123 = .ok (.aload_n 0, 1) := by decide +kernel
theorem dX3_copyFrom_124 : decode cX3_copyFrom 124 = .ok (.aload_n 1, 1) := by decide +kernel
theorem dX3_copyFrom_125 : decode cX3_copyFrom 125 = .ok (.getfield 67, 3) := by decide +kernel
theorem dX3_copyFrom_128 : decode cX3_copyFrom 128 = .ok (.putfield 67, 3) := by decide +kernel
theorem dX3_copyFrom_131 : decode cX3_copyFrom 131 = .ok (.aload_n 0, 1) := by decide +kernel
theorem dX3_copyFrom_132 : decode cX3_copyFrom 132 = .ok (.aload_n 1, 1) := by decide +kernel
theorem dX3_copyFrom_133 : decode cX3_copyFrom 133 = .ok (.getfield 70, 3) := by decide +kernel
theorem dX3_copyFrom_136 : decode cX3_copyFrom 136 = .ok (.putfield 70, 3) := by decide +kernel
theorem dX3_copyFrom_139 : decode cX3_copyFrom 139 = .ok (.aload_n 0, 1) := by decide +kernel
theorem dX3_copyFrom_140 : decode cX3_copyFrom 140 = .ok (.aload_n 1, 1) := by decide +kernel
theorem dX3_copyFrom_141 : decode cX3_copyFrom 141 = .ok (.getfield 73, 3) := by decide +kernel
theorem dX3_copyFrom_144 : decode cX3_copyFrom 144 = .ok (.putfield 73, 3) := by decide +kernel
theorem dX3_copyFrom_147 : decode cX3_copyFrom 147 = .ok (.return_, 1) := by decide +kernel
theorem dX3_temperature_0 : decode cX3_temperature 0 = .ok (.aload_n 0, 1) := by decide +kernel
theorem dX3_temperature_1 : decode cX3_temperature 1 = .ok (.aload_n 0, 1) := by decide +kernel
theorem dX3_temperature_2 : decode cX3_temperature 2 = .ok (.getfield 28, 3) := by decide +kernel
theorem dX3_temperature_5 : decode cX3_temperature 5 = .ok (.invokevirtual 84, 3) := by decide +kernel
theorem dX3_temperature_8 : decode cX3_temperature 8 = .ok (.ireturn, 1) := by decide +kernel
theorem dX3_temperatureWith_0 : decode cX3_temperatureWith 0 = .ok (.aload_n 0, 1) := by decide +kernel
theorem dX3_temperatureWith_1 : decode cX3_temperatureWith 1 = .ok (.getfield 18, 3) := by decide +kernel
theorem dX3_temperatureWith_4 : decode cX3_temperatureWith 4 = .ok (.ifCond .le 18, 3) := by decide +kernel
theorem dX3_temperatureWith_7 : decode cX3_temperatureWith 7 = .ok (.sipush 1000, 3) := by decide +kernel
theorem dX3_temperatureWith_10 : decode cX3_temperatureWith 10 = .ok (.iload_n 1, 1) := by decide +kernel
theorem dX3_temperatureWith_11 : decode cX3_temperatureWith 11 = .ok (.imul, 1) := by decide +kernel
theorem dX3_temperatureWith_12 : decode cX3_temperatureWith 12 = .ok (.aload_n 0, 1) := by decide +kernel
theorem dX3_temperatureWith_13 : decode cX3_temperatureWith 13 = .ok (.getfield 18, 3) := by decide +kernel
theorem dX3_temperatureWith_16 : decode cX3_temperatureWith 16 = .ok (.invokestatic 88, 3) := by decide +kernel
theorem dX3_temperatureWith_19 : decode cX3_temperatureWith 19 = .ok (.goto 4, 3) := by decide +kernel
theorem dX3_temperatureWith_22 : decode cX3_temperatureWith 22 = .ok (.iconst 0, 1) := by decide +kernel
theorem dX3_temperatureWith_23 : decode cX3_temperatureWith 23 = .ok (.ireturn, 1) := by decide +kernel
theorem dX3_isBladeCold_0 : decode cX3_isBladeCold 0 = .ok (.aload_n 0, 1) := by decide +kernel
theorem dX3_isBladeCold_1 : decode cX3_isBladeCold 1 = .ok (.getfield 41, 3) := by decide +kernel
theorem dX3_isBladeCold_4 : decode cX3_isBladeCold 4 = .ok (.aload_n 0, 1) := by decide +kernel
theorem dX3_isBladeCold_5 : decode cX3_isBladeCold 5 = .ok (.getfield 31, 3) := by decide +kernel
theorem dX3_isBladeCold_8 : decode cX3_isBladeCold 8 = .ok (.aload_n 0, 1) := by decide +kernel
theorem dX3_isBladeCold_9 : decode cX3_isBladeCold 9 = .ok (.getfield 34, 3) := by decide +kernel
theorem dX3_isBladeCold_12 : decode cX3_isBladeCold 12 = .ok (.isub, 1) := by decide +kernel
theorem dX3_isBladeCold_13 : decode cX3_isBladeCold 13 = .ok (.if_icmp .gt 7, 3) := by decide +kernel
theorem dX3_isBladeCold_16 : decode cX3_isBladeCold 16 = .ok (.iconst 1, 1) := by decide +kernel
theorem dX3_isBladeCold_17 : decode cX3_isBladeCold 17 = .ok (.goto 4, 3) := by decide +kernel
theorem dX3_isBladeCold_20 : decode cX3_isBladeCold 20 = .ok (.iconst 0, 1) := by decide +kernel
theorem dX3_isBladeCold_21 : decode cX3_isBladeCold 21 = .ok (.ireturn, 1) := by decide +kernel
theorem dX3_isBladeHot_0 : decode cX3_isBladeHot 0 = .ok (.aload_n 0, 1) := by decide +kernel
theorem dX3_isBladeHot_1 : decode cX3_isBladeHot 1 = .ok (.getfield 41, 3) := by decide +kernel
theorem dX3_isBladeHot_4 : decode cX3_isBladeHot 4 = .ok (.aload_n 0, 1) := by decide +kernel
theorem dX3_isBladeHot_5 : decode cX3_isBladeHot 5 = .ok (.getfield 31, 3) := by decide +kernel
theorem dX3_isBladeHot_8 : decode cX3_isBladeHot 8 = .ok (.aload_n 0, 1) := by decide +kernel
theorem dX3_isBladeHot_9 : decode cX3_isBladeHot 9 = .ok (.getfield 34, 3) := by decide +kernel
theorem dX3_isBladeHot_12 : decode cX3_isBladeHot 12 = .ok (.iadd, 1) := by decide +kernel
theorem dX3_isBladeHot_13 : decode cX3_isBladeHot 13 = .ok (.if_icmp .lt 7, 3) := by decide +kernel
theorem dX3_isBladeHot_16 : decode cX3_isBladeHot 16 = .ok (.iconst 1, 1) := by decide +kernel
theorem dX3_isBladeHot_17 : decode cX3_isBladeHot 17 = .ok (.goto 4, 3) := by decide +kernel
theorem dX3_isBladeHot_20 : decode cX3_isBladeHot 20 = .ok (.iconst 0, 1) := by decide +kernel
theorem dX3_isBladeHot_21 : decode cX3_isBladeHot 21 = .ok (.ireturn, 1) := by decide +kernel
theorem dX3_bringIn_0 : decode cX3_bringIn 0 = .ok (.aload_n 0, 1) := by decide +kernel
theorem dX3_bringIn_1 : decode cX3_bringIn 1 = .ok (.dup, 1) := by decide +kernel
theorem dX3_bringIn_2 : decode cX3_bringIn 2 = .ok (.getfield 28, 3) := by decide +kernel
theorem dX3_bringIn_5 : decode cX3_bringIn 5 = .ok (.iload_n 1, 1) := by decide +kernel
theorem dX3_bringIn_6 : decode cX3_bringIn 6 = .ok (.iadd, 1) := by decide +kernel
theorem dX3_bringIn_7 : decode cX3_bringIn 7 = .ok (.putfield 28, 3) := by decide +kernel
theorem dX3_bringIn_10 : decode cX3_bringIn 10 = .ok (.aload_n 0, 1) := by decide +kernel
theorem dX3_bringIn_11 : decode cX3_bringIn 11 = .ok (.getfield 12, 3) := by decide +kernel
theorem dX3_bringIn_14 : decode cX3_bringIn 14 = .ok (.dup, 1) := by decide +kernel
theorem dX3_bringIn_15 : decode cX3_bringIn 15 = .ok (.getfield 94, 3) := by decide +kernel
theorem dX3_bringIn_18 : decode cX3_bringIn 18 = .ok (.iload_n 1, 1) := by decide +kernel
theorem dX3_bringIn_19 : decode cX3_bringIn 19 = .ok (.iadd, 1) := by decide +kernel
theorem dX3_bringIn_20 : decode cX3_bringIn 20 = .ok (.putfield 94, 3) := by decide +kernel
theorem dX3_bringIn_23 : decode cX3_bringIn 23 = .ok (.return_, 1) := by decide +kernel
theorem dX3_beginMinute_0 : decode cX3_beginMinute 0 = .ok (.aload_n 0, 1) := by decide +kernel
theorem dX3_beginMinute_1 : decode cX3_beginMinute 1 = .ok (.aload_n 0, 1) := by decide +kernel
theorem dX3_beginMinute_2 : decode cX3_beginMinute 2 = .ok (.invokevirtual 37, 3) := by decide +kernel
theorem dX3_beginMinute_5 : decode cX3_beginMinute 5 = .ok (.putfield 73, 3) := by decide +kernel
theorem dX3_beginMinute_8 : decode cX3_beginMinute 8 = .ok (.aload_n 0, 1) := by decide +kernel
theorem dX3_beginMinute_9 : decode cX3_beginMinute 9 = .ok (.getfield 44, 3) := by decide +kernel
theorem dX3_beginMinute_12 : decode cX3_beginMinute 12 = .ok (.ifCond .eq 39, 3) := by decide +kernel
theorem dX3_beginMinute_15 : decode cX3_beginMinute 15 = .ok (.aload_n 0, 1) := by decide +kernel
theorem dX3_beginMinute_16 : decode cX3_beginMinute 16 = .ok (.getfield 51, 3) := by decide +kernel
theorem dX3_beginMinute_19 : decode cX3_beginMinute 19 = .ok (.ifCond .ne 32, 3) := by decide +kernel
theorem dX3_beginMinute_22 : decode cX3_beginMinute 22 = .ok (.aload_n 0, 1) := by decide +kernel
theorem dX3_beginMinute_23 : decode cX3_beginMinute 23 = .ok (.dup, 1) := by decide +kernel
theorem dX3_beginMinute_24 : decode cX3_beginMinute 24 = .ok (.getfield 28, 3) := by decide +kernel
theorem dX3_beginMinute_27 : decode cX3_beginMinute 27 = .ok (.aload_n 0, 1) := by decide +kernel
theorem dX3_beginMinute_28 : decode cX3_beginMinute 28 = .ok (.getfield 22, 3) := by decide +kernel
theorem dX3_beginMinute_31 : decode cX3_beginMinute 31 = .ok (.iadd, 1) := by decide +kernel
theorem dX3_beginMinute_32 : decode cX3_beginMinute 32 = .ok (.putfield 28, 3) := by decide +kernel
theorem dX3_beginMinute_35 : decode cX3_beginMinute 35 = .ok (.aload_n 0, 1) := by decide +kernel
theorem dX3_beginMinute_36 : decode cX3_beginMinute 36 = .ok (.getfield 12, 3) := by decide +kernel
theorem dX3_beginMinute_39 : decode cX3_beginMinute 39 = .ok (.dup, 1) := by decide +kernel
theorem dX3_beginMinute_40 : decode cX3_beginMinute 40 = .ok (.getfield 97, 3) := by decide +kernel
theorem dX3_beginMinute_43 : decode cX3_beginMinute 43 = .ok (.aload_n 0, 1) := by decide +kernel
theorem dX3_beginMinute_44 : decode cX3_beginMinute 44 = .ok (.getfield 22, 3) := by decide +kernel
theorem dX3_beginMinute_47 : decode cX3_beginMinute 47 = .ok (.iadd, 1) := by decide +kernel
theorem dX3_beginMinute_48 : decode cX3_beginMinute 48 = .ok (.putfield 97, 3) := by decide +kernel
theorem dX3_beginMinute_51 : decode cX3_beginMinute 51 = .ok (.aload_n 0, 1) := by decide +kernel
theorem dX3_beginMinute_52 : decode cX3_beginMinute 52 = .ok (.getfield 25, 3) := by decide +kernel
theorem dX3_beginMinute_55 : decode cX3_beginMinute 55 = .ok (.aload_n 0, 1) := by decide +kernel
theorem dX3_beginMinute_56 : decode cX3_beginMinute 56 = .ok (.getfield 73, 3) := by decide +kernel
theorem dX3_beginMinute_59 : decode cX3_beginMinute 59 = .ok (.iload_n 1, 1) := by decide +kernel
theorem dX3_beginMinute_60 : decode cX3_beginMinute 60 = .ok (.isub, 1) := by decide +kernel
theorem dX3_beginMinute_61 : decode cX3_beginMinute 61 = .ok (.imul, 1) := by decide +kernel
theorem dX3_beginMinute_62 : decode cX3_beginMinute 62 = .ok (.sipush 1000, 3) := by decide +kernel
theorem dX3_beginMinute_65 : decode cX3_beginMinute 65 = .ok (.idiv, 1) := by decide +kernel
theorem dX3_beginMinute_66 : decode cX3_beginMinute 66 = .ok (.istore_n 2, 1) := by decide +kernel
theorem dX3_beginMinute_67 : decode cX3_beginMinute 67 = .ok (.aload_n 0, 1) := by decide +kernel
theorem dX3_beginMinute_68 : decode cX3_beginMinute 68 = .ok (.dup, 1) := by decide +kernel
theorem dX3_beginMinute_69 : decode cX3_beginMinute 69 = .ok (.getfield 28, 3) := by decide +kernel
theorem dX3_beginMinute_72 : decode cX3_beginMinute 72 = .ok (.iload_n 2, 1) := by decide +kernel
theorem dX3_beginMinute_73 : decode cX3_beginMinute 73 = .ok (.isub, 1) := by decide +kernel
theorem dX3_beginMinute_74 : decode cX3_beginMinute 74 = .ok (.putfield 28, 3) := by decide +kernel
theorem dX3_beginMinute_77 : decode cX3_beginMinute 77 = .ok (.aload_n 0, 1) := by decide +kernel
theorem dX3_beginMinute_78 : decode cX3_beginMinute 78 = .ok (.getfield 12, 3) := by decide +kernel
theorem dX3_beginMinute_81 : decode cX3_beginMinute 81 = .ok (.dup, 1) := by decide +kernel
theorem dX3_beginMinute_82 : decode cX3_beginMinute 82 = .ok (.getfield 100, 3) := by decide +kernel
theorem dX3_beginMinute_85 : decode cX3_beginMinute 85 = .ok (.iload_n 2, 1) := by decide +kernel
theorem dX3_beginMinute_86 : decode cX3_beginMinute 86 = .ok (.iadd, 1) := by decide +kernel
theorem dX3_beginMinute_87 : decode cX3_beginMinute 87 = .ok (.putfield 100, 3) := by decide +kernel
theorem dX3_beginMinute_90 : decode cX3_beginMinute 90 = .ok (.return_, 1) := by decide +kernel
theorem dX3_giveToOthers_0 : decode cX3_giveToOthers 0 = .ok (.aload_n 0, 1) := by decide +kernel
theorem dX3_giveToOthers_1 : decode cX3_giveToOthers 1 = .ok (.dup, 1) := by decide +kernel
theorem dX3_giveToOthers_2 : decode cX3_giveToOthers 2 = .ok (.getfield 28, 3) := by decide +kernel
theorem dX3_giveToOthers_5 : decode cX3_giveToOthers 5 = .ok (.iload_n 1, 1) := by decide +kernel
theorem dX3_giveToOthers_6 : decode cX3_giveToOthers 6 = .ok (.isub, 1) := by decide +kernel
theorem dX3_giveToOthers_7 : decode cX3_giveToOthers 7 = .ok (.putfield 28, 3) := by decide +kernel
theorem dX3_giveToOthers_10 : decode cX3_giveToOthers 10 = .ok (.aload_n 0, 1) := by decide +kernel
theorem dX3_giveToOthers_11 : decode cX3_giveToOthers 11 = .ok (.getfield 12, 3) := by decide +kernel
theorem dX3_giveToOthers_14 : decode cX3_giveToOthers 14 = .ok (.dup, 1) := by decide +kernel
theorem dX3_giveToOthers_15 : decode cX3_giveToOthers 15 = .ok (.getfield 103, 3) := by decide +kernel
theorem dX3_giveToOthers_18 : decode cX3_giveToOthers 18 = .ok (.iload_n 1, 1) := by decide +kernel
theorem dX3_giveToOthers_19 : decode cX3_giveToOthers 19 = .ok (.iadd, 1) := by decide +kernel
theorem dX3_giveToOthers_20 : decode cX3_giveToOthers 20 = .ok (.putfield 103, 3) := by decide +kernel
theorem dX3_giveToOthers_23 : decode cX3_giveToOthers 23 = .ok (.return_, 1) := by decide +kernel
theorem dX3_tryToOpen_0 : decode cX3_tryToOpen 0 = .ok (.aload_n 0, 1) := by decide +kernel
theorem dX3_tryToOpen_1 : decode cX3_tryToOpen 1 = .ok (.getfield 48, 3) := by decide +kernel
theorem dX3_tryToOpen_4 : decode cX3_tryToOpen 4 = .ok (.ifCond .ne 9, 3) := by decide +kernel
theorem dX3_tryToOpen_7 : decode cX3_tryToOpen 7 = .ok (.aload_n 0, 1) := by decide +kernel
theorem dX3_tryToOpen_8 : decode cX3_tryToOpen 8 = .ok (.iconst 0, 1) := by decide +kernel
theorem dX3_tryToOpen_9 : decode cX3_tryToOpen 9 = .ok (.putfield 44, 3) := by decide +kernel
theorem dX3_tryToOpen_12 : decode cX3_tryToOpen 12 = .ok (.return_, 1) := by decide +kernel
theorem dX3_tryToOpen_13 : decode cX3_tryToOpen 13 = .ok (.aload_n 0, 1) := by decide +kernel
theorem dX3_tryToOpen_14 : decode cX3_tryToOpen 14 = .ok (.dup, 1) := by decide +kernel
theorem dX3_tryToOpen_15 : decode cX3_tryToOpen 15 = .ok (.getfield 57, 3) := by decide +kernel
theorem dX3_tryToOpen_18 : decode cX3_tryToOpen 18 = .ok (.iconst 1, 1) := by decide +kernel
theorem dX3_tryToOpen_19 : decode cX3_tryToOpen 19 = .ok (.iadd, 1) := by decide +kernel
theorem dX3_tryToOpen_20 : decode cX3_tryToOpen 20 = .ok (.putfield 57, 3) := by decide +kernel
theorem dX3_tryToOpen_23 : decode cX3_tryToOpen 23 = .ok (.aload_n 0, 1) := by decide +kernel
theorem dX3_tryToOpen_24 : decode cX3_tryToOpen 24 = .ok (.getfield 57, 3) := by decide +kernel
theorem dX3_tryToOpen_27 : decode cX3_tryToOpen 27 = .ok (.iload_n 1, 1) := by decide +kernel
theorem dX3_tryToOpen_28 : decode cX3_tryToOpen 28 = .ok (.if_icmp .lt 28, 3) := by decide +kernel
theorem dX3_tryToOpen_31 : decode cX3_tryToOpen 31 = .ok (.aload_n 0, 1) := by decide +kernel
theorem dX3_tryToOpen_32 : decode cX3_tryToOpen 32 = .ok (.iconst 0, 1) := by decide +kernel
theorem dX3_tryToOpen_33 : decode cX3_tryToOpen 33 = .ok (.putfield 44, 3) := by decide +kernel
theorem dX3_tryToOpen_36 : decode cX3_tryToOpen 36 = .ok (.aload_n 0, 1) := by decide +kernel
theorem dX3_tryToOpen_37 : decode cX3_tryToOpen 37 = .ok (.iconst 0, 1) := by decide +kernel
theorem dX3_tryToOpen_38 : decode cX3_tryToOpen 38 = .ok (.putfield 48, 3) := by decide +kernel
theorem dX3_tryToOpen_41 : decode cX3_tryToOpen 41 = .ok (.aload_n 0, 1) := by decide +kernel
theorem dX3_tryToOpen_42 : decode cX3_tryToOpen 42 = .ok (.iconst 0, 1) := by decide +kernel
theorem dX3_tryToOpen_43 : decode cX3_tryToOpen 43 = .ok (.putfield 57, 3) := by decide +kernel
theorem dX3_tryToOpen_46 : decode cX3_tryToOpen 46 = .ok (.aload_n 0, 1) := by decide +kernel
theorem dX3_tryToOpen_47 : decode cX3_tryToOpen 47 = .ok (.dup, 1) := by decide +kernel
theorem dX3_tryToOpen_48 : decode cX3_tryToOpen 48 = .ok (.getfield 54, 3) := by decide +kernel
theorem dX3_tryToOpen_51 : decode cX3_tryToOpen 51 = .ok (.iconst 2, 1) := by decide +kernel
theorem dX3_tryToOpen_52 : decode cX3_tryToOpen 52 = .ok (.idiv, 1) := by decide +kernel
theorem dX3_tryToOpen_53 : decode cX3_tryToOpen 53 = .ok (.putfield 54, 3) := by decide +kernel
theorem dX3_tryToOpen_56 : decode cX3_tryToOpen 56 = .ok (.return_, 1) := by decide +kernel
theorem dX3_renewContact_0 : decode cX3_renewContact 0 = .ok (.aload_n 0, 1) := by decide +kernel
theorem dX3_renewContact_1 : decode cX3_renewContact 1 = .ok (.iconst 0, 1) := by decide +kernel
theorem dX3_renewContact_2 : decode cX3_renewContact 2 = .ok (.putfield 54, 3) := by decide +kernel
theorem dX3_renewContact_5 : decode cX3_renewContact 5 = .ok (.aload_n 0, 1) := by decide +kernel
theorem dX3_renewContact_6 : decode cX3_renewContact 6 = .ok (.iconst 0, 1) := by decide +kernel
theorem dX3_renewContact_7 : decode cX3_renewContact 7 = .ok (.putfield 57, 3) := by decide +kernel
theorem dX3_renewContact_10 : decode cX3_renewContact 10 = .ok (.aload_n 0, 1) := by decide +kernel
theorem dX3_renewContact_11 : decode cX3_renewContact 11 = .ok (.iconst 0, 1) := by decide +kernel
theorem dX3_renewContact_12 : decode cX3_renewContact 12 = .ok (.putfield 48, 3) := by decide +kernel
theorem dX3_renewContact_15 : decode cX3_renewContact 15 = .ok (.aload_n 0, 1) := by decide +kernel
theorem dX3_renewContact_16 : decode cX3_renewContact 16 = .ok (.iconst 0, 1) := by decide +kernel
theorem dX3_renewContact_17 : decode cX3_renewContact 17 = .ok (.putfield 44, 3) := by decide +kernel
theorem dX3_renewContact_20 : decode cX3_renewContact 20 = .ok (.return_, 1) := by decide +kernel
theorem dX3_property_0 : decode cX3_property 0 = .ok (.iload_n 1, 1) := by decide +kernel
theorem dX3_property_1 : decode cX3_property 1 = .ok (.tableswitch 165 0 13 #[71, 76, 81, 86, 99, 112, 117, 122, 127, 132, 137, 150, 155, 160], 71) := by decide +kernel
theorem dX3_property_72 : decode cX3_property 72 = .ok (.aload_n 0, 1) := by decide +kernel
theorem dX3_property_73 : decode cX3_property 73 = .ok (.invokevirtual 37, 3) := by decide +kernel
theorem dX3_property_76 : decode cX3_property 76 = .ok (.ireturn, 1) := by decide +kernel
theorem dX3_property_77 : decode cX3_property 77 = .ok (.aload_n 0, 1) := by decide +kernel
theorem dX3_property_78 : decode cX3_property 78 = .ok (.getfield 28, 3) := by decide +kernel
theorem dX3_property_81 : decode cX3_property 81 = .ok (.ireturn, 1) := by decide +kernel
theorem dX3_property_82 : decode cX3_property 82 = .ok (.aload_n 0, 1) := by decide +kernel
theorem dX3_property_83 : decode cX3_property 83 = .ok (.getfield 41, 3) := by decide +kernel
theorem dX3_property_86 : decode cX3_property 86 = .ok (.ireturn, 1) := by decide +kernel
theorem dX3_property_87 : decode cX3_property 87 = .ok (.aload_n 0, 1) := by decide +kernel
theorem dX3_property_88 : decode cX3_property 88 = .ok (.getfield 44, 3) := by decide +kernel
theorem dX3_property_91 : decode cX3_property 91 = .ok (.ifCond .eq 7, 3) := by decide +kernel
theorem dX3_property_94 : decode cX3_property 94 = .ok (.iconst 1, 1) := by decide +kernel
theorem dX3_property_95 : decode cX3_property 95 = .ok (.goto 4, 3) := by decide +kernel
theorem dX3_property_98 : decode cX3_property 98 = .ok (.iconst 0, 1) := by decide +kernel
theorem dX3_property_99 : decode cX3_property 99 = .ok (.ireturn, 1) := by decide +kernel
theorem dX3_property_100 : decode cX3_property 100 = .ok (.aload_n 0, 1) := by decide +kernel
theorem dX3_property_101 : decode cX3_property 101 = .ok (.getfield 48, 3) := by decide +kernel
theorem dX3_property_104 : decode cX3_property 104 = .ok (.ifCond .eq 7, 3) := by decide +kernel
theorem dX3_property_107 : decode cX3_property 107 = .ok (.iconst 1, 1) := by decide +kernel
theorem dX3_property_108 : decode cX3_property 108 = .ok (.goto 4, 3) := by decide +kernel
theorem dX3_property_111 : decode cX3_property 111 = .ok (.iconst 0, 1) := by decide +kernel
theorem dX3_property_112 : decode cX3_property 112 = .ok (.ireturn, 1) := by decide +kernel
theorem dX3_property_113 : decode cX3_property 113 = .ok (.aload_n 0, 1) := by decide +kernel
theorem dX3_property_114 : decode cX3_property 114 = .ok (.getfield 54, 3) := by decide +kernel
theorem dX3_property_117 : decode cX3_property 117 = .ok (.ireturn, 1) := by decide +kernel
theorem dX3_property_118 : decode cX3_property 118 = .ok (.aload_n 0, 1) := by decide +kernel
theorem dX3_property_119 : decode cX3_property 119 = .ok (.getfield 57, 3) := by decide +kernel
theorem dX3_property_122 : decode cX3_property 122 = .ok (.ireturn, 1) := by decide +kernel
theorem dX3_property_123 : decode cX3_property 123 = .ok (.aload_n 0, 1) := by decide +kernel
theorem dX3_property_124 : decode cX3_property 124 = .ok (.getfield 60, 3) := by decide +kernel
theorem dX3_property_127 : decode cX3_property 127 = .ok (.ireturn, 1) := by decide +kernel
theorem dX3_property_128 : decode cX3_property 128 = .ok (.aload_n 0, 1) := by decide +kernel
theorem dX3_property_129 : decode cX3_property 129 = .ok (.getfield 67, 3) := by decide +kernel
theorem dX3_property_132 : decode cX3_property 132 = .ok (.ireturn, 1) := by decide +kernel
theorem dX3_property_133 : decode cX3_property 133 = .ok (.aload_n 0, 1) := by decide +kernel
theorem dX3_property_134 : decode cX3_property 134 = .ok (.getfield 70, 3) := by decide +kernel
theorem dX3_property_137 : decode cX3_property 137 = .ok (.ireturn, 1) := by decide +kernel
theorem dX3_property_138 : decode cX3_property 138 = .ok (.aload_n 0, 1) := by decide +kernel
theorem dX3_property_139 : decode cX3_property 139 = .ok (.getfield 51, 3) := by decide +kernel
theorem dX3_property_142 : decode cX3_property 142 = .ok (.ifCond .eq 7, 3) := by decide +kernel
theorem dX3_property_145 : decode cX3_property 145 = .ok (.iconst 1, 1) := by decide +kernel
theorem dX3_property_146 : decode cX3_property 146 = .ok (.goto 4, 3) := by decide +kernel
theorem dX3_property_149 : decode cX3_property 149 = .ok (.iconst 0, 1) := by decide +kernel
theorem dX3_property_150 : decode cX3_property 150 = .ok (.ireturn, 1) := by decide +kernel
theorem dX3_property_151 : decode cX3_property 151 = .ok (.aload_n 0, 1) := by decide +kernel
theorem dX3_property_152 : decode cX3_property 152 = .ok (.getfield 64, 3) := by decide +kernel
theorem dX3_property_155 : decode cX3_property 155 = .ok (.ireturn, 1) := by decide +kernel
theorem dX3_property_156 : decode cX3_property 156 = .ok (.aload_n 0, 1) := by decide +kernel
theorem dX3_property_157 : decode cX3_property 157 = .ok (.getfield 31, 3) := by decide +kernel
theorem dX3_property_160 : decode cX3_property 160 = .ok (.ireturn, 1) := by decide +kernel
theorem dX3_property_161 : decode cX3_property 161 = .ok (.aload_n 0, 1) := by decide +kernel
theorem dX3_property_162 : decode cX3_property 162 = .ok (.getfield 34, 3) := by decide +kernel
theorem dX3_property_165 : decode cX3_property 165 = .ok (.ireturn, 1) := by decide +kernel
theorem dX3_property_166 : decode cX3_property 166 = .ok (.ldc 106, 2) := by decide +kernel
theorem dX3_property_168 : decode cX3_property 168 = .ok (.ireturn, 1) := by decide +kernel
theorem dX4_init_0 : decode cX4_init 0 = .ok (.aload_n 0, 1) := by decide +kernel
theorem dX4_init_1 : decode cX4_init 1 = .ok (.invokespecial 3, 3) := by decide +kernel
theorem dX4_init_4 : decode cX4_init 4 = .ok (.aload_n 0, 1) := by decide +kernel
theorem dX4_init_5 : decode cX4_init 5 = .ok (.bipush 12, 2) := by decide +kernel
theorem dX4_init_7 : decode cX4_init 7 = .ok (.newarray .int, 2) := by decide +kernel
theorem dX4_init_9 : decode cX4_init 9 = .ok (.putfield 9, 3) := by decide +kernel
theorem dX4_init_12 : decode cX4_init 12 = .ok (.aload_n 0, 1) := by decide +kernel
theorem dX4_init_13 : decode cX4_init 13 = .ok (.bipush 12, 2) := by decide +kernel
theorem dX4_init_15 : decode cX4_init 15 = .ok (.newarray .int, 2) := by decide +kernel
theorem dX4_init_17 : decode cX4_init 17 = .ok (.putfield 15, 3) := by decide +kernel
theorem dX4_init_20 : decode cX4_init 20 = .ok (.return_, 1) := by decide +kernel
theorem dX4_copyFrom_0 : decode cX4_copyFrom 0 = .ok (.aload_n 1, 1) := by decide +kernel
theorem dX4_copyFrom_1 : decode cX4_copyFrom 1 = .ok (.getfield 9, 3) := by decide +kernel
theorem dX4_copyFrom_4 : decode cX4_copyFrom 4 = .ok (.iconst 0, 1) := by decide +kernel
theorem dX4_copyFrom_5 : decode cX4_copyFrom 5 = .ok (.aload_n 0, 1) := by decide +kernel
theorem dX4_copyFrom_6 : decode cX4_copyFrom 6 = .ok (.getfield 9, 3) := by decide +kernel
theorem dX4_copyFrom_9 : decode cX4_copyFrom 9 = .ok (.iconst 0, 1) := by decide +kernel
theorem dX4_copyFrom_10 : decode cX4_copyFrom 10 = .ok (.bipush 12, 2) := by decide +kernel
theorem dX4_copyFrom_12 : decode cX4_copyFrom 12 = .ok (.invokestatic 18, 3) := by decide +kernel
theorem dX4_copyFrom_15 : decode cX4_copyFrom 15 = .ok (.aload_n 1, 1) := by decide +kernel
theorem dX4_copyFrom_16 : decode cX4_copyFrom 16 = .ok (.getfield 15, 3) := by decide +kernel
theorem dX4_copyFrom_19 : decode cX4_copyFrom 19 = .ok (.iconst 0, 1) := by decide +kernel
theorem dX4_copyFrom_20 : decode cX4_copyFrom 20 = .ok (.aload_n 0, 1) := by decide +kernel
theorem dX4_copyFrom_21 : decode cX4_copyFrom 21 = .ok (.getfield 15, 3) := by decide +kernel
theorem dX4_copyFrom_24 : decode cX4_copyFrom 24 = .ok (.iconst 0, 1) := by decide +kernel
theorem dX4_copyFrom_25 : decode cX4_copyFrom 25 = .ok (.bipush 12, 2) := by decide +kernel
theorem dX4_copyFrom_27 : decode cX4_copyFrom 27 = .ok (.invokestatic 18, 3) := by decide +kernel
theorem dX4_copyFrom_30 : decode cX4_copyFrom 30 = .ok (.aload_n 0, 1) := by decide +kernel
theorem dX4_copyFrom_31 : decode cX4_copyFrom 31 = .ok (.aload_n 1, 1) := by decide +kernel
theorem dX4_copyFrom_32 : decode cX4_copyFrom 32 = .ok (.getfield 24, 3) := by decide +kernel
theorem dX4_copyFrom_35 : decode cX4_copyFrom 35 = .ok (.putfield 24, 3) := by decide +kernel
theorem dX4_copyFrom_38 : decode cX4_copyFrom 38 = .ok (.return_, 1) := by decide +kernel
theorem dX4_canTake_0 : decode cX4_canTake 0 = .ok (.aload_n 0, 1) := by decide +kernel
theorem dX4_canTake_1 : decode cX4_canTake 1 = .ok (.getfield 24, 3) := by decide +kernel
theorem dX4_canTake_4 : decode cX4_canTake 4 = .ok (.ifCond .lt 19, 3) := by decide +kernel
theorem dX4_canTake_7 : decode cX4_canTake 7 = .ok (.aload_n 0, 1) := by decide +kernel
theorem dX4_canTake_8 : decode cX4_canTake 8 = .ok (.getfield 24, 3) := by decide +kernel
theorem dX4_canTake_11 : decode cX4_canTake 11 = .ok (.bipush 12, 2) := by decide +kernel
theorem dX4_canTake_13 : decode cX4_canTake 13 = .ok (.if_icmp .ge 10, 3) := by decide +kernel
theorem dX4_canTake_16 : decode cX4_canTake 16 = .ok (.iload_n 1, 1) := by decide +kernel
theorem dX4_canTake_17 : decode cX4_canTake 17 = .ok (.sipush 9999, 3) := by decide +kernel
theorem dX4_canTake_20 : decode cX4_canTake 20 = .ok (.if_icmp .le 5, 3) := by decide +kernel
theorem dX4_canTake_23 : decode cX4_canTake 23 = .ok (.iconst 0, 1) := by decide +kernel
theorem dX4_canTake_24 : decode cX4_canTake 24 = .ok (.ireturn, 1) := by decide +kernel
theorem dX4_canTake_25 : decode cX4_canTake 25 = .ok (.aload_n 0, 1) := by decide +kernel
theorem dX4_canTake_26 : decode cX4_canTake 26 = .ok (.getfield 24, 3) := by decide +kernel
theorem dX4_canTake_29 : decode cX4_canTake 29 = .ok (.ifCond .eq 18, 3) := by decide +kernel
theorem dX4_canTake_32 : decode cX4_canTake 32 = .ok (.iload_n 1, 1) := by decide +kernel
theorem dX4_canTake_33 : decode cX4_canTake 33 = .ok (.aload_n 0, 1) := by decide +kernel
theorem dX4_canTake_34 : decode cX4_canTake 34 = .ok (.getfield 9, 3) := by decide +kernel
theorem dX4_canTake_37 : decode cX4_canTake 37 = .ok (.aload_n 0, 1) := by decide +kernel
theorem dX4_canTake_38 : decode cX4_canTake 38 = .ok (.getfield 24, 3) := by decide +kernel
theorem dX4_canTake_41 : decode cX4_canTake 41 = .ok (.iconst 1, 1) := by decide +kernel
theorem dX4_canTake_42 : decode cX4_canTake 42 = .ok (.isub, 1) := by decide +kernel
theorem dX4_canTake_43 : decode cX4_canTake 43 = .ok (.iaload, 1) := by decide +kernel
theorem dX4_canTake_44 : decode cX4_canTake 44 = .ok (.if_icmp .le 7, 3) := by decide +kernel
theorem dX4_canTake_47 : decode cX4_canTake 47 = .ok (.iconst 1, 1) := by decide +kernel
theorem dX4_canTake_48 : decode cX4_canTake 48 = .ok (.goto 4, 3) := by decide +kernel
theorem dX4_canTake_51 : decode cX4_canTake 51 = .ok (.iconst 0, 1) := by decide +kernel
theorem dX4_canTake_52 : decode cX4_canTake 52 = .ok (.ireturn, 1) := by decide +kernel
theorem dX4_add_0 : decode cX4_add 0 = .ok (.aload_n 0, 1) := by decide +kernel
theorem dX4_add_1 : decode cX4_add 1 = .ok (.getfield 24, 3) := by decide +kernel
theorem dX4_add_4 : decode cX4_add 4 = .ok (.ifCond .lt 42, 3) := by decide +kernel
theorem dX4_add_7 : decode cX4_add 7 = .ok (.aload_n 0, 1) := by decide +kernel
theorem dX4_add_8 : decode cX4_add 8 = .ok (.getfield 24, 3) := by decide +kernel
end
section
theorem dX4_add_11 : decode cX4_add 11 = .ok (.bipush 12, 2) := by decide +kernel
theorem dX4_add_13 : decode cX4_add 13 = .ok (.if_icmp .ge 33, 3) := by decide +kernel
theorem dX4_add_16 : decode cX4_add 16 = .ok (.aload_n 0, 1) := by decide +kernel
theorem dX4_add_17 : decode cX4_add 17 = .ok (.getfield 9, 3) := by decide +kernel
theorem dX4_add_20 : decode cX4_add 20 = .ok (.aload_n 0, 1) := by decide +kernel
theorem dX4_add_21 : decode cX4_add 21 = .ok (.getfield 24, 3) := by decide +kernel
theorem dX4_add_24 : decode cX4_add 24 = .ok (.iload_n 1, 1) := by decide +kernel
theorem dX4_add_25 : decode cX4_add 25 = .ok (.iastore, 1) := by decide +kernel
theorem dX4_add_26 : decode cX4_add 26 = .ok (.aload_n 0, 1) := by decide +kernel
theorem dX4_add_27 : decode cX4_add 27 = .ok (.getfield 15, 3) := by decide +kernel
theorem dX4_add_30 : decode cX4_add 30 = .ok (.aload_n 0, 1) := by decide +kernel
theorem dX4_add_31 : decode cX4_add 31 = .ok (.getfield 24, 3) := by decide +kernel
theorem dX4_add_34 : decode cX4_add 34 = .ok (.iload_n 2, 1) := by decide +kernel
theorem dX4_add_35 : decode cX4_add 35 = .ok (.iastore, 1) := by decide +kernel
theorem dX4_add_36 : decode cX4_add 36 = .ok (.aload_n 0, 1) := by decide +kernel
theorem dX4_add_37 : decode cX4_add 37 = .ok (.dup, 1) := by decide +kernel
theorem dX4_add_38 : decode cX4_add 38 = .ok (.getfield 24, 3) := by decide +kernel
theorem dX4_add_41 : decode cX4_add 41 = .ok (.iconst 1, 1) := by decide +kernel
theorem dX4_add_42 : decode cX4_add 42 = .ok (.iadd, 1) := by decide +kernel
theorem dX4_add_43 : decode cX4_add 43 = .ok (.putfield 24, 3) := by decide +kernel
theorem dX4_add_46 : decode cX4_add 46 = .ok (.return_, 1) := by decide +kernel
theorem dX4_temperatureAt_0 : decode cX4_temperatureAt 0 = .ok (.iconst 0, 1) := by decide +kernel
theorem dX4_temperatureAt_1 : decode cX4_temperatureAt 1 = .ok (.istore_n 2, 1) := by decide +kernel
theorem dX4_temperatureAt_2 : decode cX4_temperatureAt 2 = .ok (.iconst 0, 1) := by decide +kernel
theorem dX4_temperatureAt_3 : decode cX4_temperatureAt 3 = .ok (.istore_n 3, 1) := by decide +kernel
theorem dX4_temperatureAt_4 : decode cX4_temperatureAt 4 = .ok (.iload_n 3, 1) := by decide +kernel
theorem dX4_temperatureAt_5 : decode cX4_temperatureAt 5 = .ok (.aload_n 0, 1) := by decide +kernel
theorem dX4_temperatureAt_6 : decode cX4_temperatureAt 6 = .ok (.getfield 24, 3) := by decide +kernel
theorem dX4_temperatureAt_9 : decode cX4_temperatureAt 9 = .ok (.if_icmp .ge 60, 3) := by decide +kernel
theorem dX4_temperatureAt_12 : decode cX4_temperatureAt 12 = .ok (.iload_n 3, 1) := by decide +kernel
theorem dX4_temperatureAt_13 : decode cX4_temperatureAt 13 = .ok (.bipush 12, 2) := by decide +kernel
theorem dX4_temperatureAt_15 : decode cX4_temperatureAt 15 = .ok (.if_icmp .ge 54, 3) := by decide +kernel
theorem dX4_temperatureAt_18 : decode cX4_temperatureAt 18 = .ok (.iload_n 1, 1) := by decide +kernel
theorem dX4_temperatureAt_19 : decode cX4_temperatureAt 19 = .ok (.aload_n 0, 1) := by decide +kernel
theorem dX4_temperatureAt_20 : decode cX4_temperatureAt 20 = .ok (.getfield 9, 3) := by decide +kernel
theorem dX4_temperatureAt_23 : decode cX4_temperatureAt 23 = .ok (.iload_n 3, 1) := by decide +kernel
theorem dX4_temperatureAt_24 : decode cX4_temperatureAt 24 = .ok (.iaload, 1) := by decide +kernel
theorem dX4_temperatureAt_25 : decode cX4_temperatureAt 25 = .ok (.if_icmp .ge 27, 3) := by decide +kernel
theorem dX4_temperatureAt_28 : decode cX4_temperatureAt 28 = .ok (.iload_n 3, 1) := by decide +kernel
theorem dX4_temperatureAt_29 : decode cX4_temperatureAt 29 = .ok (.ifCond .ne 16, 3) := by decide +kernel
theorem dX4_temperatureAt_32 : decode cX4_temperatureAt 32 = .ok (.sipush 1000, 3) := by decide +kernel
theorem dX4_temperatureAt_35 : decode cX4_temperatureAt 35 = .ok (.aload_n 0, 1) := by decide +kernel
theorem dX4_temperatureAt_36 : decode cX4_temperatureAt 36 = .ok (.getfield 15, 3) := by decide +kernel
theorem dX4_temperatureAt_39 : decode cX4_temperatureAt 39 = .ok (.iconst 0, 1) := by decide +kernel
theorem dX4_temperatureAt_40 : decode cX4_temperatureAt 40 = .ok (.iaload, 1) := by decide +kernel
theorem dX4_temperatureAt_41 : decode cX4_temperatureAt 41 = .ok (.imul, 1) := by decide +kernel
theorem dX4_temperatureAt_42 : decode cX4_temperatureAt 42 = .ok (.goto 9, 3) := by decide +kernel
theorem dX4_temperatureAt_45 : decode cX4_temperatureAt 45 = .ok (.aload_n 0, 1) := by decide +kernel
theorem dX4_temperatureAt_46 : decode cX4_temperatureAt 46 = .ok (.iload_n 3, 1) := by decide +kernel
theorem dX4_temperatureAt_47 : decode cX4_temperatureAt 47 = .ok (.iload_n 1, 1) := by decide +kernel
theorem dX4_temperatureAt_48 : decode cX4_temperatureAt 48 = .ok (.invokevirtual 28, 3) := by decide +kernel
theorem dX4_temperatureAt_51 : decode cX4_temperatureAt 51 = .ok (.ireturn, 1) := by decide +kernel
theorem dX4_temperatureAt_52 : decode cX4_temperatureAt 52 = .ok (.sipush 1000, 3) := by decide +kernel
theorem dX4_temperatureAt_55 : decode cX4_temperatureAt 55 = .ok (.aload_n 0, 1) := by decide +kernel
theorem dX4_temperatureAt_56 : decode cX4_temperatureAt 56 = .ok (.getfield 15, 3) := by decide +kernel
theorem dX4_temperatureAt_59 : decode cX4_temperatureAt 59 = .ok (.iload_n 3, 1) := by decide +kernel
theorem dX4_temperatureAt_60 : decode cX4_temperatureAt 60 = .ok (.iaload, 1) := by decide +kernel
theorem dX4_temperatureAt_61 : decode cX4_temperatureAt 61 = .ok (.imul, 1) := by decide +kernel
theorem dX4_temperatureAt_62 : decode cX4_temperatureAt 62 = .ok (.istore_n 2, 1) := by decide +kernel
theorem dX4_temperatureAt_63 : decode cX4_temperatureAt 63 = .ok (.iinc 3 1, 3) := by decide +kernel
theorem dX4_temperatureAt_66 : decode cX4_temperatureAt 66 = .ok (.goto (-62), 3) := by decide +kernel
theorem dX4_temperatureAt_69 : decode cX4_temperatureAt 69 = .ok (.iload_n 2, 1) := by decide +kernel
theorem dX4_temperatureAt_70 : decode cX4_temperatureAt 70 = .ok (.ireturn, 1) := by decide +kernel
theorem dX4_temperatureBefore_0 : decode cX4_temperatureBefore 0 = .ok (.iload_n 1, 1) := by decide +kernel
theorem dX4_temperatureBefore_1 : decode cX4_temperatureBefore 1 = .ok (.iconst 1, 1) := by decide +kernel
theorem dX4_temperatureBefore_2 : decode cX4_temperatureBefore 2 = .ok (.if_icmp .lt 9, 3) := by decide +kernel
theorem dX4_temperatureBefore_5 : decode cX4_temperatureBefore 5 = .ok (.iload_n 1, 1) := by decide +kernel
theorem dX4_temperatureBefore_6 : decode cX4_temperatureBefore 6 = .ok (.bipush 12, 2) := by decide +kernel
theorem dX4_temperatureBefore_8 : decode cX4_temperatureBefore 8 = .ok (.if_icmp .lt 5, 3) := by decide +kernel
theorem dX4_temperatureBefore_11 : decode cX4_temperatureBefore 11 = .ok (.iconst 0, 1) := by decide +kernel
theorem dX4_temperatureBefore_12 : decode cX4_temperatureBefore 12 = .ok (.ireturn, 1) := by decide +kernel
theorem dX4_temperatureBefore_13 : decode cX4_temperatureBefore 13 = .ok (.aload_n 0, 1) := by decide +kernel
theorem dX4_temperatureBefore_14 : decode cX4_temperatureBefore 14 = .ok (.getfield 15, 3) := by decide +kernel
theorem dX4_temperatureBefore_17 : decode cX4_temperatureBefore 17 = .ok (.iload_n 1, 1) := by decide +kernel
theorem dX4_temperatureBefore_18 : decode cX4_temperatureBefore 18 = .ok (.iconst 1, 1) := by decide +kernel
theorem dX4_temperatureBefore_19 : decode cX4_temperatureBefore 19 = .ok (.isub, 1) := by decide +kernel
theorem dX4_temperatureBefore_20 : decode cX4_temperatureBefore 20 = .ok (.iaload, 1) := by decide +kernel
theorem dX4_temperatureBefore_21 : decode cX4_temperatureBefore 21 = .ok (.istore_n 3, 1) := by decide +kernel
theorem dX4_temperatureBefore_22 : decode cX4_temperatureBefore 22 = .ok (.aload_n 0, 1) := by decide +kernel
theorem dX4_temperatureBefore_23 : decode cX4_temperatureBefore 23 = .ok (.getfield 9, 3) := by decide +kernel
theorem dX4_temperatureBefore_26 : decode cX4_temperatureBefore 26 = .ok (.iload_n 1, 1) := by decide +kernel
theorem dX4_temperatureBefore_27 : decode cX4_temperatureBefore 27 = .ok (.iaload, 1) := by decide +kernel
theorem dX4_temperatureBefore_28 : decode cX4_temperatureBefore 28 = .ok (.aload_n 0, 1) := by decide +kernel
theorem dX4_temperatureBefore_29 : decode cX4_temperatureBefore 29 = .ok (.getfield 9, 3) := by decide +kernel
theorem dX4_temperatureBefore_32 : decode cX4_temperatureBefore 32 = .ok (.iload_n 1, 1) := by decide +kernel
theorem dX4_temperatureBefore_33 : decode cX4_temperatureBefore 33 = .ok (.iconst 1, 1) := by decide +kernel
theorem dX4_temperatureBefore_34 : decode cX4_temperatureBefore 34 = .ok (.isub, 1) := by decide +kernel
theorem dX4_temperatureBefore_35 : decode cX4_temperatureBefore 35 = .ok (.iaload, 1) := by decide +kernel
theorem dX4_temperatureBefore_36 : decode cX4_temperatureBefore 36 = .ok (.isub, 1) := by decide +kernel
theorem dX4_temperatureBefore_37 : decode cX4_temperatureBefore 37 = .ok (.istore 4, 2) := by decide +kernel
theorem dX4_temperatureBefore_39 : decode cX4_temperatureBefore 39 = .ok (.iload_n 2, 1) := by decide +kernel
theorem dX4_temperatureBefore_40 : decode cX4_temperatureBefore 40 = .ok (.aload_n 0, 1) := by decide +kernel
theorem dX4_temperatureBefore_41 : decode cX4_temperatureBefore 41 = .ok (.getfield 9, 3) := by decide +kernel
theorem dX4_temperatureBefore_44 : decode cX4_temperatureBefore 44 = .ok (.iload_n 1, 1) := by decide +kernel
theorem dX4_temperatureBefore_45 : decode cX4_temperatureBefore 45 = .ok (.iconst 1, 1) := by decide +kernel
theorem dX4_temperatureBefore_46 : decode cX4_temperatureBefore 46 = .ok (.isub, 1) := by decide +kernel
theorem dX4_temperatureBefore_47 : decode cX4_temperatureBefore 47 = .ok (.iaload, 1) := by decide +kernel
theorem dX4_temperatureBefore_48 : decode cX4_temperatureBefore 48 = .ok (.isub, 1) := by decide +kernel
theorem dX4_temperatureBefore_49 : decode cX4_temperatureBefore 49 = .ok (.istore 5, 2) := by decide +kernel
theorem dX4_temperatureBefore_51 : decode cX4_temperatureBefore 51 = .ok (.iload 4, 2) := by decide +kernel
theorem dX4_temperatureBefore_53 : decode cX4_temperatureBefore 53 = .ok (.ifCond .ne 11, 3) := by decide +kernel
theorem dX4_temperatureBefore_56 : decode cX4_temperatureBefore 56 = .ok (.sipush 1000, 3) := by decide +kernel
theorem dX4_temperatureBefore_59 : decode cX4_temperatureBefore 59 = .ok (.iload_n 3, 1) := by decide +kernel
theorem dX4_temperatureBefore_60 : decode cX4_temperatureBefore 60 = .ok (.imul, 1) := by decide +kernel
theorem dX4_temperatureBefore_61 : decode cX4_temperatureBefore 61 = .ok (.goto 27, 3) := by decide +kernel
theorem dX4_temperatureBefore_64 : decode cX4_temperatureBefore 64 = .ok (.sipush 1000, 3) := by decide +kernel
theorem dX4_temperatureBefore_67 : decode cX4_temperatureBefore 67 = .ok (.iload_n 3, 1) := by decide +kernel
theorem dX4_temperatureBefore_68 : decode cX4_temperatureBefore 68 = .ok (.imul, 1) := by decide +kernel
theorem dX4_temperatureBefore_69 : decode cX4_temperatureBefore 69 = .ok (.sipush 1000, 3) := by decide +kernel
theorem dX4_temperatureBefore_72 : decode cX4_temperatureBefore 72 = .ok (.aload_n 0, 1) := by decide +kernel
theorem dX4_temperatureBefore_73 : decode cX4_temperatureBefore 73 = .ok (.getfield 15, 3) := by decide +kernel
theorem dX4_temperatureBefore_76 : decode cX4_temperatureBefore 76 = .ok (.iload_n 1, 1) := by decide +kernel
theorem dX4_temperatureBefore_77 : decode cX4_temperatureBefore 77 = .ok (.iaload, 1) := by decide +kernel
theorem dX4_temperatureBefore_78 : decode cX4_temperatureBefore 78 = .ok (.iload_n 3, 1) := by decide +kernel
theorem dX4_temperatureBefore_79 : decode cX4_temperatureBefore 79 = .ok (.isub, 1) := by decide +kernel
theorem dX4_temperatureBefore_80 : decode cX4_temperatureBefore 80 = .ok (.imul, 1) := by decide +kernel
theorem dX4_temperatureBefore_81 : decode cX4_temperatureBefore 81 = .ok (.iload 5, 2) := by decide +kernel
theorem dX4_temperatureBefore_83 : decode cX4_temperatureBefore 83 = .ok (.imul, 1) := by decide +kernel
theorem dX4_temperatureBefore_84 : decode cX4_temperatureBefore 84 = .ok (.iload 4, 2) := by decide +kernel
theorem dX4_temperatureBefore_86 : decode cX4_temperatureBefore 86 = .ok (.idiv, 1) := by decide +kernel
theorem dX4_temperatureBefore_87 : decode cX4_temperatureBefore 87 = .ok (.iadd, 1) := by decide +kernel
theorem dX4_temperatureBefore_88 : decode cX4_temperatureBefore 88 = .ok (.ireturn, 1) := by decide +kernel
theorem dX5_init_0 : decode cX5_init 0 = .ok (.aload_n 0, 1) := by decide +kernel
theorem dX5_init_1 : decode cX5_init 1 = .ok (.invokespecial 3, 3) := by decide +kernel
theorem dX5_init_4 : decode cX5_init 4 = .ok (.aload_n 0, 1) := by decide +kernel
theorem dX5_init_5 : decode cX5_init 5 = .ok (.bipush 100, 2) := by decide +kernel
theorem dX5_init_7 : decode cX5_init 7 = .ok (.newarray .int, 2) := by decide +kernel
theorem dX5_init_9 : decode cX5_init 9 = .ok (.putfield 9, 3) := by decide +kernel
theorem dX5_init_12 : decode cX5_init 12 = .ok (.return_, 1) := by decide +kernel
theorem dX5_append_0 : decode cX5_append 0 = .ok (.aload_n 0, 1) := by decide +kernel
theorem dX5_append_1 : decode cX5_append 1 = .ok (.getfield 15, 3) := by decide +kernel
theorem dX5_append_4 : decode cX5_append 4 = .ok (.ifCond .lt 12, 3) := by decide +kernel
theorem dX5_append_7 : decode cX5_append 7 = .ok (.aload_n 0, 1) := by decide +kernel
theorem dX5_append_8 : decode cX5_append 8 = .ok (.getfield 15, 3) := by decide +kernel
theorem dX5_append_11 : decode cX5_append 11 = .ok (.bipush 100, 2) := by decide +kernel
theorem dX5_append_13 : decode cX5_append 13 = .ok (.if_icmp .lt 5, 3) := by decide +kernel
theorem dX5_append_16 : decode cX5_append 16 = .ok (.iconst 0, 1) := by decide +kernel
theorem dX5_append_17 : decode cX5_append 17 = .ok (.ireturn, 1) := by decide +kernel
theorem dX5_append_18 : decode cX5_append 18 = .ok (.aload_n 0, 1) := by decide +kernel
theorem dX5_append_19 : decode cX5_append 19 = .ok (.getfield 9, 3) := by decide +kernel
theorem dX5_append_22 : decode cX5_append 22 = .ok (.aload_n 0, 1) := by decide +kernel
theorem dX5_append_23 : decode cX5_append 23 = .ok (.getfield 15, 3) := by decide +kernel
theorem dX5_append_26 : decode cX5_append 26 = .ok (.iload_n 1, 1) := by decide +kernel
theorem dX5_append_27 : decode cX5_append 27 = .ok (.iastore, 1) := by decide +kernel
theorem dX5_append_28 : decode cX5_append 28 = .ok (.aload_n 0, 1) := by decide +kernel
theorem dX5_append_29 : decode cX5_append 29 = .ok (.dup, 1) := by decide +kernel
theorem dX5_append_30 : decode cX5_append 30 = .ok (.getfield 15, 3) := by decide +kernel
theorem dX5_append_33 : decode cX5_append 33 = .ok (.iconst 1, 1) := by decide +kernel
theorem dX5_append_34 : decode cX5_append 34 = .ok (.iadd, 1) := by decide +kernel
theorem dX5_append_35 : decode cX5_append 35 = .ok (.putfield 15, 3) := by decide +kernel
theorem dX5_append_38 : decode cX5_append 38 = .ok (.iconst 1, 1) := by decide +kernel
theorem dX5_append_39 : decode cX5_append 39 = .ok (.ireturn, 1) := by decide +kernel
theorem dX5_readInto_0 : decode cX5_readInto 0 = .ok (.aload_n 1, 1) := by decide +kernel
theorem dX5_readInto_1 : decode cX5_readInto 1 = .ok (.iconst 0, 1) := by decide +kernel
theorem dX5_readInto_2 : decode cX5_readInto 2 = .ok (.putfield 19, 3) := by decide +kernel
theorem dX5_readInto_5 : decode cX5_readInto 5 = .ok (.aload_n 0, 1) := by decide +kernel
theorem dX5_readInto_6 : decode cX5_readInto 6 = .ok (.iconst 0, 1) := by decide +kernel
theorem dX5_readInto_7 : decode cX5_readInto 7 = .ok (.putfield 24, 3) := by decide +kernel
theorem dX5_readInto_10 : decode cX5_readInto 10 = .ok (.aload_n 0, 1) := by decide +kernel
theorem dX5_readInto_11 : decode cX5_readInto 11 = .ok (.invokevirtual 27, 3) := by decide +kernel
theorem dX5_readInto_14 : decode cX5_readInto 14 = .ok (.aload_n 0, 1) := by decide +kernel
theorem dX5_readInto_15 : decode cX5_readInto 15 = .ok (.invokevirtual 30, 3) := by decide +kernel
theorem dX5_readInto_18 : decode cX5_readInto 18 = .ok (.iconst (-1), 1) := by decide +kernel
theorem dX5_readInto_19 : decode cX5_readInto 19 = .ok (.if_icmp .ne 5, 3) := by decide +kernel
theorem dX5_readInto_22 : decode cX5_readInto 22 = .ok (.iconst (-1), 1) := by decide +kernel
theorem dX5_readInto_23 : decode cX5_readInto 23 = .ok (.ireturn, 1) := by decide +kernel
theorem dX5_readInto_24 : decode cX5_readInto 24 = .ok (.aload_n 0, 1) := by decide +kernel
theorem dX5_readInto_25 : decode cX5_readInto 25 = .ok (.aload_n 1, 1) := by decide +kernel
theorem dX5_readInto_26 : decode cX5_readInto 26 = .ok (.invokevirtual 34, 3) := by decide +kernel
theorem dX5_readInto_29 : decode cX5_readInto 29 = .ok (.istore_n 2, 1) := by decide +kernel
theorem dX5_readInto_30 : decode cX5_readInto 30 = .ok (.iload_n 2, 1) := by decide +kernel
theorem dX5_readInto_31 : decode cX5_readInto 31 = .ok (.iconst (-1), 1) := by decide +kernel
theorem dX5_readInto_32 : decode cX5_readInto 32 = .ok (.if_icmp .ne 51, 3) := by decide +kernel
theorem dX5_readInto_35 : decode cX5_readInto 35 = .ok (.aload_n 0, 1) := by decide +kernel
theorem dX5_readInto_36 : decode cX5_readInto 36 = .ok (.getfield 24, 3) := by decide +kernel
theorem dX5_readInto_39 : decode cX5_readInto 39 = .ok (.aload_n 0, 1) := by decide +kernel
theorem dX5_readInto_40 : decode cX5_readInto 40 = .ok (.getfield 15, 3) := by decide +kernel
theorem dX5_readInto_43 : decode cX5_readInto 43 = .ok (.if_icmp .ge 40, 3) := by decide +kernel
theorem dX5_readInto_46 : decode cX5_readInto 46 = .ok (.aload_n 0, 1) := by decide +kernel
theorem dX5_readInto_47 : decode cX5_readInto 47 = .ok (.invokevirtual 30, 3) := by decide +kernel
theorem dX5_readInto_50 : decode cX5_readInto 50 = .ok (.bipush 59, 2) := by decide +kernel
theorem dX5_readInto_52 : decode cX5_readInto 52 = .ok (.if_icmp .eq 8, 3) := by decide +kernel
theorem dX5_readInto_55 : decode cX5_readInto 55 = .ok (.aload_n 0, 1) := by decide +kernel
theorem dX5_readInto_56 : decode cX5_readInto 56 = .ok (.getfield 24, 3) := by decide +kernel
theorem dX5_readInto_59 : decode cX5_readInto 59 = .ok (.ireturn, 1) := by decide +kernel
theorem dX5_readInto_60 : decode cX5_readInto 60 = .ok (.aload_n 0, 1) := by decide +kernel
theorem dX5_readInto_61 : decode cX5_readInto 61 = .ok (.dup, 1) := by decide +kernel
theorem dX5_readInto_62 : decode cX5_readInto 62 = .ok (.getfield 24, 3) := by decide +kernel
theorem dX5_readInto_65 : decode cX5_readInto 65 = .ok (.iconst 1, 1) := by decide +kernel
theorem dX5_readInto_66 : decode cX5_readInto 66 = .ok (.iadd, 1) := by decide +kernel
theorem dX5_readInto_67 : decode cX5_readInto 67 = .ok (.putfield 24, 3) := by decide +kernel
theorem dX5_readInto_70 : decode cX5_readInto 70 = .ok (.aload_n 0, 1) := by decide +kernel
theorem dX5_readInto_71 : decode cX5_readInto 71 = .ok (.invokevirtual 27, 3) := by decide +kernel
theorem dX5_readInto_74 : decode cX5_readInto 74 = .ok (.aload_n 0, 1) := by decide +kernel
theorem dX5_readInto_75 : decode cX5_readInto 75 = .ok (.aload_n 1, 1) := by decide +kernel
theorem dX5_readInto_76 : decode cX5_readInto 76 = .ok (.invokevirtual 34, 3) := by decide +kernel
theorem dX5_readInto_79 : decode cX5_readInto 79 = .ok (.istore_n 2, 1) := by decide +kernel
theorem dX5_readInto_80 : decode cX5_readInto 80 = .ok (.goto (-50), 3) := by decide +kernel
theorem dX5_readInto_83 : decode cX5_readInto 83 = .ok (.iload_n 2, 1) := by decide +kernel
theorem dX5_readInto_84 : decode cX5_readInto 84 = .ok (.ireturn, 1) := by decide +kernel
theorem dX5_readPoint_0 : decode cX5_readPoint 0 = .ok (.aload_n 0, 1) := by decide +kernel
theorem dX5_readPoint_1 : decode cX5_readPoint 1 = .ok (.invokevirtual 38, 3) := by decide +kernel
theorem dX5_readPoint_4 : decode cX5_readPoint 4 = .ok (.ifCond .ne 8, 3) := by decide +kernel
theorem dX5_readPoint_7 : decode cX5_readPoint 7 = .ok (.aload_n 0, 1) := by decide +kernel
theorem dX5_readPoint_8 : decode cX5_readPoint 8 = .ok (.getfield 24, 3) := by decide +kernel
theorem dX5_readPoint_11 : decode cX5_readPoint 11 = .ok (.ireturn, 1) := by decide +kernel
theorem dX5_readPoint_12 : decode cX5_readPoint 12 = .ok (.aload_n 0, 1) := by decide +kernel
theorem dX5_readPoint_13 : decode cX5_readPoint 13 = .ok (.getfield 24, 3) := by decide +kernel
theorem dX5_readPoint_16 : decode cX5_readPoint 16 = .ok (.istore_n 2, 1) := by decide +kernel
theorem dX5_readPoint_17 : decode cX5_readPoint 17 = .ok (.aload_n 0, 1) := by decide +kernel
theorem dX5_readPoint_18 : decode cX5_readPoint 18 = .ok (.invokevirtual 42, 3) := by decide +kernel
theorem dX5_readPoint_21 : decode cX5_readPoint 21 = .ok (.istore_n 3, 1) := by decide +kernel
theorem dX5_readPoint_22 : decode cX5_readPoint 22 = .ok (.aload_n 1, 1) := by decide +kernel
theorem dX5_readPoint_23 : decode cX5_readPoint 23 = .ok (.iload_n 3, 1) := by decide +kernel
theorem dX5_readPoint_24 : decode cX5_readPoint 24 = .ok (.invokevirtual 45, 3) := by decide +kernel
theorem dX5_readPoint_27 : decode cX5_readPoint 27 = .ok (.ifCond .ne 5, 3) := by decide +kernel
theorem dX5_readPoint_30 : decode cX5_readPoint 30 = .ok (.iload_n 2, 1) := by decide +kernel
theorem dX5_readPoint_31 : decode cX5_readPoint 31 = .ok (.ireturn, 1) := by decide +kernel
theorem dX5_readPoint_32 : decode cX5_readPoint 32 = .ok (.aload_n 0, 1) := by decide +kernel
theorem dX5_readPoint_33 : decode cX5_readPoint 33 = .ok (.invokevirtual 27, 3) := by decide +kernel
theorem dX5_readPoint_36 : decode cX5_readPoint 36 = .ok (.aload_n 0, 1) := by decide +kernel
theorem dX5_readPoint_37 : decode cX5_readPoint 37 = .ok (.invokevirtual 30, 3) := by decide +kernel
theorem dX5_readPoint_40 : decode cX5_readPoint 40 = .ok (.bipush 61, 2) := by decide +kernel
theorem dX5_readPoint_42 : decode cX5_readPoint 42 = .ok (.if_icmp .eq 8, 3) := by decide +kernel
theorem dX5_readPoint_45 : decode cX5_readPoint 45 = .ok (.aload_n 0, 1) := by decide +kernel
theorem dX5_readPoint_46 : decode cX5_readPoint 46 = .ok (.getfield 24, 3) := by decide +kernel
theorem dX5_readPoint_49 : decode cX5_readPoint 49 = .ok (.ireturn, 1) := by decide +kernel
theorem dX5_readPoint_50 : decode cX5_readPoint 50 = .ok (.aload_n 0, 1) := by decide +kernel
theorem dX5_readPoint_51 : decode cX5_readPoint 51 = .ok (.dup, 1) := by decide +kernel
theorem dX5_readPoint_52 : decode cX5_readPoint 52 = .ok (.getfield 24, 3) := by decide +kernel
theorem dX5_readPoint_55 : decode cX5_readPoint 55 = .ok (.iconst 1, 1) := by decide +kernel
theorem dX5_readPoint_56 : decode cX5_readPoint 56 = .ok (.iadd, 1) := by decide +kernel
theorem dX5_readPoint_57 : decode cX5_readPoint 57 = .ok (.putfield 24, 3) := by decide +kernel
theorem dX5_readPoint_60 : decode cX5_readPoint 60 = .ok (.aload_n 0, 1) := by decide +kernel
theorem dX5_readPoint_61 : decode cX5_readPoint 61 = .ok (.invokevirtual 27, 3) := by decide +kernel
theorem dX5_readPoint_64 : decode cX5_readPoint 64 = .ok (.aload_n 0, 1) := by decide +kernel
theorem dX5_readPoint_65 : decode cX5_readPoint 65 = .ok (.aload_n 1, 1) := by decide +kernel
theorem dX5_readPoint_66 : decode cX5_readPoint 66 = .ok (.iload_n 3, 1) := by decide +kernel
theorem dX5_readPoint_67 : decode cX5_readPoint 67 = .ok (.invokevirtual 49, 3) := by decide +kernel
theorem dX5_readPoint_70 : decode cX5_readPoint 70 = .ok (.ireturn, 1) := by decide +kernel
theorem dX5_readTemperature_0 : decode cX5_readTemperature 0 = .ok (.aload_n 0, 1) := by decide +kernel
theorem dX5_readTemperature_1 : decode cX5_readTemperature 1 = .ok (.getfield 24, 3) := by decide +kernel
theorem dX5_readTemperature_4 : decode cX5_readTemperature 4 = .ok (.istore_n 3, 1) := by decide +kernel
theorem dX5_readTemperature_5 : decode cX5_readTemperature 5 = .ok (.aload_n 0, 1) := by decide +kernel
theorem dX5_readTemperature_6 : decode cX5_readTemperature 6 = .ok (.invokevirtual 30, 3) := by decide +kernel
theorem dX5_readTemperature_9 : decode cX5_readTemperature 9 = .ok (.bipush 45, 2) := by decide +kernel
theorem dX5_readTemperature_11 : decode cX5_readTemperature 11 = .ok (.if_icmp .ne 7, 3) := by decide +kernel
theorem dX5_readTemperature_14 : decode cX5_readTemperature 14 = .ok (.iconst 1, 1) := by decide +kernel
theorem dX5_readTemperature_15 : decode cX5_readTemperature 15 = .ok (.goto 4, 3) := by decide +kernel
theorem dX5_readTemperature_18 : decode cX5_readTemperature 18 = .ok (.iconst 0, 1) := by decide +kernel
theorem dX5_readTemperature_19 : decode cX5_readTemperature 19 = .ok (.istore 4, 2) := by decide +kernel
theorem dX5_readTemperature_21 : decode cX5_readTemperature 21 = .ok (.iload 4, 2) := by decide +kernel
theorem dX5_readTemperature_23 : decode cX5_readTemperature 23 = .ok (.ifCond .eq 13, 3) := by decide +kernel
theorem dX5_readTemperature_26 : decode cX5_readTemperature 26 = .ok (.aload_n 0, 1) := by decide +kernel
theorem dX5_readTemperature_27 : decode cX5_readTemperature 27 = .ok (.dup, 1) := by decide +kernel
theorem dX5_readTemperature_28 : decode cX5_readTemperature 28 = .ok (.getfield 24, 3) := by decide +kernel
theorem dX5_readTemperature_31 : decode cX5_readTemperature 31 = .ok (.iconst 1, 1) := by decide +kernel
theorem dX5_readTemperature_32 : decode cX5_readTemperature 32 = .ok (.iadd, 1) := by decide +kernel
theorem dX5_readTemperature_33 : decode cX5_readTemperature 33 = .ok (.putfield 24, 3) := by decide +kernel
theorem dX5_readTemperature_36 : decode cX5_readTemperature 36 = .ok (.aload_n 0, 1) := by decide +kernel
theorem dX5_readTemperature_37 : decode cX5_readTemperature 37 = .ok (.invokevirtual 38, 3) := by decide +kernel
theorem dX5_readTemperature_40 : decode cX5_readTemperature 40 = .ok (.ifCond .ne 8, 3) := by decide +kernel
theorem dX5_readTemperature_43 : decode cX5_readTemperature 43 = .ok (.aload_n 0, 1) := by decide +kernel
theorem dX5_readTemperature_44 : decode cX5_readTemperature 44 = .ok (.getfield 24, 3) := by decide +kernel
theorem dX5_readTemperature_47 : decode cX5_readTemperature 47 = .ok (.ireturn, 1) := by decide +kernel
theorem dX5_readTemperature_48 : decode cX5_readTemperature 48 = .ok (.aload_n 0, 1) := by decide +kernel
theorem dX5_readTemperature_49 : decode cX5_readTemperature 49 = .ok (.invokevirtual 42, 3) := by decide +kernel
theorem dX5_readTemperature_52 : decode cX5_readTemperature 52 = .ok (.istore 5, 2) := by decide +kernel
theorem dX5_readTemperature_54 : decode cX5_readTemperature 54 = .ok (.iload 5, 2) := by decide +kernel
theorem dX5_readTemperature_56 : decode cX5_readTemperature 56 = .ok (.bipush 40, 2) := by decide +kernel
theorem dX5_readTemperature_58 : decode cX5_readTemperature 58 = .ok (.if_icmp .le 5, 3) := by decide +kernel
theorem dX5_readTemperature_61 : decode cX5_readTemperature 61 = .ok (.iload_n 3, 1) := by decide +kernel
theorem dX5_readTemperature_62 : decode cX5_readTemperature 62 = .ok (.ireturn, 1) := by decide +kernel
theorem dX5_readTemperature_63 : decode cX5_readTemperature 63 = .ok (.aload_n 1, 1) := by decide +kernel
theorem dX5_readTemperature_64 : decode cX5_readTemperature 64 = .ok (.iload_n 2, 1) := by decide +kernel
theorem dX5_readTemperature_65 : decode cX5_readTemperature 65 = .ok (.iload 4, 2) := by decide +kernel
theorem dX5_readTemperature_67 : decode cX5_readTemperature 67 = .ok (.ifCond .eq 9, 3) := by decide +kernel
theorem dX5_readTemperature_70 : decode cX5_readTemperature 70 = .ok (.iload 5, 2) := by decide +kernel
theorem dX5_readTemperature_72 : decode cX5_readTemperature 72 = .ok (.ineg, 1) := by decide +kernel
theorem dX5_readTemperature_73 : decode cX5_readTemperature 73 = .ok (.goto 5, 3) := by decide +kernel
theorem dX5_readTemperature_76 : decode cX5_readTemperature 76 = .ok (.iload 5, 2) := by decide +kernel
theorem dX5_readTemperature_78 : decode cX5_readTemperature 78 = .ok (.invokevirtual 53, 3) := by decide +kernel
theorem dX5_readTemperature_81 : decode cX5_readTemperature 81 = .ok (.aload_n 0, 1) := by decide +kernel
theorem dX5_readTemperature_82 : decode cX5_readTemperature 82 = .ok (.invokevirtual 27, 3) := by decide +kernel
theorem dX5_readTemperature_85 : decode cX5_readTemperature 85 = .ok (.iconst (-1), 1) := by decide +kernel
theorem dX5_readTemperature_86 : decode cX5_readTemperature 86 = .ok (.ireturn, 1) := by decide +kernel
theorem dX5_readNumber_0 : decode cX5_readNumber 0 = .ok (.aload_n 0, 1) := by decide +kernel
theorem dX5_readNumber_1 : decode cX5_readNumber 1 = .ok (.invokevirtual 30, 3) := by decide +kernel
theorem dX5_readNumber_4 : decode cX5_readNumber 4 = .ok (.bipush 48, 2) := by decide +kernel
theorem dX5_readNumber_6 : decode cX5_readNumber 6 = .ok (.if_icmp .ne 7, 3) := by decide +kernel
theorem dX5_readNumber_9 : decode cX5_readNumber 9 = .ok (.iconst 1, 1) := by decide +kernel
theorem dX5_readNumber_10 : decode cX5_readNumber 10 = .ok (.goto 4, 3) := by decide +kernel
theorem dX5_readNumber_13 : decode cX5_readNumber 13 = .ok (.iconst 0, 1) := by decide +kernel
theorem dX5_readNumber_14 : decode cX5_readNumber 14 = .ok (.istore_n 1, 1) := by decide +kernel
theorem dX5_readNumber_15 : decode cX5_readNumber 15 = .ok (.aload_n 0, 1) := by decide +kernel
theorem dX5_readNumber_16 : decode cX5_readNumber 16 = .ok (.getfield 24, 3) := by decide +kernel
theorem dX5_readNumber_19 : decode cX5_readNumber 19 = .ok (.istore_n 2, 1) := by decide +kernel
theorem dX5_readNumber_20 : decode cX5_readNumber 20 = .ok (.iconst 0, 1) := by decide +kernel
theorem dX5_readNumber_21 : decode cX5_readNumber 21 = .ok (.istore_n 3, 1) := by decide +kernel
theorem dX5_readNumber_22 : decode cX5_readNumber 22 = .ok (.aload_n 0, 1) := by decide +kernel
theorem dX5_readNumber_23 : decode cX5_readNumber 23 = .ok (.getfield 24, 3) := by decide +kernel
theorem dX5_readNumber_26 : decode cX5_readNumber 26 = .ok (.aload_n 0, 1) := by decide +kernel
theorem dX5_readNumber_27 : decode cX5_readNumber 27 = .ok (.getfield 15, 3) := by decide +kernel
theorem dX5_readNumber_30 : decode cX5_readNumber 30 = .ok (.if_icmp .ge 41, 3) := by decide +kernel
theorem dX5_readNumber_33 : decode cX5_readNumber 33 = .ok (.aload_n 0, 1) := by decide +kernel
theorem dX5_readNumber_34 : decode cX5_readNumber 34 = .ok (.invokevirtual 38, 3) := by decide +kernel
theorem dX5_readNumber_37 : decode cX5_readNumber 37 = .ok (.ifCond .eq 34, 3) := by decide +kernel
theorem dX5_readNumber_40 : decode cX5_readNumber 40 = .ok (.bipush 10, 2) := by decide +kernel
theorem dX5_readNumber_42 : decode cX5_readNumber 42 = .ok (.iload_n 3, 1) := by decide +kernel
theorem dX5_readNumber_43 : decode cX5_readNumber 43 = .ok (.imul, 1) := by decide +kernel
theorem dX5_readNumber_44 : decode cX5_readNumber 44 = .ok (.aload_n 0, 1) := by decide +kernel
theorem dX5_readNumber_45 : decode cX5_readNumber 45 = .ok (.invokevirtual 30, 3) := by decide +kernel
theorem dX5_readNumber_48 : decode cX5_readNumber 48 = .ok (.iadd, 1) := by decide +kernel
theorem dX5_readNumber_49 : decode cX5_readNumber 49 = .ok (.bipush 48, 2) := by decide +kernel
theorem dX5_readNumber_51 : decode cX5_readNumber 51 = .ok (.isub, 1) := by decide +kernel
theorem dX5_readNumber_52 : decode cX5_readNumber 52 = .ok (.ldc 57, 2) := by decide +kernel
theorem dX5_readNumber_54 : decode cX5_readNumber 54 = .ok (.invokestatic 58, 3) := by decide +kernel
theorem dX5_readNumber_57 : decode cX5_readNumber 57 = .ok (.istore_n 3, 1) := by decide +kernel
theorem dX5_readNumber_58 : decode cX5_readNumber 58 = .ok (.aload_n 0, 1) := by decide +kernel
theorem dX5_readNumber_59 : decode cX5_readNumber 59 = .ok (.dup, 1) := by decide +kernel
theorem dX5_readNumber_60 : decode cX5_readNumber 60 = .ok (.getfield 24, 3) := by decide +kernel
theorem dX5_readNumber_63 : decode cX5_readNumber 63 = .ok (.iconst 1, 1) := by decide +kernel
theorem dX5_readNumber_64 : decode cX5_readNumber 64 = .ok (.iadd, 1) := by decide +kernel
theorem dX5_readNumber_65 : decode cX5_readNumber 65 = .ok (.putfield 24, 3) := by decide +kernel
theorem dX5_readNumber_68 : decode cX5_readNumber 68 = .ok (.goto (-46), 3) := by decide +kernel
theorem dX5_readNumber_71 : decode cX5_readNumber 71 = .ok (.iload_n 1, 1) := by decide +kernel
theorem dX5_readNumber_72 : decode cX5_readNumber 72 = .ok (.ifCond .eq 18, 3) := by decide +kernel
theorem dX5_readNumber_75 : decode cX5_readNumber 75 = .ok (.aload_n 0, 1) := by decide +kernel
theorem dX5_readNumber_76 : decode cX5_readNumber 76 = .ok (.getfield 24, 3) := by decide +kernel
theorem dX5_readNumber_79 : decode cX5_readNumber 79 = .ok (.iload_n 2, 1) := by decide +kernel
theorem dX5_readNumber_80 : decode cX5_readNumber 80 = .ok (.iconst 1, 1) := by decide +kernel
theorem dX5_readNumber_81 : decode cX5_readNumber 81 = .ok (.iadd, 1) := by decide +kernel
theorem dX5_readNumber_82 : decode cX5_readNumber 82 = .ok (.if_icmp .le 8, 3) := by decide +kernel
theorem dX5_readNumber_85 : decode cX5_readNumber 85 = .ok (.ldc 57, 2) := by decide +kernel
theorem dX5_readNumber_87 : decode cX5_readNumber 87 = .ok (.goto 4, 3) := by decide +kernel
theorem dX5_readNumber_90 : decode cX5_readNumber 90 = .ok (.iload_n 3, 1) := by decide +kernel
theorem dX5_readNumber_91 : decode cX5_readNumber 91 = .ok (.ireturn, 1) := by decide +kernel
theorem dX5_skipSpaces_0 : decode cX5_skipSpaces 0 = .ok (.aload_n 0, 1) := by decide +kernel
theorem dX5_skipSpaces_1 : decode cX5_skipSpaces 1 = .ok (.getfield 24, 3) := by decide +kernel
theorem dX5_skipSpaces_4 : decode cX5_skipSpaces 4 = .ok (.aload_n 0, 1) := by decide +kernel
theorem dX5_skipSpaces_5 : decode cX5_skipSpaces 5 = .ok (.getfield 15, 3) := by decide +kernel
theorem dX5_skipSpaces_8 : decode cX5_skipSpaces 8 = .ok (.if_icmp .ge 25, 3) := by decide +kernel
theorem dX5_skipSpaces_11 : decode cX5_skipSpaces 11 = .ok (.aload_n 0, 1) := by decide +kernel
theorem dX5_skipSpaces_12 : decode cX5_skipSpaces 12 = .ok (.invokevirtual 30, 3) := by decide +kernel
theorem dX5_skipSpaces_15 : decode cX5_skipSpaces 15 = .ok (.bipush 32, 2) := by decide +kernel
theorem dX5_skipSpaces_17 : decode cX5_skipSpaces 17 = .ok (.if_icmp .ne 16, 3) := by decide +kernel
theorem dX5_skipSpaces_20 : decode cX5_skipSpaces 20 = .ok (.aload_n 0, 1) := by decide +kernel
theorem dX5_skipSpaces_21 : decode cX5_skipSpaces 21 = .ok (.dup, 1) := by decide +kernel
theorem dX5_skipSpaces_22 : decode cX5_skipSpaces 22 = .ok (.getfield 24, 3) := by decide +kernel
theorem dX5_skipSpaces_25 : decode cX5_skipSpaces 25 = .ok (.iconst 1, 1) := by decide +kernel
theorem dX5_skipSpaces_26 : decode cX5_skipSpaces 26 = .ok (.iadd, 1) := by decide +kernel
theorem dX5_skipSpaces_27 : decode cX5_skipSpaces 27 = .ok (.putfield 24, 3) := by decide +kernel
theorem dX5_skipSpaces_30 : decode cX5_skipSpaces 30 = .ok (.goto (-30), 3) := by decide +kernel
theorem dX5_skipSpaces_33 : decode cX5_skipSpaces 33 = .ok (.return_, 1) := by decide +kernel
theorem dX5_isDigitHere_0 : decode cX5_isDigitHere 0 = .ok (.aload_n 0, 1) := by decide +kernel
theorem dX5_isDigitHere_1 : decode cX5_isDigitHere 1 = .ok (.invokevirtual 30, 3) := by decide +kernel
theorem dX5_isDigitHere_4 : decode cX5_isDigitHere 4 = .ok (.bipush 48, 2) := by decide +kernel
theorem dX5_isDigitHere_6 : decode cX5_isDigitHere 6 = .ok (.bipush 57, 2) := by decide +kernel
theorem dX5_isDigitHere_8 : decode cX5_isDigitHere 8 = .ok (.invokestatic 64, 3) := by decide +kernel
theorem dX5_isDigitHere_11 : decode cX5_isDigitHere 11 = .ok (.ireturn, 1) := by decide +kernel
theorem dX5_here_0 : decode cX5_here 0 = .ok (.aload_n 0, 1) := by decide +kernel
theorem dX5_here_1 : decode cX5_here 1 = .ok (.getfield 24, 3) := by decide +kernel
theorem dX5_here_4 : decode cX5_here 4 = .ok (.ifCond .lt 35, 3) := by decide +kernel
theorem dX5_here_7 : decode cX5_here 7 = .ok (.aload_n 0, 1) := by decide +kernel
theorem dX5_here_8 : decode cX5_here 8 = .ok (.getfield 24, 3) := by decide +kernel
theorem dX5_here_11 : decode cX5_here 11 = .ok (.aload_n 0, 1) := by decide +kernel
theorem dX5_here_12 : decode cX5_here 12 = .ok (.getfield 15, 3) := by decide +kernel
theorem dX5_here_15 : decode cX5_here 15 = .ok (.if_icmp .ge 24, 3) := by decide +kernel
theorem dX5_here_18 : decode cX5_here 18 = .ok (.aload_n 0, 1) := by decide +kernel
theorem dX5_here_19 : decode cX5_here 19 = .ok (.getfield 24, 3) := by decide +kernel
theorem dX5_here_22 : decode cX5_here 22 = .ok (.bipush 100, 2) := by decide +kernel
theorem dX5_here_24 : decode cX5_here 24 = .ok (.if_icmp .ge 15, 3) := by decide +kernel
theorem dX5_here_27 : decode cX5_here 27 = .ok (.aload_n 0, 1) := by decide +kernel
theorem dX5_here_28 : decode cX5_here 28 = .ok (.getfield 9, 3) := by decide +kernel
theorem dX5_here_31 : decode cX5_here 31 = .ok (.aload_n 0, 1) := by decide +kernel
theorem dX5_here_32 : decode cX5_here 32 = .ok (.getfield 24, 3) := by decide +kernel
theorem dX5_here_35 : decode cX5_here 35 = .ok (.iaload, 1) := by decide +kernel
theorem dX5_here_36 : decode cX5_here 36 = .ok (.goto 4, 3) := by decide +kernel
theorem dX5_here_39 : decode cX5_here 39 = .ok (.iconst (-1), 1) := by decide +kernel
theorem dX5_here_40 : decode cX5_here 40 = .ok (.ireturn, 1) := by decide +kernel
theorem dX6_init_0 : decode cX6_init 0 = .ok (.aload_n 0, 1) := by decide +kernel
theorem dX6_init_1 : decode cX6_init 1 = .ok (.invokespecial 1, 3) := by decide +kernel
theorem dX6_init_4 : decode cX6_init 4 = .ok (.aload_n 0, 1) := by decide +kernel
theorem dX6_init_5 : decode cX6_init 5 = .ok (.new 7, 3) := by decide +kernel
theorem dX6_init_8 : decode cX6_init 8 = .ok (.dup, 1) := by decide +kernel
theorem dX6_init_9 : decode cX6_init 9 = .ok (.invokespecial 9, 3) := by decide +kernel
theorem dX6_init_12 : decode cX6_init 12 = .ok (.putfield 10, 3) := by decide +kernel
theorem dX6_init_15 : decode cX6_init 15 = .ok (.aload_n 0, 1) := by decide +kernel
theorem dX6_init_16 : decode cX6_init 16 = .ok (.new 7, 3) := by decide +kernel
theorem dX6_init_19 : decode cX6_init 19 = .ok (.dup, 1) := by decide +kernel
theorem dX6_init_20 : decode cX6_init 20 = .ok (.invokespecial 9, 3) := by decide +kernel
theorem dX6_init_23 : decode cX6_init 23 = .ok (.putfield 16, 3) := by decide +kernel
theorem dX6_init_26 : decode cX6_init 26 = .ok (.aload_n 0, 1) := by decide +kernel
theorem dX6_init_27 : decode cX6_init 27 = .ok (.new 19, 3) := by decide +kernel
theorem dX6_init_30 : decode cX6_init 30 = .ok (.dup, 1) := by decide +kernel
theorem dX6_init_31 : decode cX6_init 31 = .ok (.invokespecial 21, 3) := by decide +kernel
theorem dX6_init_34 : decode cX6_init 34 = .ok (.putfield 22, 3) := by decide +kernel
theorem dX6_init_37 : decode cX6_init 37 = .ok (.aload_n 0, 1) := by decide +kernel
theorem dX6_init_38 : decode cX6_init 38 = .ok (.new 26, 3) := by decide +kernel
theorem dX6_init_41 : decode cX6_init 41 = .ok (.dup, 1) := by decide +kernel
theorem dX6_init_42 : decode cX6_init 42 = .ok (.invokespecial 28, 3) := by decide +kernel
theorem dX6_init_45 : decode cX6_init 45 = .ok (.putfield 29, 3) := by decide +kernel
theorem dX6_init_48 : decode cX6_init 48 = .ok (.aload_n 0, 1) := by decide +kernel
theorem dX6_init_49 : decode cX6_init 49 = .ok (.new 33, 3) := by decide +kernel
theorem dX6_init_52 : decode cX6_init 52 = .ok (.dup, 1) := by decide +kernel
theorem dX6_init_53 : decode cX6_init 53 = .ok (.invokespecial 35, 3) := by decide +kernel
theorem dX6_init_56 : decode cX6_init 56 = .ok (.putfield 36, 3) := by decide +kernel
theorem dX6_init_59 : decode cX6_init 59 = .ok (.return_, 1) := by decide +kernel
theorem dX6_addRoom_0 : decode cX6_addRoom 0 = .ok (.iload_n 1, 1) := by decide +kernel
theorem dX6_addRoom_1 : decode cX6_addRoom 1 = .ok (.bipush 10, 2) := by decide +kernel
theorem dX6_addRoom_3 : decode cX6_addRoom 3 = .ok (.sipush 500, 3) := by decide +kernel
theorem dX6_addRoom_6 : decode cX6_addRoom 6 = .ok (.invokestatic 40, 3) := by decide +kernel
theorem dX6_addRoom_9 : decode cX6_addRoom 9 = .ok (.ifCond .eq 43, 3) := by decide +kernel
theorem dX6_addRoom_12 : decode cX6_addRoom 12 = .ok (.iload_n 2, 1) := by decide +kernel
theorem dX6_addRoom_13 : decode cX6_addRoom 13 = .ok (.iconst 1, 1) := by decide +kernel
theorem dX6_addRoom_14 : decode cX6_addRoom 14 = .ok (.sipush 200, 3) := by decide +kernel
theorem dX6_addRoom_17 : decode cX6_addRoom 17 = .ok (.invokestatic 40, 3) := by decide +kernel
theorem dX6_addRoom_20 : decode cX6_addRoom 20 = .ok (.ifCond .eq 32, 3) := by decide +kernel
theorem dX6_addRoom_23 : decode cX6_addRoom 23 = .ok (.iload_n 3, 1) := by decide +kernel
theorem dX6_addRoom_24 : decode cX6_addRoom 24 = .ok (.iconst 0, 1) := by decide +kernel
theorem dX6_addRoom_25 : decode cX6_addRoom 25 = .ok (.bipush 50, 2) := by decide +kernel
theorem dX6_addRoom_27 : decode cX6_addRoom 27 = .ok (.invokestatic 40, 3) := by decide +kernel
theorem dX6_addRoom_30 : decode cX6_addRoom 30 = .ok (.ifCond .eq 22, 3) := by decide +kernel
theorem dX6_addRoom_33 : decode cX6_addRoom 33 = .ok (.iload_n 3, 1) := by decide +kernel
theorem dX6_addRoom_34 : decode cX6_addRoom 34 = .ok (.iload_n 1, 1) := by decide +kernel
theorem dX6_addRoom_35 : decode cX6_addRoom 35 = .ok (.iconst 2, 1) := by decide +kernel
theorem dX6_addRoom_36 : decode cX6_addRoom 36 = .ok (.idiv, 1) := by decide +kernel
theorem dX6_addRoom_37 : decode cX6_addRoom 37 = .ok (.if_icmp .gt 15, 3) := by decide +kernel
theorem dX6_addRoom_40 : decode cX6_addRoom 40 = .ok (.iload 4, 2) := by decide +kernel
theorem dX6_addRoom_42 : decode cX6_addRoom 42 = .ok (.bipush (-40), 2) := by decide +kernel
theorem dX6_addRoom_44 : decode cX6_addRoom 44 = .ok (.bipush 40, 2) := by decide +kernel
theorem dX6_addRoom_46 : decode cX6_addRoom 46 = .ok (.invokestatic 40, 3) := by decide +kernel
theorem dX6_addRoom_49 : decode cX6_addRoom 49 = .ok (.ifCond .ne 6, 3) := by decide +kernel
theorem dX6_addRoom_52 : decode cX6_addRoom 52 = .ok (.ldc 44, 2) := by decide +kernel
theorem dX6_addRoom_54 : decode cX6_addRoom 54 = .ok (.ireturn, 1) := by decide +kernel
theorem dX6_addRoom_55 : decode cX6_addRoom 55 = .ok (.aload_n 0, 1) := by decide +kernel
theorem dX6_addRoom_56 : decode cX6_addRoom 56 = .ok (.getfield 10, 3) := by decide +kernel
theorem dX6_addRoom_59 : decode cX6_addRoom 59 = .ok (.getfield 45, 3) := by decide +kernel
theorem dX6_addRoom_62 : decode cX6_addRoom 62 = .ok (.bipush 6, 2) := by decide +kernel
theorem dX6_addRoom_64 : decode cX6_addRoom 64 = .ok (.if_icmp .lt 6, 3) := by decide +kernel
theorem dX6_addRoom_67 : decode cX6_addRoom 67 = .ok (.ldc 49, 2) := by decide +kernel
theorem dX6_addRoom_69 : decode cX6_addRoom 69 = .ok (.ireturn, 1) := by decide +kernel
theorem dX6_addRoom_70 : decode cX6_addRoom 70 = .ok (.aload_n 0, 1) := by decide +kernel
theorem dX6_addRoom_71 : decode cX6_addRoom 71 = .ok (.getfield 22, 3) := by decide +kernel
theorem dX6_addRoom_74 : decode cX6_addRoom 74 = .ok (.aload_n 0, 1) := by decide +kernel
theorem dX6_addRoom_75 : decode cX6_addRoom 75 = .ok (.getfield 10, 3) := by decide +kernel
theorem dX6_addRoom_78 : decode cX6_addRoom 78 = .ok (.invokevirtual 50, 3) := by decide +kernel
theorem dX6_addRoom_81 : decode cX6_addRoom 81 = .ok (.aload_n 0, 1) := by decide +kernel
theorem dX6_addRoom_82 : decode cX6_addRoom 82 = .ok (.getfield 10, 3) := by decide +kernel
theorem dX6_addRoom_85 : decode cX6_addRoom 85 = .ok (.iload_n 1, 1) := by decide +kernel
theorem dX6_addRoom_86 : decode cX6_addRoom 86 = .ok (.iload_n 2, 1) := by decide +kernel
theorem dX6_addRoom_87 : decode cX6_addRoom 87 = .ok (.iload_n 3, 1) := by decide +kernel
theorem dX6_addRoom_88 : decode cX6_addRoom 88 = .ok (.iload 4, 2) := by decide +kernel
theorem dX6_addRoom_90 : decode cX6_addRoom 90 = .ok (.invokevirtual 54, 3) := by decide +kernel
theorem dX6_addRoom_93 : decode cX6_addRoom 93 = .ok (.ireturn, 1) := by decide +kernel
theorem dX6_setLink_0 : decode cX6_setLink 0 = .ok (.aload_n 0, 1) := by decide +kernel
theorem dX6_setLink_1 : decode cX6_setLink 1 = .ok (.getfield 10, 3) := by decide +kernel
theorem dX6_setLink_4 : decode cX6_setLink 4 = .ok (.iload_n 1, 1) := by decide +kernel
theorem dX6_setLink_5 : decode cX6_setLink 5 = .ok (.iload_n 2, 1) := by decide +kernel
theorem dX6_setLink_6 : decode cX6_setLink 6 = .ok (.invokevirtual 58, 3) := by decide +kernel
theorem dX6_setLink_9 : decode cX6_setLink 9 = .ok (.ifCond .eq 13, 3) := by decide +kernel
theorem dX6_setLink_12 : decode cX6_setLink 12 = .ok (.iload_n 3, 1) := by decide +kernel
theorem dX6_setLink_13 : decode cX6_setLink 13 = .ok (.iconst 0, 1) := by decide +kernel
theorem dX6_setLink_14 : decode cX6_setLink 14 = .ok (.bipush 50, 2) := by decide +kernel
theorem dX6_setLink_16 : decode cX6_setLink 16 = .ok (.invokestatic 40, 3) := by decide +kernel
theorem dX6_setLink_19 : decode cX6_setLink 19 = .ok (.ifCond .ne 6, 3) := by decide +kernel
theorem dX6_setLink_22 : decode cX6_setLink 22 = .ok (.ldc 44, 2) := by decide +kernel
theorem dX6_setLink_24 : decode cX6_setLink 24 = .ok (.ireturn, 1) := by decide +kernel
theorem dX6_setLink_25 : decode cX6_setLink 25 = .ok (.aload_n 0, 1) := by decide +kernel
theorem dX6_setLink_26 : decode cX6_setLink 26 = .ok (.getfield 10, 3) := by decide +kernel
theorem dX6_setLink_29 : decode cX6_setLink 29 = .ok (.iload_n 1, 1) := by decide +kernel
theorem dX6_setLink_30 : decode cX6_setLink 30 = .ok (.iload_n 2, 1) := by decide +kernel
theorem dX6_setLink_31 : decode cX6_setLink 31 = .ok (.invokevirtual 62, 3) := by decide +kernel
theorem dX6_setLink_34 : decode cX6_setLink 34 = .ok (.istore 4, 2) := by decide +kernel
theorem dX6_setLink_36 : decode cX6_setLink 36 = .ok (.iload_n 3, 1) := by decide +kernel
theorem dX6_setLink_37 : decode cX6_setLink 37 = .ok (.iload 4, 2) := by decide +kernel
theorem dX6_setLink_39 : decode cX6_setLink 39 = .ok (.isub, 1) := by decide +kernel
theorem dX6_setLink_40 : decode cX6_setLink 40 = .ok (.istore 5, 2) := by decide +kernel
theorem dX6_setLink_42 : decode cX6_setLink 42 = .ok (.aload_n 0, 1) := by decide +kernel
theorem dX6_setLink_43 : decode cX6_setLink 43 = .ok (.getfield 10, 3) := by decide +kernel
theorem dX6_setLink_46 : decode cX6_setLink 46 = .ok (.iload_n 1, 1) := by decide +kernel
theorem dX6_setLink_47 : decode cX6_setLink 47 = .ok (.iload 5, 2) := by decide +kernel
theorem dX6_setLink_49 : decode cX6_setLink 49 = .ok (.invokevirtual 66, 3) := by decide +kernel
theorem dX6_setLink_52 : decode cX6_setLink 52 = .ok (.ifCond .eq 16, 3) := by decide +kernel
theorem dX6_setLink_55 : decode cX6_setLink 55 = .ok (.aload_n 0, 1) := by decide +kernel
theorem dX6_setLink_56 : decode cX6_setLink 56 = .ok (.getfield 10, 3) := by decide +kernel
theorem dX6_setLink_59 : decode cX6_setLink 59 = .ok (.iload_n 2, 1) := by decide +kernel
theorem dX6_setLink_60 : decode cX6_setLink 60 = .ok (.iload 5, 2) := by decide +kernel
theorem dX6_setLink_62 : decode cX6_setLink 62 = .ok (.invokevirtual 66, 3) := by decide +kernel
theorem dX6_setLink_65 : decode cX6_setLink 65 = .ok (.ifCond .ne 6, 3) := by decide +kernel
theorem dX6_setLink_68 : decode cX6_setLink 68 = .ok (.ldc 69, 2) := by decide +kernel
theorem dX6_setLink_70 : decode cX6_setLink 70 = .ok (.ireturn, 1) := by decide +kernel
theorem dX6_setLink_71 : decode cX6_setLink 71 = .ok (.aload_n 0, 1) := by decide +kernel
theorem dX6_setLink_72 : decode cX6_setLink 72 = .ok (.getfield 22, 3) := by decide +kernel
theorem dX6_setLink_75 : decode cX6_setLink 75 = .ok (.aload_n 0, 1) := by decide +kernel
theorem dX6_setLink_76 : decode cX6_setLink 76 = .ok (.getfield 10, 3) := by decide +kernel
theorem dX6_setLink_79 : decode cX6_setLink 79 = .ok (.invokevirtual 50, 3) := by decide +kernel
theorem dX6_setLink_82 : decode cX6_setLink 82 = .ok (.aload_n 0, 1) := by decide +kernel
theorem dX6_setLink_83 : decode cX6_setLink 83 = .ok (.getfield 10, 3) := by decide +kernel
theorem dX6_setLink_86 : decode cX6_setLink 86 = .ok (.iload_n 1, 1) := by decide +kernel
theorem dX6_setLink_87 : decode cX6_setLink 87 = .ok (.iload_n 2, 1) := by decide +kernel
theorem dX6_setLink_88 : decode cX6_setLink 88 = .ok (.iload_n 3, 1) := by decide +kernel
theorem dX6_setLink_89 : decode cX6_setLink 89 = .ok (.invokevirtual 70, 3) := by decide +kernel
theorem dX6_setLink_92 : decode cX6_setLink 92 = .ok (.iload 4, 2) := by decide +kernel
theorem dX6_setLink_94 : decode cX6_setLink 94 = .ok (.ireturn, 1) := by decide +kernel
theorem dX6_setThermostat_0 : decode cX6_setThermostat 0 = .ok (.aload_n 0, 1) := by decide +kernel
theorem dX6_setThermostat_1 : decode cX6_setThermostat 1 = .ok (.getfield 10, 3) := by decide +kernel
theorem dX6_setThermostat_4 : decode cX6_setThermostat 4 = .ok (.iload_n 1, 1) := by decide +kernel
theorem dX6_setThermostat_5 : decode cX6_setThermostat 5 = .ok (.invokevirtual 74, 3) := by decide +kernel
theorem dX6_setThermostat_8 : decode cX6_setThermostat 8 = .ok (.astore 4, 2) := by decide +kernel
theorem dX6_setThermostat_10 : decode cX6_setThermostat 10 = .ok (.aload 4, 2) := by decide +kernel
theorem dX6_setThermostat_12 : decode cX6_setThermostat 12 = .ok (.ifnull 27, 3) := by decide +kernel
theorem dX6_setThermostat_15 : decode cX6_setThermostat 15 = .ok (.iload_n 2, 1) := by decide +kernel
theorem dX6_setThermostat_16 : decode cX6_setThermostat 16 = .ok (.sipush 5000, 3) := by decide +kernel
theorem dX6_setThermostat_19 : decode cX6_setThermostat 19 = .ok (.ldc 78, 2) := by decide +kernel
theorem dX6_setThermostat_21 : decode cX6_setThermostat 21 = .ok (.invokestatic 40, 3) := by decide +kernel
theorem dX6_setThermostat_24 : decode cX6_setThermostat 24 = .ok (.ifCond .eq 15, 3) := by decide +kernel
theorem dX6_setThermostat_27 : decode cX6_setThermostat 27 = .ok (.iload_n 3, 1) := by decide +kernel
theorem dX6_setThermostat_28 : decode cX6_setThermostat 28 = .ok (.bipush 100, 2) := by decide +kernel
theorem dX6_setThermostat_30 : decode cX6_setThermostat 30 = .ok (.sipush 5000, 3) := by decide +kernel
theorem dX6_setThermostat_33 : decode cX6_setThermostat 33 = .ok (.invokestatic 40, 3) := by decide +kernel
theorem dX6_setThermostat_36 : decode cX6_setThermostat 36 = .ok (.ifCond .ne 6, 3) := by decide +kernel
theorem dX6_setThermostat_39 : decode cX6_setThermostat 39 = .ok (.ldc 44, 2) := by decide +kernel
theorem dX6_setThermostat_41 : decode cX6_setThermostat 41 = .ok (.ireturn, 1) := by decide +kernel
theorem dX6_setThermostat_42 : decode cX6_setThermostat 42 = .ok (.aload_n 0, 1) := by decide +kernel
theorem dX6_setThermostat_43 : decode cX6_setThermostat 43 = .ok (.getfield 22, 3) := by decide +kernel
theorem dX6_setThermostat_46 : decode cX6_setThermostat 46 = .ok (.aload_n 0, 1) := by decide +kernel
theorem dX6_setThermostat_47 : decode cX6_setThermostat 47 = .ok (.getfield 10, 3) := by decide +kernel
theorem dX6_setThermostat_50 : decode cX6_setThermostat 50 = .ok (.invokevirtual 50, 3) := by decide +kernel
theorem dX6_setThermostat_53 : decode cX6_setThermostat 53 = .ok (.aload 4, 2) := by decide +kernel
theorem dX6_setThermostat_55 : decode cX6_setThermostat 55 = .ok (.getfield 79, 3) := by decide +kernel
theorem dX6_setThermostat_58 : decode cX6_setThermostat 58 = .ok (.iload_n 2, 1) := by decide +kernel
theorem dX6_setThermostat_59 : decode cX6_setThermostat 59 = .ok (.if_icmp .ne 16, 3) := by decide +kernel
theorem dX6_setThermostat_62 : decode cX6_setThermostat 62 = .ok (.aload 4, 2) := by decide +kernel
theorem dX6_setThermostat_64 : decode cX6_setThermostat 64 = .ok (.getfield 84, 3) := by decide +kernel
theorem dX6_setThermostat_67 : decode cX6_setThermostat 67 = .ok (.iload_n 3, 1) := by decide +kernel
theorem dX6_setThermostat_68 : decode cX6_setThermostat 68 = .ok (.if_icmp .ne 7, 3) := by decide +kernel
theorem dX6_setThermostat_71 : decode cX6_setThermostat 71 = .ok (.iconst 1, 1) := by decide +kernel
theorem dX6_setThermostat_72 : decode cX6_setThermostat 72 = .ok (.goto 4, 3) := by decide +kernel
theorem dX6_setThermostat_75 : decode cX6_setThermostat 75 = .ok (.iconst 0, 1) := by decide +kernel
theorem dX6_setThermostat_76 : decode cX6_setThermostat 76 = .ok (.istore 5, 2) := by decide +kernel
theorem dX6_setThermostat_78 : decode cX6_setThermostat 78 = .ok (.aload 4, 2) := by decide +kernel
theorem dX6_setThermostat_80 : decode cX6_setThermostat 80 = .ok (.iload_n 2, 1) := by decide +kernel
theorem dX6_setThermostat_81 : decode cX6_setThermostat 81 = .ok (.putfield 79, 3) := by decide +kernel
theorem dX6_setThermostat_84 : decode cX6_setThermostat 84 = .ok (.aload 4, 2) := by decide +kernel
theorem dX6_setThermostat_86 : decode cX6_setThermostat 86 = .ok (.iload_n 3, 1) := by decide +kernel
theorem dX6_setThermostat_87 : decode cX6_setThermostat 87 = .ok (.putfield 84, 3) := by decide +kernel
theorem dX6_setThermostat_90 : decode cX6_setThermostat 90 = .ok (.iload 5, 2) := by decide +kernel
theorem dX6_setThermostat_92 : decode cX6_setThermostat 92 = .ok (.ifCond .eq 7, 3) := by decide +kernel
theorem dX6_setThermostat_95 : decode cX6_setThermostat 95 = .ok (.iconst 0, 1) := by decide +kernel
theorem dX6_setThermostat_96 : decode cX6_setThermostat 96 = .ok (.goto 4, 3) := by decide +kernel
theorem dX6_setThermostat_99 : decode cX6_setThermostat 99 = .ok (.iconst 1, 1) := by decide +kernel
theorem dX6_setThermostat_100 : decode cX6_setThermostat 100 = .ok (.ireturn, 1) := by decide +kernel
theorem dX6_setNumber_0 : decode cX6_setNumber 0 = .ok (.iload_n 1, 1) := by decide +kernel
theorem dX6_setNumber_1 : decode cX6_setNumber 1 = .ok (.iload_n 2, 1) := by decide +kernel
theorem dX6_setNumber_2 : decode cX6_setNumber 2 = .ok (.invokestatic 87, 3) := by decide +kernel
theorem dX6_setNumber_5 : decode cX6_setNumber 5 = .ok (.ifCond .ne 6, 3) := by decide +kernel
theorem dX6_setNumber_8 : decode cX6_setNumber 8 = .ok (.ldc 44, 2) := by decide +kernel
theorem dX6_setNumber_10 : decode cX6_setNumber 10 = .ok (.ireturn, 1) := by decide +kernel
theorem dX6_setNumber_11 : decode cX6_setNumber 11 = .ok (.aload_n 0, 1) := by decide +kernel
theorem dX6_setNumber_12 : decode cX6_setNumber 12 = .ok (.getfield 22, 3) := by decide +kernel
theorem dX6_setNumber_15 : decode cX6_setNumber 15 = .ok (.aload_n 0, 1) := by decide +kernel
theorem dX6_setNumber_16 : decode cX6_setNumber 16 = .ok (.getfield 10, 3) := by decide +kernel
theorem dX6_setNumber_19 : decode cX6_setNumber 19 = .ok (.invokevirtual 50, 3) := by decide +kernel
theorem dX6_setNumber_22 : decode cX6_setNumber 22 = .ok (.aload_n 0, 1) := by decide +kernel
theorem dX6_setNumber_23 : decode cX6_setNumber 23 = .ok (.getfield 10, 3) := by decide +kernel
theorem dX6_setNumber_26 : decode cX6_setNumber 26 = .ok (.iload_n 1, 1) := by decide +kernel
theorem dX6_setNumber_27 : decode cX6_setNumber 27 = .ok (.invokevirtual 90, 3) := by decide +kernel
theorem dX6_setNumber_30 : decode cX6_setNumber 30 = .ok (.istore_n 3, 1) := by decide +kernel
theorem dX6_setNumber_31 : decode cX6_setNumber 31 = .ok (.aload_n 0, 1) := by decide +kernel
theorem dX6_setNumber_32 : decode cX6_setNumber 32 = .ok (.getfield 10, 3) := by decide +kernel
theorem dX6_setNumber_35 : decode cX6_setNumber 35 = .ok (.iload_n 1, 1) := by decide +kernel
theorem dX6_setNumber_36 : decode cX6_setNumber 36 = .ok (.iload_n 2, 1) := by decide +kernel
theorem dX6_setNumber_37 : decode cX6_setNumber 37 = .ok (.invokevirtual 94, 3) := by decide +kernel
theorem dX6_setNumber_40 : decode cX6_setNumber 40 = .ok (.iload_n 3, 1) := by decide +kernel
theorem dX6_setNumber_41 : decode cX6_setNumber 41 = .ok (.ireturn, 1) := by decide +kernel
theorem dX6_warm_0 : decode cX6_warm 0 = .ok (.aload_n 0, 1) := by decide +kernel
theorem dX6_warm_1 : decode cX6_warm 1 = .ok (.getfield 10, 3) := by decide +kernel
theorem dX6_warm_4 : decode cX6_warm 4 = .ok (.iload_n 1, 1) := by decide +kernel
theorem dX6_warm_5 : decode cX6_warm 5 = .ok (.invokevirtual 74, 3) := by decide +kernel
theorem dX6_warm_8 : decode cX6_warm 8 = .ok (.astore_n 3, 1) := by decide +kernel
theorem dX6_warm_9 : decode cX6_warm 9 = .ok (.aload_n 3, 1) := by decide +kernel
theorem dX6_warm_10 : decode cX6_warm 10 = .ok (.ifnull 14, 3) := by decide +kernel
theorem dX6_warm_13 : decode cX6_warm 13 = .ok (.iload_n 2, 1) := by decide +kernel
theorem dX6_warm_14 : decode cX6_warm 14 = .ok (.ldc 98, 2) := by decide +kernel
theorem dX6_warm_16 : decode cX6_warm 16 = .ok (.ldc 99, 2) := by decide +kernel
theorem dX6_warm_18 : decode cX6_warm 18 = .ok (.invokestatic 40, 3) := by decide +kernel
theorem dX6_warm_21 : decode cX6_warm 21 = .ok (.ifCond .ne 6, 3) := by decide +kernel
theorem dX6_warm_24 : decode cX6_warm 24 = .ok (.ldc 44, 2) := by decide +kernel
theorem dX6_warm_26 : decode cX6_warm 26 = .ok (.ireturn, 1) := by decide +kernel
theorem dX6_warm_27 : decode cX6_warm 27 = .ok (.aload_n 3, 1) := by decide +kernel
theorem dX6_warm_28 : decode cX6_warm 28 = .ok (.aload_n 3, 1) := by decide +kernel
theorem dX6_warm_29 : decode cX6_warm 29 = .ok (.getfield 100, 3) := by decide +kernel
theorem dX6_warm_32 : decode cX6_warm 32 = .ok (.iload_n 2, 1) := by decide +kernel
theorem dX6_warm_33 : decode cX6_warm 33 = .ok (.iadd, 1) := by decide +kernel
theorem dX6_warm_34 : decode cX6_warm 34 = .ok (.invokevirtual 103, 3) := by decide +kernel
theorem dX6_warm_37 : decode cX6_warm 37 = .ok (.istore 4, 2) := by decide +kernel
theorem dX6_warm_39 : decode cX6_warm 39 = .ok (.iload 4, 2) := by decide +kernel
theorem dX6_warm_41 : decode cX6_warm 41 = .ok (.ldc 106, 2) := by decide +kernel
theorem dX6_warm_43 : decode cX6_warm 43 = .ok (.ldc 107, 2) := by decide +kernel
theorem dX6_warm_45 : decode cX6_warm 45 = .ok (.invokestatic 40, 3) := by decide +kernel
theorem dX6_warm_48 : decode cX6_warm 48 = .ok (.ifCond .ne 6, 3) := by decide +kernel
theorem dX6_warm_51 : decode cX6_warm 51 = .ok (.ldc 69, 2) := by decide +kernel
theorem dX6_warm_53 : decode cX6_warm 53 = .ok (.ireturn, 1) := by decide +kernel
theorem dX6_warm_54 : decode cX6_warm 54 = .ok (.aload_n 0, 1) := by decide +kernel
theorem dX6_warm_55 : decode cX6_warm 55 = .ok (.getfield 22, 3) := by decide +kernel
theorem dX6_warm_58 : decode cX6_warm 58 = .ok (.aload_n 0, 1) := by decide +kernel
theorem dX6_warm_59 : decode cX6_warm 59 = .ok (.getfield 10, 3) := by decide +kernel
theorem dX6_warm_62 : decode cX6_warm 62 = .ok (.invokevirtual 50, 3) := by decide +kernel
theorem dX6_warm_65 : decode cX6_warm 65 = .ok (.aload_n 3, 1) := by decide +kernel
theorem dX6_warm_66 : decode cX6_warm 66 = .ok (.iload_n 2, 1) := by decide +kernel
theorem dX6_warm_67 : decode cX6_warm 67 = .ok (.invokevirtual 108, 3) := by decide +kernel
theorem dX6_warm_70 : decode cX6_warm 70 = .ok (.iload 4, 2) := by decide +kernel
theorem dX6_warm_72 : decode cX6_warm 72 = .ok (.ireturn, 1) := by decide +kernel
theorem dX6_service_0 : decode cX6_service 0 = .ok (.aload_n 0, 1) := by decide +kernel
theorem dX6_service_1 : decode cX6_service 1 = .ok (.getfield 10, 3) := by decide +kernel
theorem dX6_service_4 : decode cX6_service 4 = .ok (.iload_n 1, 1) := by decide +kernel
theorem dX6_service_5 : decode cX6_service 5 = .ok (.invokevirtual 74, 3) := by decide +kernel
theorem dX6_service_8 : decode cX6_service 8 = .ok (.astore_n 2, 1) := by decide +kernel
theorem dX6_service_9 : decode cX6_service 9 = .ok (.aload_n 2, 1) := by decide +kernel
theorem dX6_service_10 : decode cX6_service 10 = .ok (.ifnonnull 6, 3) := by decide +kernel
theorem dX6_service_13 : decode cX6_service 13 = .ok (.ldc 44, 2) := by decide +kernel
theorem dX6_service_15 : decode cX6_service 15 = .ok (.ireturn, 1) := by decide +kernel
theorem dX6_service_16 : decode cX6_service 16 = .ok (.aload_n 0, 1) := by decide +kernel
theorem dX6_service_17 : decode cX6_service 17 = .ok (.getfield 22, 3) := by decide +kernel
theorem dX6_service_20 : decode cX6_service 20 = .ok (.aload_n 0, 1) := by decide +kernel
theorem dX6_service_21 : decode cX6_service 21 = .ok (.getfield 10, 3) := by decide +kernel
theorem dX6_service_24 : decode cX6_service 24 = .ok (.invokevirtual 50, 3) := by decide +kernel
theorem dX6_service_27 : decode cX6_service 27 = .ok (.aload_n 2, 1) := by decide +kernel
theorem dX6_service_28 : decode cX6_service 28 = .ok (.getfield 112, 3) := by decide +kernel
theorem dX6_service_31 : decode cX6_service 31 = .ok (.istore_n 3, 1) := by decide +kernel
theorem dX6_service_32 : decode cX6_service 32 = .ok (.aload_n 2, 1) := by decide +kernel
theorem dX6_service_33 : decode cX6_service 33 = .ok (.invokevirtual 115, 3) := by decide +kernel
theorem dX6_service_36 : decode cX6_service 36 = .ok (.iload_n 3, 1) := by decide +kernel
theorem dX6_service_37 : decode cX6_service 37 = .ok (.ireturn, 1) := by decide +kernel
theorem dX6_resetCutout_0 : decode cX6_resetCutout 0 = .ok (.aload_n 0, 1) := by decide +kernel
theorem dX6_resetCutout_1 : decode cX6_resetCutout 1 = .ok (.getfield 10, 3) := by decide +kernel
theorem dX6_resetCutout_4 : decode cX6_resetCutout 4 = .ok (.iload_n 1, 1) := by decide +kernel
theorem dX6_resetCutout_5 : decode cX6_resetCutout 5 = .ok (.invokevirtual 74, 3) := by decide +kernel
theorem dX6_resetCutout_8 : decode cX6_resetCutout 8 = .ok (.astore_n 2, 1) := by decide +kernel
theorem dX6_resetCutout_9 : decode cX6_resetCutout 9 = .ok (.aload_n 2, 1) := by decide +kernel
theorem dX6_resetCutout_10 : decode cX6_resetCutout 10 = .ok (.ifnonnull 6, 3) := by decide +kernel
theorem dX6_resetCutout_13 : decode cX6_resetCutout 13 = .ok (.ldc 44, 2) := by decide +kernel
theorem dX6_resetCutout_15 : decode cX6_resetCutout 15 = .ok (.ireturn, 1) := by decide +kernel
theorem dX6_resetCutout_16 : decode cX6_resetCutout 16 = .ok (.aload_n 2, 1) := by decide +kernel
theorem dX6_resetCutout_17 : decode cX6_resetCutout 17 = .ok (.invokevirtual 118, 3) := by decide +kernel
theorem dX6_resetCutout_20 : decode cX6_resetCutout 20 = .ok (.istore_n 3, 1) := by decide +kernel
theorem dX6_resetCutout_21 : decode cX6_resetCutout 21 = .ok (.aload_n 2, 1) := by decide +kernel
theorem dX6_resetCutout_22 : decode cX6_resetCutout 22 = .ok (.getfield 122, 3) := by decide +kernel
theorem dX6_resetCutout_25 : decode cX6_resetCutout 25 = .ok (.ifCond .eq 15, 3) := by decide +kernel
theorem dX6_resetCutout_28 : decode cX6_resetCutout 28 = .ok (.iload_n 3, 1) := by decide +kernel
theorem dX6_resetCutout_29 : decode cX6_resetCutout 29 = .ok (.aload_n 0, 1) := by decide +kernel
theorem dX6_resetCutout_30 : decode cX6_resetCutout 30 = .ok (.getfield 10, 3) := by decide +kernel
theorem dX6_resetCutout_33 : decode cX6_resetCutout 33 = .ok (.iconst 5, 1) := by decide +kernel
theorem dX6_resetCutout_34 : decode cX6_resetCutout 34 = .ok (.invokevirtual 90, 3) := by decide +kernel
theorem dX6_resetCutout_37 : decode cX6_resetCutout 37 = .ok (.if_icmp .le 6, 3) := by decide +kernel
theorem dX6_resetCutout_40 : decode cX6_resetCutout 40 = .ok (.ldc 69, 2) := by decide +kernel
theorem dX6_resetCutout_42 : decode cX6_resetCutout 42 = .ok (.ireturn, 1) := by decide +kernel
theorem dX6_resetCutout_43 : decode cX6_resetCutout 43 = .ok (.aload_n 0, 1) := by decide +kernel
theorem dX6_resetCutout_44 : decode cX6_resetCutout 44 = .ok (.getfield 22, 3) := by decide +kernel
theorem dX6_resetCutout_47 : decode cX6_resetCutout 47 = .ok (.aload_n 0, 1) := by decide +kernel
theorem dX6_resetCutout_48 : decode cX6_resetCutout 48 = .ok (.getfield 10, 3) := by decide +kernel
theorem dX6_resetCutout_51 : decode cX6_resetCutout 51 = .ok (.invokevirtual 50, 3) := by decide +kernel
theorem dX6_resetCutout_54 : decode cX6_resetCutout 54 = .ok (.aload_n 2, 1) := by decide +kernel
theorem dX6_resetCutout_55 : decode cX6_resetCutout 55 = .ok (.iconst 0, 1) := by decide +kernel
theorem dX6_resetCutout_56 : decode cX6_resetCutout 56 = .ok (.putfield 122, 3) := by decide +kernel
theorem dX6_resetCutout_59 : decode cX6_resetCutout 59 = .ok (.iload_n 3, 1) := by decide +kernel
theorem dX6_resetCutout_60 : decode cX6_resetCutout 60 = .ok (.ireturn, 1) := by decide +kernel
theorem dX6_room_0 : decode cX6_room 0 = .ok (.aload_n 0, 1) := by decide +kernel
theorem dX6_room_1 : decode cX6_room 1 = .ok (.getfield 10, 3) := by decide +kernel
theorem dX6_room_4 : decode cX6_room 4 = .ok (.iload_n 1, 1) := by decide +kernel
theorem dX6_room_5 : decode cX6_room 5 = .ok (.invokevirtual 74, 3) := by decide +kernel
theorem dX6_room_8 : decode cX6_room 8 = .ok (.astore_n 3, 1) := by decide +kernel
theorem dX6_room_9 : decode cX6_room 9 = .ok (.aload_n 3, 1) := by decide +kernel
theorem dX6_room_10 : decode cX6_room 10 = .ok (.ifnonnull 8, 3) := by decide +kernel
theorem dX6_room_13 : decode cX6_room 13 = .ok (.ldc 44, 2) := by decide +kernel
theorem dX6_room_15 : decode cX6_room 15 = .ok (.goto 8, 3) := by decide +kernel
theorem dX6_room_18 : decode cX6_room 18 = .ok (.aload_n 3, 1) := by decide +kernel
theorem dX6_room_19 : decode cX6_room 19 = .ok (.iload_n 2, 1) := by decide +kernel
theorem dX6_room_20 : decode cX6_room 20 = .ok (.invokevirtual 126, 3) := by decide +kernel
theorem dX6_room_23 : decode cX6_room 23 = .ok (.ireturn, 1) := by decide +kernel
theorem dX6_book_0 : decode cX6_book 0 = .ok (.aload_n 0, 1) := by decide +kernel
theorem dX6_book_1 : decode cX6_book 1 = .ok (.getfield 10, 3) := by decide +kernel
theorem dX6_book_4 : decode cX6_book 4 = .ok (.iload_n 1, 1) := by decide +kernel
theorem dX6_book_5 : decode cX6_book 5 = .ok (.invokevirtual 74, 3) := by decide +kernel
theorem dX6_book_8 : decode cX6_book 8 = .ok (.astore_n 3, 1) := by decide +kernel
theorem dX6_book_9 : decode cX6_book 9 = .ok (.aload_n 3, 1) := by decide +kernel
theorem dX6_book_10 : decode cX6_book 10 = .ok (.ifnonnull 8, 3) := by decide +kernel
theorem dX6_book_13 : decode cX6_book 13 = .ok (.ldc 44, 2) := by decide +kernel
theorem dX6_book_15 : decode cX6_book 15 = .ok (.goto 11, 3) := by decide +kernel
theorem dX6_book_18 : decode cX6_book 18 = .ok (.aload_n 3, 1) := by decide +kernel
theorem dX6_book_19 : decode cX6_book 19 = .ok (.getfield 129, 3) := by decide +kernel
theorem dX6_book_22 : decode cX6_book 22 = .ok (.iload_n 2, 1) := by decide +kernel
theorem dX6_book_23 : decode cX6_book 23 = .ok (.invokevirtual 133, 3) := by decide +kernel
theorem dX6_book_26 : decode cX6_book 26 = .ok (.ireturn, 1) := by decide +kernel
theorem dX6_link_0 : decode cX6_link 0 = .ok (.aload_n 0, 1) := by decide +kernel
theorem dX6_link_1 : decode cX6_link 1 = .ok (.getfield 10, 3) := by decide +kernel
theorem dX6_link_4 : decode cX6_link 4 = .ok (.iload_n 1, 1) := by decide +kernel
theorem dX6_link_5 : decode cX6_link 5 = .ok (.iload_n 2, 1) := by decide +kernel
theorem dX6_link_6 : decode cX6_link 6 = .ok (.invokevirtual 58, 3) := by decide +kernel
theorem dX6_link_9 : decode cX6_link 9 = .ok (.ifCond .eq 15, 3) := by decide +kernel
theorem dX6_link_12 : decode cX6_link 12 = .ok (.aload_n 0, 1) := by decide +kernel
theorem dX6_link_13 : decode cX6_link 13 = .ok (.getfield 10, 3) := by decide +kernel
theorem dX6_link_16 : decode cX6_link 16 = .ok (.iload_n 1, 1) := by decide +kernel
theorem dX6_link_17 : decode cX6_link 17 = .ok (.iload_n 2, 1) := by decide +kernel
theorem dX6_link_18 : decode cX6_link 18 = .ok (.invokevirtual 62, 3) := by decide +kernel
theorem dX6_link_21 : decode cX6_link 21 = .ok (.goto 5, 3) := by decide +kernel
theorem dX6_link_24 : decode cX6_link 24 = .ok (.ldc 44, 2) := by decide +kernel
theorem dX6_link_26 : decode cX6_link 26 = .ok (.ireturn, 1) := by decide +kernel
theorem dX6_count_0 : decode cX6_count 0 = .ok (.iload_n 1, 1) := by decide +kernel
theorem dX6_count_1 : decode cX6_count 1 = .ok (.iconst 0, 1) := by decide +kernel
theorem dX6_count_2 : decode cX6_count 2 = .ok (.bipush 6, 2) := by decide +kernel
theorem dX6_count_4 : decode cX6_count 4 = .ok (.invokestatic 40, 3) := by decide +kernel
theorem dX6_count_7 : decode cX6_count 7 = .ok (.ifCond .eq 12, 3) := by decide +kernel
theorem dX6_count_10 : decode cX6_count 10 = .ok (.aload_n 0, 1) := by decide +kernel
theorem dX6_count_11 : decode cX6_count 11 = .ok (.getfield 10, 3) := by decide +kernel
theorem dX6_count_14 : decode cX6_count 14 = .ok (.iload_n 1, 1) := by decide +kernel
theorem dX6_count_15 : decode cX6_count 15 = .ok (.invokevirtual 90, 3) := by decide +kernel
theorem dX6_count_18 : decode cX6_count 18 = .ok (.ireturn, 1) := by decide +kernel
theorem dX6_count_19 : decode cX6_count 19 = .ok (.iload_n 1, 1) := by decide +kernel
theorem dX6_count_20 : decode cX6_count 20 = .ok (.tableswitch 103 7 13 #[44, 52, 60, 71, 79, 87, 95], 44) := by decide +kernel
theorem dX6_count_64 : decode cX6_count 64 = .ok (.aload_n 0, 1) := by decide +kernel
theorem dX6_count_65 : decode cX6_count 65 = .ok (.getfield 10, 3) := by decide +kernel
theorem dX6_count_68 : decode cX6_count 68 = .ok (.getfield 45, 3) := by decide +kernel
theorem dX6_count_71 : decode cX6_count 71 = .ok (.ireturn, 1) := by decide +kernel
theorem dX6_count_72 : decode cX6_count 72 = .ok (.aload_n 0, 1) := by decide +kernel
theorem dX6_count_73 : decode cX6_count 73 = .ok (.getfield 10, 3) := by decide +kernel
theorem dX6_count_76 : decode cX6_count 76 = .ok (.getfield 138, 3) := by decide +kernel
theorem dX6_count_79 : decode cX6_count 79 = .ok (.ireturn, 1) := by decide +kernel
theorem dX6_count_80 : decode cX6_count 80 = .ok (.aload_n 0, 1) := by decide +kernel
theorem dX6_count_81 : decode cX6_count 81 = .ok (.getfield 10, 3) := by decide +kernel
theorem dX6_count_84 : decode cX6_count 84 = .ok (.getfield 141, 3) := by decide +kernel
theorem dX6_count_87 : decode cX6_count 87 = .ok (.getfield 144, 3) := by decide +kernel
theorem dX6_count_90 : decode cX6_count 90 = .ok (.ireturn, 1) := by decide +kernel
theorem dX6_count_91 : decode cX6_count 91 = .ok (.aload_n 0, 1) := by decide +kernel
theorem dX6_count_92 : decode cX6_count 92 = .ok (.getfield 10, 3) := by decide +kernel
theorem dX6_count_95 : decode cX6_count 95 = .ok (.invokevirtual 147, 3) := by decide +kernel
theorem dX6_count_98 : decode cX6_count 98 = .ok (.ireturn, 1) := by decide +kernel
theorem dX6_count_99 : decode cX6_count 99 = .ok (.aload_n 0, 1) := by decide +kernel
theorem dX6_count_100 : decode cX6_count 100 = .ok (.getfield 10, 3) := by decide +kernel
theorem dX6_count_103 : decode cX6_count 103 = .ok (.invokevirtual 150, 3) := by decide +kernel
theorem dX6_count_106 : decode cX6_count 106 = .ok (.ireturn, 1) := by decide +kernel
theorem dX6_count_107 : decode cX6_count 107 = .ok (.aload_n 0, 1) := by decide +kernel
theorem dX6_count_108 : decode cX6_count 108 = .ok (.getfield 29, 3) := by decide +kernel
theorem dX6_count_111 : decode cX6_count 111 = .ok (.getfield 153, 3) := by decide +kernel
theorem dX6_count_114 : decode cX6_count 114 = .ok (.ireturn, 1) := by decide +kernel
theorem dX6_count_115 : decode cX6_count 115 = .ok (.aload_n 0, 1) := by decide +kernel
theorem dX6_count_116 : decode cX6_count 116 = .ok (.getfield 22, 3) := by decide +kernel
theorem dX6_count_119 : decode cX6_count 119 = .ok (.getfield 156, 3) := by decide +kernel
theorem dX6_count_122 : decode cX6_count 122 = .ok (.ireturn, 1) := by decide +kernel
theorem dX6_count_123 : decode cX6_count 123 = .ok (.ldc 44, 2) := by decide +kernel
theorem dX6_count_125 : decode cX6_count 125 = .ok (.ireturn, 1) := by decide +kernel
theorem dX6_appendCharacter_0 : decode cX6_appendCharacter 0 = .ok (.iload_n 1, 1) := by decide +kernel
theorem dX6_appendCharacter_1 : decode cX6_appendCharacter 1 = .ok (.iconst 0, 1) := by decide +kernel
theorem dX6_appendCharacter_2 : decode cX6_appendCharacter 2 = .ok (.sipush 255, 3) := by decide +kernel
theorem dX6_appendCharacter_5 : decode cX6_appendCharacter 5 = .ok (.invokestatic 40, 3) := by decide +kernel
theorem dX6_appendCharacter_8 : decode cX6_appendCharacter 8 = .ok (.ifCond .ne 6, 3) := by decide +kernel
theorem dX6_appendCharacter_11 : decode cX6_appendCharacter 11 = .ok (.ldc 44, 2) := by decide +kernel
theorem dX6_appendCharacter_13 : decode cX6_appendCharacter 13 = .ok (.ireturn, 1) := by decide +kernel
theorem dX6_appendCharacter_14 : decode cX6_appendCharacter 14 = .ok (.aload_n 0, 1) := by decide +kernel
theorem dX6_appendCharacter_15 : decode cX6_appendCharacter 15 = .ok (.getfield 29, 3) := by decide +kernel
theorem dX6_appendCharacter_18 : decode cX6_appendCharacter 18 = .ok (.iload_n 1, 1) := by decide +kernel
theorem dX6_appendCharacter_19 : decode cX6_appendCharacter 19 = .ok (.invokevirtual 157, 3) := by decide +kernel
theorem dX6_appendCharacter_22 : decode cX6_appendCharacter 22 = .ok (.ifCond .eq 13, 3) := by decide +kernel
theorem dX6_appendCharacter_25 : decode cX6_appendCharacter 25 = .ok (.aload_n 0, 1) := by decide +kernel
theorem dX6_appendCharacter_26 : decode cX6_appendCharacter 26 = .ok (.getfield 29, 3) := by decide +kernel
theorem dX6_appendCharacter_29 : decode cX6_appendCharacter 29 = .ok (.getfield 153, 3) := by decide +kernel
theorem dX6_appendCharacter_32 : decode cX6_appendCharacter 32 = .ok (.goto 5, 3) := by decide +kernel
theorem dX6_appendCharacter_35 : decode cX6_appendCharacter 35 = .ok (.ldc 49, 2) := by decide +kernel
theorem dX6_appendCharacter_37 : decode cX6_appendCharacter 37 = .ok (.ireturn, 1) := by decide +kernel
theorem dX6_clearText_0 : decode cX6_clearText 0 = .ok (.aload_n 0, 1) := by decide +kernel
theorem dX6_clearText_1 : decode cX6_clearText 1 = .ok (.getfield 29, 3) := by decide +kernel
theorem dX6_clearText_4 : decode cX6_clearText 4 = .ok (.getfield 153, 3) := by decide +kernel
theorem dX6_clearText_7 : decode cX6_clearText 7 = .ok (.istore_n 1, 1) := by decide +kernel
theorem dX6_clearText_8 : decode cX6_clearText 8 = .ok (.aload_n 0, 1) := by decide +kernel
theorem dX6_clearText_9 : decode cX6_clearText 9 = .ok (.getfield 29, 3) := by decide +kernel
theorem dX6_clearText_12 : decode cX6_clearText 12 = .ok (.iconst 0, 1) := by decide +kernel
theorem dX6_clearText_13 : decode cX6_clearText 13 = .ok (.putfield 153, 3) := by decide +kernel
theorem dX6_clearText_16 : decode cX6_clearText 16 = .ok (.iload_n 1, 1) := by decide +kernel
theorem dX6_clearText_17 : decode cX6_clearText 17 = .ok (.ireturn, 1) := by decide +kernel
theorem dX6_load_0 : decode cX6_load 0 = .ok (.aload_n 0, 1) := by decide +kernel
theorem dX6_load_1 : decode cX6_load 1 = .ok (.getfield 29, 3) := by decide +kernel
theorem dX6_load_4 : decode cX6_load 4 = .ok (.aload_n 0, 1) := by decide +kernel
theorem dX6_load_5 : decode cX6_load 5 = .ok (.getfield 36, 3) := by decide +kernel
theorem dX6_load_8 : decode cX6_load 8 = .ok (.invokevirtual 161, 3) := by decide +kernel
theorem dX6_load_11 : decode cX6_load 11 = .ok (.istore_n 1, 1) := by decide +kernel
theorem dX6_load_12 : decode cX6_load 12 = .ok (.iload_n 1, 1) := by decide +kernel
theorem dX6_load_13 : decode cX6_load 13 = .ok (.iconst (-1), 1) := by decide +kernel
theorem dX6_load_14 : decode cX6_load 14 = .ok (.if_icmp .eq 8, 3) := by decide +kernel
theorem dX6_load_17 : decode cX6_load 17 = .ok (.bipush (-10), 2) := by decide +kernel
theorem dX6_load_19 : decode cX6_load 19 = .ok (.iload_n 1, 1) := by decide +kernel
theorem dX6_load_20 : decode cX6_load 20 = .ok (.isub, 1) := by decide +kernel
theorem dX6_load_21 : decode cX6_load 21 = .ok (.ireturn, 1) := by decide +kernel
theorem dX6_load_22 : decode cX6_load 22 = .ok (.aload_n 0, 1) := by decide +kernel
theorem dX6_load_23 : decode cX6_load 23 = .ok (.getfield 22, 3) := by decide +kernel
theorem dX6_load_26 : decode cX6_load 26 = .ok (.aload_n 0, 1) := by decide +kernel
theorem dX6_load_27 : decode cX6_load 27 = .ok (.getfield 10, 3) := by decide +kernel
theorem dX6_load_30 : decode cX6_load 30 = .ok (.invokevirtual 50, 3) := by decide +kernel
theorem dX6_load_33 : decode cX6_load 33 = .ok (.aload_n 0, 1) := by decide +kernel
theorem dX6_load_34 : decode cX6_load 34 = .ok (.getfield 10, 3) := by decide +kernel
theorem dX6_load_37 : decode cX6_load 37 = .ok (.getfield 141, 3) := by decide +kernel
theorem dX6_load_40 : decode cX6_load 40 = .ok (.aload_n 0, 1) := by decide +kernel
theorem dX6_load_41 : decode cX6_load 41 = .ok (.getfield 36, 3) := by decide +kernel
theorem dX6_load_44 : decode cX6_load 44 = .ok (.invokevirtual 165, 3) := by decide +kernel
theorem dX6_load_47 : decode cX6_load 47 = .ok (.aload_n 0, 1) := by decide +kernel
theorem dX6_load_48 : decode cX6_load 48 = .ok (.getfield 29, 3) := by decide +kernel
theorem dX6_load_51 : decode cX6_load 51 = .ok (.iconst 0, 1) := by decide +kernel
theorem dX6_load_52 : decode cX6_load 52 = .ok (.putfield 153, 3) := by decide +kernel
theorem dX6_load_55 : decode cX6_load 55 = .ok (.aload_n 0, 1) := by decide +kernel
theorem dX6_load_56 : decode cX6_load 56 = .ok (.getfield 10, 3) := by decide +kernel
theorem dX6_load_59 : decode cX6_load 59 = .ok (.getfield 141, 3) := by decide +kernel
theorem dX6_load_62 : decode cX6_load 62 = .ok (.getfield 144, 3) := by decide +kernel
theorem dX6_load_65 : decode cX6_load 65 = .ok (.ireturn, 1) := by decide +kernel
theorem dX6_outside_0 : decode cX6_outside 0 = .ok (.iload_n 1, 1) := by decide +kernel
theorem dX6_outside_1 : decode cX6_outside 1 = .ok (.iconst 0, 1) := by decide +kernel
theorem dX6_outside_2 : decode cX6_outside 2 = .ok (.sipush 20000, 3) := by decide +kernel
theorem dX6_outside_5 : decode cX6_outside 5 = .ok (.invokestatic 40, 3) := by decide +kernel
theorem dX6_outside_8 : decode cX6_outside 8 = .ok (.ifCond .eq 17, 3) := by decide +kernel
theorem dX6_outside_11 : decode cX6_outside 11 = .ok (.aload_n 0, 1) := by decide +kernel
theorem dX6_outside_12 : decode cX6_outside 12 = .ok (.getfield 10, 3) := by decide +kernel
theorem dX6_outside_15 : decode cX6_outside 15 = .ok (.getfield 141, 3) := by decide +kernel
theorem dX6_outside_18 : decode cX6_outside 18 = .ok (.iload_n 1, 1) := by decide +kernel
theorem dX6_outside_19 : decode cX6_outside 19 = .ok (.invokevirtual 169, 3) := by decide +kernel
theorem dX6_outside_22 : decode cX6_outside 22 = .ok (.goto 5, 3) := by decide +kernel
theorem dX6_outside_25 : decode cX6_outside 25 = .ok (.ldc 44, 2) := by decide +kernel
theorem dX6_outside_27 : decode cX6_outside 27 = .ok (.ireturn, 1) := by decide +kernel
theorem dX6_pass_0 : decode cX6_pass 0 = .ok (.iload_n 1, 1) := by decide +kernel
theorem dX6_pass_1 : decode cX6_pass 1 = .ok (.iconst 1, 1) := by decide +kernel
theorem dX6_pass_2 : decode cX6_pass 2 = .ok (.sipush 500, 3) := by decide +kernel
theorem dX6_pass_5 : decode cX6_pass 5 = .ok (.invokestatic 40, 3) := by decide +kernel
theorem dX6_pass_8 : decode cX6_pass 8 = .ok (.ifCond .ne 6, 3) := by decide +kernel
theorem dX6_pass_11 : decode cX6_pass 11 = .ok (.ldc 44, 2) := by decide +kernel
theorem dX6_pass_13 : decode cX6_pass 13 = .ok (.ireturn, 1) := by decide +kernel
theorem dX6_pass_14 : decode cX6_pass 14 = .ok (.aload_n 0, 1) := by decide +kernel
theorem dX6_pass_15 : decode cX6_pass 15 = .ok (.getfield 10, 3) := by decide +kernel
theorem dX6_pass_18 : decode cX6_pass 18 = .ok (.getfield 45, 3) := by decide +kernel
theorem dX6_pass_21 : decode cX6_pass 21 = .ok (.ifCond .ne 6, 3) := by decide +kernel
theorem dX6_pass_24 : decode cX6_pass 24 = .ok (.ldc 69, 2) := by decide +kernel
theorem dX6_pass_26 : decode cX6_pass 26 = .ok (.ireturn, 1) := by decide +kernel
theorem dX6_pass_27 : decode cX6_pass 27 = .ok (.iload_n 1, 1) := by decide +kernel
theorem dX6_pass_28 : decode cX6_pass 28 = .ok (.sipush 20000, 3) := by decide +kernel
theorem dX6_pass_31 : decode cX6_pass 31 = .ok (.aload_n 0, 1) := by decide +kernel
theorem dX6_pass_32 : decode cX6_pass 32 = .ok (.getfield 10, 3) := by decide +kernel
theorem dX6_pass_35 : decode cX6_pass 35 = .ok (.getfield 138, 3) := by decide +kernel
theorem dX6_pass_38 : decode cX6_pass 38 = .ok (.isub, 1) := by decide +kernel
theorem dX6_pass_39 : decode cX6_pass 39 = .ok (.if_icmp .le 6, 3) := by decide +kernel
theorem dX6_pass_42 : decode cX6_pass 42 = .ok (.ldc 49, 2) := by decide +kernel
theorem dX6_pass_44 : decode cX6_pass 44 = .ok (.ireturn, 1) := by decide +kernel
theorem dX6_pass_45 : decode cX6_pass 45 = .ok (.aload_n 0, 1) := by decide +kernel
theorem dX6_pass_46 : decode cX6_pass 46 = .ok (.getfield 22, 3) := by decide +kernel
theorem dX6_pass_49 : decode cX6_pass 49 = .ok (.aload_n 0, 1) := by decide +kernel
theorem dX6_pass_50 : decode cX6_pass 50 = .ok (.getfield 10, 3) := by decide +kernel
theorem dX6_pass_53 : decode cX6_pass 53 = .ok (.invokevirtual 50, 3) := by decide +kernel
theorem dX6_pass_56 : decode cX6_pass 56 = .ok (.aload_n 0, 1) := by decide +kernel
theorem dX6_pass_57 : decode cX6_pass 57 = .ok (.getfield 10, 3) := by decide +kernel
theorem dX6_pass_60 : decode cX6_pass 60 = .ok (.iload_n 1, 1) := by decide +kernel
theorem dX6_pass_61 : decode cX6_pass 61 = .ok (.invokevirtual 172, 3) := by decide +kernel
theorem dX6_pass_64 : decode cX6_pass 64 = .ok (.ireturn, 1) := by decide +kernel
theorem dX6_minutesToSuspect_0 : decode cX6_minutesToSuspect 0 = .ok (.aload_n 0, 1) := by decide +kernel
theorem dX6_minutesToSuspect_1 : decode cX6_minutesToSuspect 1 = .ok (.getfield 16, 3) := by decide +kernel
theorem dX6_minutesToSuspect_4 : decode cX6_minutesToSuspect 4 = .ok (.aload_n 0, 1) := by decide +kernel
theorem dX6_minutesToSuspect_5 : decode cX6_minutesToSuspect 5 = .ok (.getfield 10, 3) := by decide +kernel
theorem dX6_minutesToSuspect_8 : decode cX6_minutesToSuspect 8 = .ok (.invokevirtual 175, 3) := by decide +kernel
theorem dX6_minutesToSuspect_11 : decode cX6_minutesToSuspect 11 = .ok (.aload_n 0, 1) := by decide +kernel
theorem dX6_minutesToSuspect_12 : decode cX6_minutesToSuspect 12 = .ok (.getfield 16, 3) := by decide +kernel
theorem dX6_minutesToSuspect_15 : decode cX6_minutesToSuspect 15 = .ok (.iload_n 1, 1) := by decide +kernel
theorem dX6_minutesToSuspect_16 : decode cX6_minutesToSuspect 16 = .ok (.invokevirtual 74, 3) := by decide +kernel
theorem dX6_minutesToSuspect_19 : decode cX6_minutesToSuspect 19 = .ok (.astore_n 2, 1) := by decide +kernel
theorem dX6_minutesToSuspect_20 : decode cX6_minutesToSuspect 20 = .ok (.aload_n 2, 1) := by decide +kernel
theorem dX6_minutesToSuspect_21 : decode cX6_minutesToSuspect 21 = .ok (.ifnonnull 6, 3) := by decide +kernel
theorem dX6_minutesToSuspect_24 : decode cX6_minutesToSuspect 24 = .ok (.ldc 44, 2) := by decide +kernel
theorem dX6_minutesToSuspect_26 : decode cX6_minutesToSuspect 26 = .ok (.ireturn, 1) := by decide +kernel
theorem dX6_minutesToSuspect_27 : decode cX6_minutesToSuspect 27 = .ok (.iconst 0, 1) := by decide +kernel
theorem dX6_minutesToSuspect_28 : decode cX6_minutesToSuspect 28 = .ok (.istore_n 3, 1) := by decide +kernel
theorem dX6_minutesToSuspect_29 : decode cX6_minutesToSuspect 29 = .ok (.iload_n 3, 1) := by decide +kernel
theorem dX6_minutesToSuspect_30 : decode cX6_minutesToSuspect 30 = .ok (.sipush 1000, 3) := by decide +kernel
theorem dX6_minutesToSuspect_33 : decode cX6_minutesToSuspect 33 = .ok (.if_icmp .ge 30, 3) := by decide +kernel
theorem dX6_minutesToSuspect_36 : decode cX6_minutesToSuspect 36 = .ok (.aload_n 0, 1) := by decide +kernel
theorem dX6_minutesToSuspect_37 : decode cX6_minutesToSuspect 37 = .ok (.getfield 16, 3) := by decide +kernel
theorem dX6_minutesToSuspect_40 : decode cX6_minutesToSuspect 40 = .ok (.aload_n 2, 1) := by decide +kernel
theorem dX6_minutesToSuspect_41 : decode cX6_minutesToSuspect 41 = .ok (.invokevirtual 177, 3) := by decide +kernel
theorem dX6_minutesToSuspect_44 : decode cX6_minutesToSuspect 44 = .ok (.ifCond .eq 5, 3) := by decide +kernel
theorem dX6_minutesToSuspect_47 : decode cX6_minutesToSuspect 47 = .ok (.iload_n 3, 1) := by decide +kernel
theorem dX6_minutesToSuspect_48 : decode cX6_minutesToSuspect 48 = .ok (.ireturn, 1) := by decide +kernel
theorem dX6_minutesToSuspect_49 : decode cX6_minutesToSuspect 49 = .ok (.aload_n 0, 1) := by decide +kernel
theorem dX6_minutesToSuspect_50 : decode cX6_minutesToSuspect 50 = .ok (.getfield 16, 3) := by decide +kernel
theorem dX6_minutesToSuspect_53 : decode cX6_minutesToSuspect 53 = .ok (.invokevirtual 181, 3) := by decide +kernel
theorem dX6_minutesToSuspect_56 : decode cX6_minutesToSuspect 56 = .ok (.pop, 1) := by decide +kernel
theorem dX6_minutesToSuspect_57 : decode cX6_minutesToSuspect 57 = .ok (.iinc 3 1, 3) := by decide +kernel
theorem dX6_minutesToSuspect_60 : decode cX6_minutesToSuspect 60 = .ok (.goto (-31), 3) := by decide +kernel
theorem dX6_minutesToSuspect_63 : decode cX6_minutesToSuspect 63 = .ok (.aload_n 0, 1) := by decide +kernel
theorem dX6_minutesToSuspect_64 : decode cX6_minutesToSuspect 64 = .ok (.getfield 16, 3) := by decide +kernel
theorem dX6_minutesToSuspect_67 : decode cX6_minutesToSuspect 67 = .ok (.aload_n 2, 1) := by decide +kernel
theorem dX6_minutesToSuspect_68 : decode cX6_minutesToSuspect 68 = .ok (.invokevirtual 177, 3) := by decide +kernel
theorem dX6_minutesToSuspect_71 : decode cX6_minutesToSuspect 71 = .ok (.ifCond .eq 9, 3) := by decide +kernel
theorem dX6_minutesToSuspect_74 : decode cX6_minutesToSuspect 74 = .ok (.sipush 1000, 3) := by decide +kernel
theorem dX6_minutesToSuspect_77 : decode cX6_minutesToSuspect 77 = .ok (.goto 5, 3) := by decide +kernel
theorem dX6_minutesToSuspect_80 : decode cX6_minutesToSuspect 80 = .ok (.ldc 184, 2) := by decide +kernel
theorem dX6_minutesToSuspect_82 : decode cX6_minutesToSuspect 82 = .ok (.ireturn, 1) := by decide +kernel
theorem dX6_heatIn_0 : decode cX6_heatIn 0 = .ok (.iload_n 1, 1) := by decide +kernel
theorem dX6_heatIn_1 : decode cX6_heatIn 1 = .ok (.iconst 1, 1) := by decide +kernel
theorem dX6_heatIn_2 : decode cX6_heatIn 2 = .ok (.sipush 1000, 3) := by decide +kernel
theorem dX6_heatIn_5 : decode cX6_heatIn 5 = .ok (.invokestatic 40, 3) := by decide +kernel
theorem dX6_heatIn_8 : decode cX6_heatIn 8 = .ok (.ifCond .ne 6, 3) := by decide +kernel
theorem dX6_heatIn_11 : decode cX6_heatIn 11 = .ok (.ldc 44, 2) := by decide +kernel
theorem dX6_heatIn_13 : decode cX6_heatIn 13 = .ok (.ireturn, 1) := by decide +kernel
theorem dX6_heatIn_14 : decode cX6_heatIn 14 = .ok (.aload_n 0, 1) := by decide +kernel
theorem dX6_heatIn_15 : decode cX6_heatIn 15 = .ok (.getfield 16, 3) := by decide +kernel
theorem dX6_heatIn_18 : decode cX6_heatIn 18 = .ok (.aload_n 0, 1) := by decide +kernel
theorem dX6_heatIn_19 : decode cX6_heatIn 19 = .ok (.getfield 10, 3) := by decide +kernel
theorem dX6_heatIn_22 : decode cX6_heatIn 22 = .ok (.invokevirtual 175, 3) := by decide +kernel
theorem dX6_heatIn_25 : decode cX6_heatIn 25 = .ok (.aload_n 0, 1) := by decide +kernel
theorem dX6_heatIn_26 : decode cX6_heatIn 26 = .ok (.getfield 16, 3) := by decide +kernel
theorem dX6_heatIn_29 : decode cX6_heatIn 29 = .ok (.iload_n 1, 1) := by decide +kernel
theorem dX6_heatIn_30 : decode cX6_heatIn 30 = .ok (.invokevirtual 172, 3) := by decide +kernel
theorem dX6_heatIn_33 : decode cX6_heatIn 33 = .ok (.pop, 1) := by decide +kernel
theorem dX6_heatIn_34 : decode cX6_heatIn 34 = .ok (.aload_n 0, 1) := by decide +kernel
theorem dX6_heatIn_35 : decode cX6_heatIn 35 = .ok (.getfield 16, 3) := by decide +kernel
theorem dX6_heatIn_38 : decode cX6_heatIn 38 = .ok (.invokevirtual 185, 3) := by decide +kernel
theorem dX6_heatIn_41 : decode cX6_heatIn 41 = .ok (.aload_n 0, 1) := by decide +kernel
theorem dX6_heatIn_42 : decode cX6_heatIn 42 = .ok (.getfield 10, 3) := by decide +kernel
theorem dX6_heatIn_45 : decode cX6_heatIn 45 = .ok (.invokevirtual 185, 3) := by decide +kernel
theorem dX6_heatIn_48 : decode cX6_heatIn 48 = .ok (.isub, 1) := by decide +kernel
theorem dX6_heatIn_49 : decode cX6_heatIn 49 = .ok (.ireturn, 1) := by decide +kernel
theorem dX6_finesWith_0 : decode cX6_finesWith 0 = .ok (.aload_n 0, 1) := by decide +kernel
theorem dX6_finesWith_1 : decode cX6_finesWith 1 = .ok (.iload_n 1, 1) := by decide +kernel
theorem dX6_finesWith_2 : decode cX6_finesWith 2 = .ok (.iload_n 2, 1) := by decide +kernel
theorem dX6_finesWith_3 : decode cX6_finesWith 3 = .ok (.invokevirtual 188, 3) := by decide +kernel
theorem dX6_finesWith_6 : decode cX6_finesWith 6 = .ok (.astore 4, 2) := by decide +kernel
theorem dX6_finesWith_8 : decode cX6_finesWith 8 = .ok (.aload 4, 2) := by decide +kernel
theorem dX6_finesWith_10 : decode cX6_finesWith 10 = .ok (.ifnull 26, 3) := by decide +kernel
theorem dX6_finesWith_13 : decode cX6_finesWith 13 = .ok (.iload_n 2, 1) := by decide +kernel
theorem dX6_finesWith_14 : decode cX6_finesWith 14 = .ok (.bipush 100, 2) := by decide +kernel
theorem dX6_finesWith_16 : decode cX6_finesWith 16 = .ok (.sipush 5000, 3) := by decide +kernel
theorem dX6_finesWith_19 : decode cX6_finesWith 19 = .ok (.invokestatic 40, 3) := by decide +kernel
theorem dX6_finesWith_22 : decode cX6_finesWith 22 = .ok (.ifCond .eq 14, 3) := by decide +kernel
theorem dX6_finesWith_25 : decode cX6_finesWith 25 = .ok (.iload_n 3, 1) := by decide +kernel
theorem dX6_finesWith_26 : decode cX6_finesWith 26 = .ok (.iconst 1, 1) := by decide +kernel
theorem dX6_finesWith_27 : decode cX6_finesWith 27 = .ok (.sipush 1000, 3) := by decide +kernel
theorem dX6_finesWith_30 : decode cX6_finesWith 30 = .ok (.invokestatic 40, 3) := by decide +kernel
theorem dX6_finesWith_33 : decode cX6_finesWith 33 = .ok (.ifCond .ne 6, 3) := by decide +kernel
theorem dX6_finesWith_36 : decode cX6_finesWith 36 = .ok (.ldc 44, 2) := by decide +kernel
theorem dX6_finesWith_38 : decode cX6_finesWith 38 = .ok (.ireturn, 1) := by decide +kernel
theorem dX6_finesWith_39 : decode cX6_finesWith 39 = .ok (.aload 4, 2) := by decide +kernel
theorem dX6_finesWith_41 : decode cX6_finesWith 41 = .ok (.getfield 192, 3) := by decide +kernel
theorem dX6_finesWith_44 : decode cX6_finesWith 44 = .ok (.istore 5, 2) := by decide +kernel
theorem dX6_finesWith_46 : decode cX6_finesWith 46 = .ok (.aload_n 0, 1) := by decide +kernel
theorem dX6_finesWith_47 : decode cX6_finesWith 47 = .ok (.getfield 16, 3) := by decide +kernel
theorem dX6_finesWith_50 : decode cX6_finesWith 50 = .ok (.iload_n 3, 1) := by decide +kernel
theorem dX6_finesWith_51 : decode cX6_finesWith 51 = .ok (.invokevirtual 172, 3) := by decide +kernel
theorem dX6_finesWith_54 : decode cX6_finesWith 54 = .ok (.pop, 1) := by decide +kernel
theorem dX6_finesWith_55 : decode cX6_finesWith 55 = .ok (.aload 4, 2) := by decide +kernel
theorem dX6_finesWith_57 : decode cX6_finesWith 57 = .ok (.getfield 192, 3) := by decide +kernel
theorem dX6_finesWith_60 : decode cX6_finesWith 60 = .ok (.iload 5, 2) := by decide +kernel
theorem dX6_finesWith_62 : decode cX6_finesWith 62 = .ok (.isub, 1) := by decide +kernel
theorem dX6_finesWith_63 : decode cX6_finesWith 63 = .ok (.ireturn, 1) := by decide +kernel
theorem dX6_quietBand_0 : decode cX6_quietBand 0 = .ok (.aload_n 0, 1) := by decide +kernel
theorem dX6_quietBand_1 : decode cX6_quietBand 1 = .ok (.getfield 10, 3) := by decide +kernel
theorem dX6_quietBand_4 : decode cX6_quietBand 4 = .ok (.iload_n 1, 1) := by decide +kernel
theorem dX6_quietBand_5 : decode cX6_quietBand 5 = .ok (.invokevirtual 74, 3) := by decide +kernel
theorem dX6_quietBand_8 : decode cX6_quietBand 8 = .ok (.ifnull 14, 3) := by decide +kernel
theorem dX6_quietBand_11 : decode cX6_quietBand 11 = .ok (.iload_n 2, 1) := by decide +kernel
theorem dX6_quietBand_12 : decode cX6_quietBand 12 = .ok (.iconst 1, 1) := by decide +kernel
theorem dX6_quietBand_13 : decode cX6_quietBand 13 = .ok (.sipush 300, 3) := by decide +kernel
theorem dX6_quietBand_16 : decode cX6_quietBand 16 = .ok (.invokestatic 40, 3) := by decide +kernel
theorem dX6_quietBand_19 : decode cX6_quietBand 19 = .ok (.ifCond .ne 6, 3) := by decide +kernel
theorem dX6_quietBand_22 : decode cX6_quietBand 22 = .ok (.ldc 44, 2) := by decide +kernel
theorem dX6_quietBand_24 : decode cX6_quietBand 24 = .ok (.ireturn, 1) := by decide +kernel
theorem dX6_quietBand_25 : decode cX6_quietBand 25 = .ok (.bipush 100, 2) := by decide +kernel
theorem dX6_quietBand_27 : decode cX6_quietBand 27 = .ok (.istore_n 3, 1) := by decide +kernel
theorem dX6_quietBand_28 : decode cX6_quietBand 28 = .ok (.iload_n 3, 1) := by decide +kernel
theorem dX6_quietBand_29 : decode cX6_quietBand 29 = .ok (.sipush 5000, 3) := by decide +kernel
theorem dX6_quietBand_32 : decode cX6_quietBand 32 = .ok (.if_icmp .gt 25, 3) := by decide +kernel
theorem dX6_quietBand_35 : decode cX6_quietBand 35 = .ok (.aload_n 0, 1) := by decide +kernel
theorem dX6_quietBand_36 : decode cX6_quietBand 36 = .ok (.aload_n 0, 1) := by decide +kernel
theorem dX6_quietBand_37 : decode cX6_quietBand 37 = .ok (.iload_n 1, 1) := by decide +kernel
theorem dX6_quietBand_38 : decode cX6_quietBand 38 = .ok (.iload_n 3, 1) := by decide +kernel
theorem dX6_quietBand_39 : decode cX6_quietBand 39 = .ok (.invokevirtual 188, 3) := by decide +kernel
theorem dX6_quietBand_42 : decode cX6_quietBand 42 = .ok (.iload_n 2, 1) := by decide +kernel
theorem dX6_quietBand_43 : decode cX6_quietBand 43 = .ok (.invokevirtual 195, 3) := by decide +kernel
theorem dX6_quietBand_46 : decode cX6_quietBand 46 = .ok (.ifCond .eq 5, 3) := by decide +kernel
theorem dX6_quietBand_49 : decode cX6_quietBand 49 = .ok (.iload_n 3, 1) := by decide +kernel
theorem dX6_quietBand_50 : decode cX6_quietBand 50 = .ok (.ireturn, 1) := by decide +kernel
theorem dX6_quietBand_51 : decode cX6_quietBand 51 = .ok (.iinc 3 100, 3) := by decide +kernel
theorem dX6_quietBand_54 : decode cX6_quietBand 54 = .ok (.goto (-26), 3) := by decide +kernel
theorem dX6_quietBand_57 : decode cX6_quietBand 57 = .ok (.ldc 184, 2) := by decide +kernel
theorem dX6_quietBand_59 : decode cX6_quietBand 59 = .ok (.ireturn, 1) := by decide +kernel
theorem dX6_undo_0 : decode cX6_undo 0 = .ok (.aload_n 0, 1) := by decide +kernel
theorem dX6_undo_1 : decode cX6_undo 1 = .ok (.getfield 22, 3) := by decide +kernel
theorem dX6_undo_4 : decode cX6_undo 4 = .ok (.getfield 156, 3) := by decide +kernel
theorem dX6_undo_7 : decode cX6_undo 7 = .ok (.ifCond .ne 6, 3) := by decide +kernel
theorem dX6_undo_10 : decode cX6_undo 10 = .ok (.ldc 69, 2) := by decide +kernel
theorem dX6_undo_12 : decode cX6_undo 12 = .ok (.ireturn, 1) := by decide +kernel
theorem dX6_undo_13 : decode cX6_undo 13 = .ok (.aload_n 0, 1) := by decide +kernel
theorem dX6_undo_14 : decode cX6_undo 14 = .ok (.getfield 22, 3) := by decide +kernel
theorem dX6_undo_17 : decode cX6_undo 17 = .ok (.aload_n 0, 1) := by decide +kernel
theorem dX6_undo_18 : decode cX6_undo 18 = .ok (.getfield 10, 3) := by decide +kernel
theorem dX6_undo_21 : decode cX6_undo 21 = .ok (.invokevirtual 199, 3) := by decide +kernel
theorem dX6_undo_24 : decode cX6_undo 24 = .ok (.aload_n 0, 1) := by decide +kernel
theorem dX6_undo_25 : decode cX6_undo 25 = .ok (.getfield 22, 3) := by decide +kernel
theorem dX6_undo_28 : decode cX6_undo 28 = .ok (.getfield 156, 3) := by decide +kernel
theorem dX6_undo_31 : decode cX6_undo 31 = .ok (.ireturn, 1) := by decide +kernel
theorem dX6_forecastWithBand_0 : decode cX6_forecastWithBand 0 = .ok (.aload_n 0, 1) := by decide +kernel
theorem dX6_forecastWithBand_1 : decode cX6_forecastWithBand 1 = .ok (.getfield 16, 3) := by decide +kernel
theorem dX6_forecastWithBand_4 : decode cX6_forecastWithBand 4 = .ok (.aload_n 0, 1) := by decide +kernel
theorem dX6_forecastWithBand_5 : decode cX6_forecastWithBand 5 = .ok (.getfield 10, 3) := by decide +kernel
theorem dX6_forecastWithBand_8 : decode cX6_forecastWithBand 8 = .ok (.invokevirtual 175, 3) := by decide +kernel
theorem dX6_forecastWithBand_11 : decode cX6_forecastWithBand 11 = .ok (.aload_n 0, 1) := by decide +kernel
theorem dX6_forecastWithBand_12 : decode cX6_forecastWithBand 12 = .ok (.getfield 16, 3) := by decide +kernel
theorem dX6_forecastWithBand_15 : decode cX6_forecastWithBand 15 = .ok (.iload_n 1, 1) := by decide +kernel
theorem dX6_forecastWithBand_16 : decode cX6_forecastWithBand 16 = .ok (.invokevirtual 74, 3) := by decide +kernel
theorem dX6_forecastWithBand_19 : decode cX6_forecastWithBand 19 = .ok (.astore_n 3, 1) := by decide +kernel
theorem dX6_forecastWithBand_20 : decode cX6_forecastWithBand 20 = .ok (.aload_n 3, 1) := by decide +kernel
theorem dX6_forecastWithBand_21 : decode cX6_forecastWithBand 21 = .ok (.ifnull 8, 3) := by decide +kernel
theorem dX6_forecastWithBand_24 : decode cX6_forecastWithBand 24 = .ok (.aload_n 3, 1) := by decide +kernel
theorem dX6_forecastWithBand_25 : decode cX6_forecastWithBand 25 = .ok (.iload_n 2, 1) := by decide +kernel
theorem dX6_forecastWithBand_26 : decode cX6_forecastWithBand 26 = .ok (.putfield 84, 3) := by decide +kernel
theorem dX6_forecastWithBand_29 : decode cX6_forecastWithBand 29 = .ok (.aload_n 3, 1) := by decide +kernel
theorem dX6_forecastWithBand_30 : decode cX6_forecastWithBand 30 = .ok (.areturn, 1) := by decide +kernel
theorem dX6_isQuiet_0 : decode cX6_isQuiet 0 = .ok (.aload_n 1, 1) := by decide +kernel
theorem dX6_isQuiet_1 : decode cX6_isQuiet 1 = .ok (.ifnonnull 5, 3) := by decide +kernel
theorem dX6_isQuiet_4 : decode cX6_isQuiet 4 = .ok (.iconst 0, 1) := by decide +kernel
theorem dX6_isQuiet_5 : decode cX6_isQuiet 5 = .ok (.ireturn, 1) := by decide +kernel
theorem dX6_isQuiet_6 : decode cX6_isQuiet 6 = .ok (.aload_n 1, 1) := by decide +kernel
theorem dX6_isQuiet_7 : decode cX6_isQuiet 7 = .ok (.getfield 192, 3) := by decide +kernel
theorem dX6_isQuiet_10 : decode cX6_isQuiet 10 = .ok (.istore_n 3, 1) := by decide +kernel
theorem dX6_isQuiet_11 : decode cX6_isQuiet 11 = .ok (.iconst 0, 1) := by decide +kernel
theorem dX6_isQuiet_12 : decode cX6_isQuiet 12 = .ok (.istore 4, 2) := by decide +kernel
theorem dX6_isQuiet_14 : decode cX6_isQuiet 14 = .ok (.iload 4, 2) := by decide +kernel
theorem dX6_isQuiet_16 : decode cX6_isQuiet 16 = .ok (.iload_n 2, 1) := by decide +kernel
theorem dX6_isQuiet_17 : decode cX6_isQuiet 17 = .ok (.if_icmp .ge 27, 3) := by decide +kernel
theorem dX6_isQuiet_20 : decode cX6_isQuiet 20 = .ok (.aload_n 0, 1) := by decide +kernel
theorem dX6_isQuiet_21 : decode cX6_isQuiet 21 = .ok (.getfield 16, 3) := by decide +kernel
theorem dX6_isQuiet_24 : decode cX6_isQuiet 24 = .ok (.invokevirtual 181, 3) := by decide +kernel
theorem dX6_isQuiet_27 : decode cX6_isQuiet 27 = .ok (.pop, 1) := by decide +kernel
theorem dX6_isQuiet_28 : decode cX6_isQuiet 28 = .ok (.aload_n 1, 1) := by decide +kernel
theorem dX6_isQuiet_29 : decode cX6_isQuiet 29 = .ok (.getfield 192, 3) := by decide +kernel
theorem dX6_isQuiet_32 : decode cX6_isQuiet 32 = .ok (.iload_n 3, 1) := by decide +kernel
theorem dX6_isQuiet_33 : decode cX6_isQuiet 33 = .ok (.if_icmp .eq 5, 3) := by decide +kernel
theorem dX6_isQuiet_36 : decode cX6_isQuiet 36 = .ok (.iconst 0, 1) := by decide +kernel
theorem dX6_isQuiet_37 : decode cX6_isQuiet 37 = .ok (.ireturn, 1) := by decide +kernel
theorem dX6_isQuiet_38 : decode cX6_isQuiet 38 = .ok (.iinc 4 1, 3) := by decide +kernel
theorem dX6_isQuiet_41 : decode cX6_isQuiet 41 = .ok (.goto (-27), 3) := by decide +kernel
theorem dX6_isQuiet_44 : decode cX6_isQuiet 44 = .ok (.iconst 1, 1) := by decide +kernel
theorem dX6_isQuiet_45 : decode cX6_isQuiet 45 = .ok (.ireturn, 1) := by decide +kernel
theorem dX6_isNumberInRange_0 : decode cX6_isNumberInRange 0 = .ok (.iload_n 0, 1) := by decide +kernel
theorem dX6_isNumberInRange_1 : decode cX6_isNumberInRange 1 = .ok (.ifCond .lt 40, 3) := by decide +kernel
theorem dX6_isNumberInRange_4 : decode cX6_isNumberInRange 4 = .ok (.iload_n 0, 1) := by decide +kernel
theorem dX6_isNumberInRange_5 : decode cX6_isNumberInRange 5 = .ok (.getstatic 202, 3) := by decide +kernel
theorem dX6_isNumberInRange_8 : decode cX6_isNumberInRange 8 = .ok (.arraylength, 1) := by decide +kernel
theorem dX6_isNumberInRange_9 : decode cX6_isNumberInRange 9 = .ok (.if_icmp .ge 32, 3) := by decide +kernel
theorem dX6_isNumberInRange_12 : decode cX6_isNumberInRange 12 = .ok (.iload_n 0, 1) := by decide +kernel
theorem dX6_isNumberInRange_13 : decode cX6_isNumberInRange 13 = .ok (.getstatic 206, 3) := by decide +kernel
theorem dX6_isNumberInRange_16 : decode cX6_isNumberInRange 16 = .ok (.arraylength, 1) := by decide +kernel
theorem dX6_isNumberInRange_17 : decode cX6_isNumberInRange 17 = .ok (.if_icmp .ge 24, 3) := by decide +kernel
theorem dX6_isNumberInRange_20 : decode cX6_isNumberInRange 20 = .ok (.iload_n 1, 1) := by decide +kernel
theorem dX6_isNumberInRange_21 : decode cX6_isNumberInRange 21 = .ok (.getstatic 202, 3) := by decide +kernel
theorem dX6_isNumberInRange_24 : decode cX6_isNumberInRange 24 = .ok (.iload_n 0, 1) := by decide +kernel
theorem dX6_isNumberInRange_25 : decode cX6_isNumberInRange 25 = .ok (.iaload, 1) := by decide +kernel
theorem dX6_isNumberInRange_26 : decode cX6_isNumberInRange 26 = .ok (.getstatic 206, 3) := by decide +kernel
theorem dX6_isNumberInRange_29 : decode cX6_isNumberInRange 29 = .ok (.iload_n 0, 1) := by decide +kernel
theorem dX6_isNumberInRange_30 : decode cX6_isNumberInRange 30 = .ok (.iaload, 1) := by decide +kernel
theorem dX6_isNumberInRange_31 : decode cX6_isNumberInRange 31 = .ok (.invokestatic 40, 3) := by decide +kernel
theorem dX6_isNumberInRange_34 : decode cX6_isNumberInRange 34 = .ok (.ifCond .eq 7, 3) := by decide +kernel
theorem dX6_isNumberInRange_37 : decode cX6_isNumberInRange 37 = .ok (.iconst 1, 1) := by decide +kernel
theorem dX6_isNumberInRange_38 : decode cX6_isNumberInRange 38 = .ok (.goto 4, 3) := by decide +kernel
theorem dX6_isNumberInRange_41 : decode cX6_isNumberInRange 41 = .ok (.iconst 0, 1) := by decide +kernel
theorem dX6_isNumberInRange_42 : decode cX6_isNumberInRange 42 = .ok (.ireturn, 1) := by decide +kernel
theorem dX6_within_0 : decode cX6_within 0 = .ok (.iload_n 0, 1) := by decide +kernel
theorem dX6_within_1 : decode cX6_within 1 = .ok (.iload_n 1, 1) := by decide +kernel
theorem dX6_within_2 : decode cX6_within 2 = .ok (.if_icmp .lt 12, 3) := by decide +kernel
theorem dX6_within_5 : decode cX6_within 5 = .ok (.iload_n 0, 1) := by decide +kernel
theorem dX6_within_6 : decode cX6_within 6 = .ok (.iload_n 2, 1) := by decide +kernel
theorem dX6_within_7 : decode cX6_within 7 = .ok (.if_icmp .gt 7, 3) := by decide +kernel
theorem dX6_within_10 : decode cX6_within 10 = .ok (.iconst 1, 1) := by decide +kernel
theorem dX6_within_11 : decode cX6_within 11 = .ok (.goto 4, 3) := by decide +kernel
theorem dX6_within_14 : decode cX6_within 14 = .ok (.iconst 0, 1) := by decide +kernel
theorem dX6_within_15 : decode cX6_within 15 = .ok (.ireturn, 1) := by decide +kernel
theorem dX7_init_0 : decode cX7_init 0 = .ok (.aload_n 0, 1) := by decide +kernel
theorem dX7_init_1 : decode cX7_init 1 = .ok (.invokespecial 1, 3) := by decide +kernel
theorem dX7_init_4 : decode cX7_init 4 = .ok (.aload_n 0, 1) := by decide +kernel
theorem dX7_init_5 : decode cX7_init 5 = .ok (.sipush 196, 3) := by decide +kernel
theorem dX7_init_8 : decode cX7_init 8 = .ok (.newarray .int, 2) := by decide +kernel
theorem dX7_init_10 : decode cX7_init 10 = .ok (.putfield 7, 3) := by decide +kernel
theorem dX7_init_13 : decode cX7_init 13 = .ok (.aload_n 0, 1) := by decide +kernel
theorem dX7_init_14 : decode cX7_init 14 = .ok (.sipush 1176, 3) := by decide +kernel
theorem dX7_init_17 : decode cX7_init 17 = .ok (.newarray .int, 2) := by decide +kernel
theorem dX7_init_19 : decode cX7_init 19 = .ok (.putfield 13, 3) := by decide +kernel
theorem dX7_init_22 : decode cX7_init 22 = .ok (.aload_n 0, 1) := by decide +kernel
theorem dX7_init_23 : decode cX7_init 23 = .ok (.bipush 100, 2) := by decide +kernel
theorem dX7_init_25 : decode cX7_init 25 = .ok (.newarray .byte, 2) := by decide +kernel
theorem dX7_init_27 : decode cX7_init 27 = .ok (.putfield 16, 3) := by decide +kernel
theorem dX7_init_30 : decode cX7_init 30 = .ok (.aload_n 0, 1) := by decide +kernel
theorem dX7_init_31 : decode cX7_init 31 = .ok (.sipush 196, 3) := by decide +kernel
theorem dX7_init_34 : decode cX7_init 34 = .ok (.newarray .int, 2) := by decide +kernel
theorem dX7_init_36 : decode cX7_init 36 = .ok (.putfield 20, 3) := by decide +kernel
theorem dX7_init_39 : decode cX7_init 39 = .ok (.aload_n 0, 1) := by decide +kernel
theorem dX7_init_40 : decode cX7_init 40 = .ok (.bipush 24, 2) := by decide +kernel
theorem dX7_init_42 : decode cX7_init 42 = .ok (.newarray .int, 2) := by decide +kernel
theorem dX7_init_44 : decode cX7_init 44 = .ok (.putfield 23, 3) := by decide +kernel
theorem dX7_init_47 : decode cX7_init 47 = .ok (.aload_n 0, 1) := by decide +kernel
theorem dX7_init_48 : decode cX7_init 48 = .ok (.bipush 6, 2) := by decide +kernel
theorem dX7_init_50 : decode cX7_init 50 = .ok (.newarray .int, 2) := by decide +kernel
theorem dX7_init_52 : decode cX7_init 52 = .ok (.putfield 26, 3) := by decide +kernel
theorem dX7_init_55 : decode cX7_init 55 = .ok (.aload_n 0, 1) := by decide +kernel
theorem dX7_init_56 : decode cX7_init 56 = .ok (.getfield 7, 3) := by decide +kernel
theorem dX7_init_59 : decode cX7_init 59 = .ok (.iconst 0, 1) := by decide +kernel
theorem dX7_init_60 : decode cX7_init 60 = .ok (.bipush 25, 2) := by decide +kernel
theorem dX7_init_62 : decode cX7_init 62 = .ok (.iastore, 1) := by decide +kernel
theorem dX7_init_63 : decode cX7_init 63 = .ok (.aload_n 0, 1) := by decide +kernel
theorem dX7_init_64 : decode cX7_init 64 = .ok (.getfield 7, 3) := by decide +kernel
theorem dX7_init_67 : decode cX7_init 67 = .ok (.iconst 1, 1) := by decide +kernel
theorem dX7_init_68 : decode cX7_init 68 = .ok (.sipush 1000, 3) := by decide +kernel
theorem dX7_init_71 : decode cX7_init 71 = .ok (.iastore, 1) := by decide +kernel
theorem dX7_init_72 : decode cX7_init 72 = .ok (.aload_n 0, 1) := by decide +kernel
theorem dX7_init_73 : decode cX7_init 73 = .ok (.getfield 7, 3) := by decide +kernel
theorem dX7_init_76 : decode cX7_init 76 = .ok (.iconst 2, 1) := by decide +kernel
theorem dX7_init_77 : decode cX7_init 77 = .ok (.iconst 5, 1) := by decide +kernel
theorem dX7_init_78 : decode cX7_init 78 = .ok (.iastore, 1) := by decide +kernel
theorem dX7_init_79 : decode cX7_init 79 = .ok (.aload_n 0, 1) := by decide +kernel
theorem dX7_init_80 : decode cX7_init 80 = .ok (.getfield 7, 3) := by decide +kernel
theorem dX7_init_83 : decode cX7_init 83 = .ok (.iconst 3, 1) := by decide +kernel
theorem dX7_init_84 : decode cX7_init 84 = .ok (.bipush 10, 2) := by decide +kernel
theorem dX7_init_86 : decode cX7_init 86 = .ok (.iastore, 1) := by decide +kernel
theorem dX7_init_87 : decode cX7_init 87 = .ok (.aload_n 0, 1) := by decide +kernel
theorem dX7_init_88 : decode cX7_init 88 = .ok (.getfield 7, 3) := by decide +kernel
theorem dX7_init_91 : decode cX7_init 91 = .ok (.iconst 4, 1) := by decide +kernel
theorem dX7_init_92 : decode cX7_init 92 = .ok (.bipush 7, 2) := by decide +kernel
theorem dX7_init_94 : decode cX7_init 94 = .ok (.iastore, 1) := by decide +kernel
theorem dX7_init_95 : decode cX7_init 95 = .ok (.aload_n 0, 1) := by decide +kernel
theorem dX7_init_96 : decode cX7_init 96 = .ok (.getfield 7, 3) := by decide +kernel
theorem dX7_init_99 : decode cX7_init 99 = .ok (.iconst 5, 1) := by decide +kernel
theorem dX7_init_100 : decode cX7_init 100 = .ok (.ldc 29, 2) := by decide +kernel
theorem dX7_init_102 : decode cX7_init 102 = .ok (.iastore, 1) := by decide +kernel
theorem dX7_init_103 : decode cX7_init 103 = .ok (.aload_n 0, 1) := by decide +kernel
theorem dX7_init_104 : decode cX7_init 104 = .ok (.getfield 7, 3) := by decide +kernel
theorem dX7_init_107 : decode cX7_init 107 = .ok (.bipush 6, 2) := by decide +kernel
theorem dX7_init_109 : decode cX7_init 109 = .ok (.bipush 15, 2) := by decide +kernel
theorem dX7_init_111 : decode cX7_init 111 = .ok (.iastore, 1) := by decide +kernel
theorem dX7_init_112 : decode cX7_init 112 = .ok (.return_, 1) := by decide +kernel
theorem dX7_in_0 : decode cX7_in 0 = .ok (.iload_n 0, 1) := by decide +kernel
theorem dX7_in_1 : decode cX7_in 1 = .ok (.iload_n 1, 1) := by decide +kernel
theorem dX7_in_2 : decode cX7_in 2 = .ok (.if_icmp .lt 12, 3) := by decide +kernel
theorem dX7_in_5 : decode cX7_in 5 = .ok (.iload_n 0, 1) := by decide +kernel
theorem dX7_in_6 : decode cX7_in 6 = .ok (.iload_n 2, 1) := by decide +kernel
theorem dX7_in_7 : decode cX7_in 7 = .ok (.if_icmp .gt 7, 3) := by decide +kernel
theorem dX7_in_10 : decode cX7_in 10 = .ok (.iconst 1, 1) := by decide +kernel
theorem dX7_in_11 : decode cX7_in 11 = .ok (.goto 4, 3) := by decide +kernel
theorem dX7_in_14 : decode cX7_in 14 = .ok (.iconst 0, 1) := by decide +kernel
theorem dX7_in_15 : decode cX7_in 15 = .ok (.ireturn, 1) := by decide +kernel
theorem dX7_notes_0 : decode cX7_notes 0 = .ok (.aload_n 0, 1) := by decide +kernel
theorem dX7_notes_1 : decode cX7_notes 1 = .ok (.getfield 30, 3) := by decide +kernel
theorem dX7_notes_4 : decode cX7_notes 4 = .ok (.bipush 6, 2) := by decide +kernel
theorem dX7_notes_6 : decode cX7_notes 6 = .ok (.if_icmp .ne 44, 3) := by decide +kernel
theorem dX7_notes_9 : decode cX7_notes 9 = .ok (.iconst 0, 1) := by decide +kernel
theorem dX7_notes_10 : decode cX7_notes 10 = .ok (.istore_n 1, 1) := by decide +kernel
theorem dX7_notes_11 : decode cX7_notes 11 = .ok (.iload_n 1, 1) := by decide +kernel
theorem dX7_notes_12 : decode cX7_notes 12 = .ok (.sipush 980, 3) := by decide +kernel
theorem dX7_notes_15 : decode cX7_notes 15 = .ok (.if_icmp .ge 25, 3) := by decide +kernel
theorem dX7_notes_18 : decode cX7_notes 18 = .ok (.aload_n 0, 1) := by decide +kernel
theorem dX7_notes_19 : decode cX7_notes 19 = .ok (.getfield 13, 3) := by decide +kernel
theorem dX7_notes_22 : decode cX7_notes 22 = .ok (.iload_n 1, 1) := by decide +kernel
theorem dX7_notes_23 : decode cX7_notes 23 = .ok (.aload_n 0, 1) := by decide +kernel
theorem dX7_notes_24 : decode cX7_notes 24 = .ok (.getfield 13, 3) := by decide +kernel
theorem dX7_notes_27 : decode cX7_notes 27 = .ok (.iload_n 1, 1) := by decide +kernel
theorem dX7_notes_28 : decode cX7_notes 28 = .ok (.sipush 196, 3) := by decide +kernel
theorem dX7_notes_31 : decode cX7_notes 31 = .ok (.iadd, 1) := by decide +kernel
theorem dX7_notes_32 : decode cX7_notes 32 = .ok (.iaload, 1) := by decide +kernel
theorem dX7_notes_33 : decode cX7_notes 33 = .ok (.iastore, 1) := by decide +kernel
theorem dX7_notes_34 : decode cX7_notes 34 = .ok (.iinc 1 1, 3) := by decide +kernel
theorem dX7_notes_37 : decode cX7_notes 37 = .ok (.goto (-26), 3) := by decide +kernel
theorem dX7_notes_40 : decode cX7_notes 40 = .ok (.aload_n 0, 1) := by decide +kernel
theorem dX7_notes_41 : decode cX7_notes 41 = .ok (.dup, 1) := by decide +kernel
theorem dX7_notes_42 : decode cX7_notes 42 = .ok (.getfield 30, 3) := by decide +kernel
theorem dX7_notes_45 : decode cX7_notes 45 = .ok (.iconst 1, 1) := by decide +kernel
theorem dX7_notes_46 : decode cX7_notes 46 = .ok (.isub, 1) := by decide +kernel
theorem dX7_notes_47 : decode cX7_notes 47 = .ok (.putfield 30, 3) := by decide +kernel
theorem dX7_notes_50 : decode cX7_notes 50 = .ok (.iconst 0, 1) := by decide +kernel
theorem dX7_notes_51 : decode cX7_notes 51 = .ok (.istore_n 1, 1) := by decide +kernel
theorem dX7_notes_52 : decode cX7_notes 52 = .ok (.iload_n 1, 1) := by decide +kernel
theorem dX7_notes_53 : decode cX7_notes 53 = .ok (.sipush 196, 3) := by decide +kernel
theorem dX7_notes_56 : decode cX7_notes 56 = .ok (.if_icmp .ge 30, 3) := by decide +kernel
theorem dX7_notes_59 : decode cX7_notes 59 = .ok (.aload_n 0, 1) := by decide +kernel
theorem dX7_notes_60 : decode cX7_notes 60 = .ok (.getfield 13, 3) := by decide +kernel
theorem dX7_notes_63 : decode cX7_notes 63 = .ok (.sipush 196, 3) := by decide +kernel
theorem dX7_notes_66 : decode cX7_notes 66 = .ok (.aload_n 0, 1) := by decide +kernel
theorem dX7_notes_67 : decode cX7_notes 67 = .ok (.getfield 30, 3) := by decide +kernel
theorem dX7_notes_70 : decode cX7_notes 70 = .ok (.imul, 1) := by decide +kernel
theorem dX7_notes_71 : decode cX7_notes 71 = .ok (.iload_n 1, 1) := by decide +kernel
theorem dX7_notes_72 : decode cX7_notes 72 = .ok (.iadd, 1) := by decide +kernel
theorem dX7_notes_73 : decode cX7_notes 73 = .ok (.aload_n 0, 1) := by decide +kernel
theorem dX7_notes_74 : decode cX7_notes 74 = .ok (.getfield 7, 3) := by decide +kernel
theorem dX7_notes_77 : decode cX7_notes 77 = .ok (.iload_n 1, 1) := by decide +kernel
theorem dX7_notes_78 : decode cX7_notes 78 = .ok (.iaload, 1) := by decide +kernel
theorem dX7_notes_79 : decode cX7_notes 79 = .ok (.iastore, 1) := by decide +kernel
theorem dX7_notes_80 : decode cX7_notes 80 = .ok (.iinc 1 1, 3) := by decide +kernel
theorem dX7_notes_83 : decode cX7_notes 83 = .ok (.goto (-31), 3) := by decide +kernel
theorem dX7_notes_86 : decode cX7_notes 86 = .ok (.aload_n 0, 1) := by decide +kernel
theorem dX7_notes_87 : decode cX7_notes 87 = .ok (.dup, 1) := by decide +kernel
theorem dX7_notes_88 : decode cX7_notes 88 = .ok (.getfield 30, 3) := by decide +kernel
end
section
theorem dX7_notes_91 : decode cX7_notes 91 = .ok (.iconst 1, 1) := by decide +kernel
theorem dX7_notes_92 : decode cX7_notes 92 = .ok (.iadd, 1) := by decide +kernel
theorem dX7_notes_93 : decode cX7_notes 93 = .ok (.putfield 30, 3) := by decide +kernel
theorem dX7_notes_96 : decode cX7_notes 96 = .ok (.return_, 1) := by decide +kernel
theorem dX7_undo_0 : decode cX7_undo 0 = .ok (.aload_n 0, 1) := by decide +kernel
theorem dX7_undo_1 : decode cX7_undo 1 = .ok (.getfield 30, 3) := by decide +kernel
theorem dX7_undo_4 : decode cX7_undo 4 = .ok (.ifCond .ne 6, 3) := by decide +kernel
theorem dX7_undo_7 : decode cX7_undo 7 = .ok (.ldc 34, 2) := by decide +kernel
theorem dX7_undo_9 : decode cX7_undo 9 = .ok (.ireturn, 1) := by decide +kernel
theorem dX7_undo_10 : decode cX7_undo 10 = .ok (.aload_n 0, 1) := by decide +kernel
theorem dX7_undo_11 : decode cX7_undo 11 = .ok (.dup, 1) := by decide +kernel
theorem dX7_undo_12 : decode cX7_undo 12 = .ok (.getfield 30, 3) := by decide +kernel
theorem dX7_undo_15 : decode cX7_undo 15 = .ok (.iconst 1, 1) := by decide +kernel
theorem dX7_undo_16 : decode cX7_undo 16 = .ok (.isub, 1) := by decide +kernel
theorem dX7_undo_17 : decode cX7_undo 17 = .ok (.putfield 30, 3) := by decide +kernel
theorem dX7_undo_20 : decode cX7_undo 20 = .ok (.iconst 0, 1) := by decide +kernel
theorem dX7_undo_21 : decode cX7_undo 21 = .ok (.istore_n 1, 1) := by decide +kernel
theorem dX7_undo_22 : decode cX7_undo 22 = .ok (.iload_n 1, 1) := by decide +kernel
theorem dX7_undo_23 : decode cX7_undo 23 = .ok (.sipush 196, 3) := by decide +kernel
theorem dX7_undo_26 : decode cX7_undo 26 = .ok (.if_icmp .ge 30, 3) := by decide +kernel
theorem dX7_undo_29 : decode cX7_undo 29 = .ok (.aload_n 0, 1) := by decide +kernel
theorem dX7_undo_30 : decode cX7_undo 30 = .ok (.getfield 7, 3) := by decide +kernel
theorem dX7_undo_33 : decode cX7_undo 33 = .ok (.iload_n 1, 1) := by decide +kernel
theorem dX7_undo_34 : decode cX7_undo 34 = .ok (.aload_n 0, 1) := by decide +kernel
theorem dX7_undo_35 : decode cX7_undo 35 = .ok (.getfield 13, 3) := by decide +kernel
theorem dX7_undo_38 : decode cX7_undo 38 = .ok (.sipush 196, 3) := by decide +kernel
theorem dX7_undo_41 : decode cX7_undo 41 = .ok (.aload_n 0, 1) := by decide +kernel
theorem dX7_undo_42 : decode cX7_undo 42 = .ok (.getfield 30, 3) := by decide +kernel
theorem dX7_undo_45 : decode cX7_undo 45 = .ok (.imul, 1) := by decide +kernel
theorem dX7_undo_46 : decode cX7_undo 46 = .ok (.iload_n 1, 1) := by decide +kernel
theorem dX7_undo_47 : decode cX7_undo 47 = .ok (.iadd, 1) := by decide +kernel
theorem dX7_undo_48 : decode cX7_undo 48 = .ok (.iaload, 1) := by decide +kernel
theorem dX7_undo_49 : decode cX7_undo 49 = .ok (.iastore, 1) := by decide +kernel
theorem dX7_undo_50 : decode cX7_undo 50 = .ok (.iinc 1 1, 3) := by decide +kernel
theorem dX7_undo_53 : decode cX7_undo 53 = .ok (.goto (-31), 3) := by decide +kernel
theorem dX7_undo_56 : decode cX7_undo 56 = .ok (.aload_n 0, 1) := by decide +kernel
theorem dX7_undo_57 : decode cX7_undo 57 = .ok (.getfield 30, 3) := by decide +kernel
theorem dX7_undo_60 : decode cX7_undo 60 = .ok (.ireturn, 1) := by decide +kernel
theorem dX7_isRoom_0 : decode cX7_isRoom 0 = .ok (.iload_n 1, 1) := by decide +kernel
theorem dX7_isRoom_1 : decode cX7_isRoom 1 = .ok (.iconst 0, 1) := by decide +kernel
theorem dX7_isRoom_2 : decode cX7_isRoom 2 = .ok (.aload_n 0, 1) := by decide +kernel
theorem dX7_isRoom_3 : decode cX7_isRoom 3 = .ok (.getfield 7, 3) := by decide +kernel
theorem dX7_isRoom_6 : decode cX7_isRoom 6 = .ok (.bipush 7, 2) := by decide +kernel
theorem dX7_isRoom_8 : decode cX7_isRoom 8 = .ok (.iaload, 1) := by decide +kernel
theorem dX7_isRoom_9 : decode cX7_isRoom 9 = .ok (.iconst 1, 1) := by decide +kernel
theorem dX7_isRoom_10 : decode cX7_isRoom 10 = .ok (.isub, 1) := by decide +kernel
theorem dX7_isRoom_11 : decode cX7_isRoom 11 = .ok (.invokestatic 35, 3) := by decide +kernel
theorem dX7_isRoom_14 : decode cX7_isRoom 14 = .ok (.ireturn, 1) := by decide +kernel
theorem dX7_of_0 : decode cX7_of 0 = .ok (.aload_n 0, 1) := by decide +kernel
theorem dX7_of_1 : decode cX7_of 1 = .ok (.getfield 7, 3) := by decide +kernel
theorem dX7_of_4 : decode cX7_of 4 = .ok (.bipush 70, 2) := by decide +kernel
theorem dX7_of_6 : decode cX7_of 6 = .ok (.bipush 21, 2) := by decide +kernel
theorem dX7_of_8 : decode cX7_of 8 = .ok (.iload_n 1, 1) := by decide +kernel
theorem dX7_of_9 : decode cX7_of 9 = .ok (.imul, 1) := by decide +kernel
theorem dX7_of_10 : decode cX7_of 10 = .ok (.iadd, 1) := by decide +kernel
theorem dX7_of_11 : decode cX7_of 11 = .ok (.iload_n 2, 1) := by decide +kernel
theorem dX7_of_12 : decode cX7_of 12 = .ok (.iadd, 1) := by decide +kernel
theorem dX7_of_13 : decode cX7_of 13 = .ok (.iaload, 1) := by decide +kernel
theorem dX7_of_14 : decode cX7_of 14 = .ok (.ireturn, 1) := by decide +kernel
theorem dX7_puts_0 : decode cX7_puts 0 = .ok (.aload_n 0, 1) := by decide +kernel
theorem dX7_puts_1 : decode cX7_puts 1 = .ok (.getfield 7, 3) := by decide +kernel
theorem dX7_puts_4 : decode cX7_puts 4 = .ok (.bipush 70, 2) := by decide +kernel
theorem dX7_puts_6 : decode cX7_puts 6 = .ok (.bipush 21, 2) := by decide +kernel
theorem dX7_puts_8 : decode cX7_puts 8 = .ok (.iload_n 1, 1) := by decide +kernel
theorem dX7_puts_9 : decode cX7_puts 9 = .ok (.imul, 1) := by decide +kernel
theorem dX7_puts_10 : decode cX7_puts 10 = .ok (.iadd, 1) := by decide +kernel
theorem dX7_puts_11 : decode cX7_puts 11 = .ok (.iload_n 2, 1) := by decide +kernel
theorem dX7_puts_12 : decode cX7_puts 12 = .ok (.iadd, 1) := by decide +kernel
theorem dX7_puts_13 : decode cX7_puts 13 = .ok (.iload_n 3, 1) := by decide +kernel
theorem dX7_puts_14 : decode cX7_puts 14 = .ok (.iastore, 1) := by decide +kernel
theorem dX7_puts_15 : decode cX7_puts 15 = .ok (.return_, 1) := by decide +kernel
theorem dX7_grows_0 : decode cX7_grows 0 = .ok (.aload_n 0, 1) := by decide +kernel
theorem dX7_grows_1 : decode cX7_grows 1 = .ok (.getfield 7, 3) := by decide +kernel
theorem dX7_grows_4 : decode cX7_grows 4 = .ok (.bipush 70, 2) := by decide +kernel
theorem dX7_grows_6 : decode cX7_grows 6 = .ok (.bipush 21, 2) := by decide +kernel
theorem dX7_grows_8 : decode cX7_grows 8 = .ok (.iload_n 1, 1) := by decide +kernel
theorem dX7_grows_9 : decode cX7_grows 9 = .ok (.imul, 1) := by decide +kernel
theorem dX7_grows_10 : decode cX7_grows 10 = .ok (.iadd, 1) := by decide +kernel
theorem dX7_grows_11 : decode cX7_grows 11 = .ok (.iload_n 2, 1) := by decide +kernel
theorem dX7_grows_12 : decode cX7_grows 12 = .ok (.iadd, 1) := by decide +kernel
theorem dX7_grows_13 : decode cX7_grows 13 = .ok (.dup2, 1) := by decide +kernel
theorem dX7_grows_14 : decode cX7_grows 14 = .ok (.iaload, 1) := by decide +kernel
theorem dX7_grows_15 : decode cX7_grows 15 = .ok (.iload_n 3, 1) := by decide +kernel
theorem dX7_grows_16 : decode cX7_grows 16 = .ok (.iadd, 1) := by decide +kernel
theorem dX7_grows_17 : decode cX7_grows 17 = .ok (.iastore, 1) := by decide +kernel
theorem dX7_grows_18 : decode cX7_grows 18 = .ok (.return_, 1) := by decide +kernel
theorem dX7_degrees_0 : decode cX7_degrees 0 = .ok (.sipush 1000, 3) := by decide +kernel
theorem dX7_degrees_3 : decode cX7_degrees 3 = .ok (.iload_n 0, 1) := by decide +kernel
theorem dX7_degrees_4 : decode cX7_degrees 4 = .ok (.imul, 1) := by decide +kernel
theorem dX7_degrees_5 : decode cX7_degrees 5 = .ok (.istore_n 2, 1) := by decide +kernel
theorem dX7_degrees_6 : decode cX7_degrees 6 = .ok (.iload_n 2, 1) := by decide +kernel
theorem dX7_degrees_7 : decode cX7_degrees 7 = .ok (.ifCond .ge 17, 3) := by decide +kernel
theorem dX7_degrees_10 : decode cX7_degrees 10 = .ok (.iload_n 2, 1) := by decide +kernel
theorem dX7_degrees_11 : decode cX7_degrees 11 = .ok (.iload_n 1, 1) := by decide +kernel
theorem dX7_degrees_12 : decode cX7_degrees 12 = .ok (.irem, 1) := by decide +kernel
theorem dX7_degrees_13 : decode cX7_degrees 13 = .ok (.ifCond .eq 11, 3) := by decide +kernel
theorem dX7_degrees_16 : decode cX7_degrees 16 = .ok (.iload_n 2, 1) := by decide +kernel
theorem dX7_degrees_17 : decode cX7_degrees 17 = .ok (.iload_n 1, 1) := by decide +kernel
theorem dX7_degrees_18 : decode cX7_degrees 18 = .ok (.idiv, 1) := by decide +kernel
theorem dX7_degrees_19 : decode cX7_degrees 19 = .ok (.iconst 1, 1) := by decide +kernel
theorem dX7_degrees_20 : decode cX7_degrees 20 = .ok (.isub, 1) := by decide +kernel
theorem dX7_degrees_21 : decode cX7_degrees 21 = .ok (.goto 6, 3) := by decide +kernel
theorem dX7_degrees_24 : decode cX7_degrees 24 = .ok (.iload_n 2, 1) := by decide +kernel
theorem dX7_degrees_25 : decode cX7_degrees 25 = .ok (.iload_n 1, 1) := by decide +kernel
theorem dX7_degrees_26 : decode cX7_degrees 26 = .ok (.idiv, 1) := by decide +kernel
theorem dX7_degrees_27 : decode cX7_degrees 27 = .ok (.ireturn, 1) := by decide +kernel
theorem dX7_temperature_0 : decode cX7_temperature 0 = .ok (.aload_n 0, 1) := by decide +kernel
theorem dX7_temperature_1 : decode cX7_temperature 1 = .ok (.iload_n 1, 1) := by decide +kernel
theorem dX7_temperature_2 : decode cX7_temperature 2 = .ok (.iconst 1, 1) := by decide +kernel
theorem dX7_temperature_3 : decode cX7_temperature 3 = .ok (.invokevirtual 39, 3) := by decide +kernel
theorem dX7_temperature_6 : decode cX7_temperature 6 = .ok (.aload_n 0, 1) := by decide +kernel
theorem dX7_temperature_7 : decode cX7_temperature 7 = .ok (.iload_n 1, 1) := by decide +kernel
theorem dX7_temperature_8 : decode cX7_temperature 8 = .ok (.iconst 0, 1) := by decide +kernel
theorem dX7_temperature_9 : decode cX7_temperature 9 = .ok (.invokevirtual 39, 3) := by decide +kernel
theorem dX7_temperature_12 : decode cX7_temperature 12 = .ok (.invokestatic 43, 3) := by decide +kernel
theorem dX7_temperature_15 : decode cX7_temperature 15 = .ok (.ireturn, 1) := by decide +kernel
theorem dX7_addRoom_0 : decode cX7_addRoom 0 = .ok (.iload_n 1, 1) := by decide +kernel
theorem dX7_addRoom_1 : decode cX7_addRoom 1 = .ok (.bipush 10, 2) := by decide +kernel
theorem dX7_addRoom_3 : decode cX7_addRoom 3 = .ok (.sipush 500, 3) := by decide +kernel
theorem dX7_addRoom_6 : decode cX7_addRoom 6 = .ok (.invokestatic 35, 3) := by decide +kernel
theorem dX7_addRoom_9 : decode cX7_addRoom 9 = .ok (.ifCond .eq 47, 3) := by decide +kernel
theorem dX7_addRoom_12 : decode cX7_addRoom 12 = .ok (.iload_n 2, 1) := by decide +kernel
theorem dX7_addRoom_13 : decode cX7_addRoom 13 = .ok (.iconst 1, 1) := by decide +kernel
theorem dX7_addRoom_14 : decode cX7_addRoom 14 = .ok (.sipush 200, 3) := by decide +kernel
theorem dX7_addRoom_17 : decode cX7_addRoom 17 = .ok (.invokestatic 35, 3) := by decide +kernel
theorem dX7_addRoom_20 : decode cX7_addRoom 20 = .ok (.ifCond .eq 36, 3) := by decide +kernel
theorem dX7_addRoom_23 : decode cX7_addRoom 23 = .ok (.iload_n 3, 1) := by decide +kernel
theorem dX7_addRoom_24 : decode cX7_addRoom 24 = .ok (.iconst 0, 1) := by decide +kernel
theorem dX7_addRoom_25 : decode cX7_addRoom 25 = .ok (.bipush 50, 2) := by decide +kernel
theorem dX7_addRoom_27 : decode cX7_addRoom 27 = .ok (.invokestatic 35, 3) := by decide +kernel
theorem dX7_addRoom_30 : decode cX7_addRoom 30 = .ok (.ifCond .eq 26, 3) := by decide +kernel
theorem dX7_addRoom_33 : decode cX7_addRoom 33 = .ok (.iconst 2, 1) := by decide +kernel
theorem dX7_addRoom_34 : decode cX7_addRoom 34 = .ok (.iload_n 3, 1) := by decide +kernel
theorem dX7_addRoom_35 : decode cX7_addRoom 35 = .ok (.imul, 1) := by decide +kernel
theorem dX7_addRoom_36 : decode cX7_addRoom 36 = .ok (.iload_n 1, 1) := by decide +kernel
theorem dX7_addRoom_37 : decode cX7_addRoom 37 = .ok (.if_icmp .gt 19, 3) := by decide +kernel
theorem dX7_addRoom_40 : decode cX7_addRoom 40 = .ok (.iload 4, 2) := by decide +kernel
theorem dX7_addRoom_42 : decode cX7_addRoom 42 = .ok (.bipush (-40), 2) := by decide +kernel
theorem dX7_addRoom_44 : decode cX7_addRoom 44 = .ok (.bipush 40, 2) := by decide +kernel
theorem dX7_addRoom_46 : decode cX7_addRoom 46 = .ok (.invokestatic 35, 3) := by decide +kernel
theorem dX7_addRoom_49 : decode cX7_addRoom 49 = .ok (.ifCond .eq 7, 3) := by decide +kernel
theorem dX7_addRoom_52 : decode cX7_addRoom 52 = .ok (.iconst 1, 1) := by decide +kernel
theorem dX7_addRoom_53 : decode cX7_addRoom 53 = .ok (.goto 4, 3) := by decide +kernel
theorem dX7_addRoom_56 : decode cX7_addRoom 56 = .ok (.iconst 0, 1) := by decide +kernel
theorem dX7_addRoom_57 : decode cX7_addRoom 57 = .ok (.istore 5, 2) := by decide +kernel
theorem dX7_addRoom_59 : decode cX7_addRoom 59 = .ok (.iload 5, 2) := by decide +kernel
theorem dX7_addRoom_61 : decode cX7_addRoom 61 = .ok (.ifCond .ne 6, 3) := by decide +kernel
theorem dX7_addRoom_64 : decode cX7_addRoom 64 = .ok (.ldc 46, 2) := by decide +kernel
theorem dX7_addRoom_66 : decode cX7_addRoom 66 = .ok (.ireturn, 1) := by decide +kernel
theorem dX7_addRoom_67 : decode cX7_addRoom 67 = .ok (.aload_n 0, 1) := by decide +kernel
theorem dX7_addRoom_68 : decode cX7_addRoom 68 = .ok (.getfield 7, 3) := by decide +kernel
theorem dX7_addRoom_71 : decode cX7_addRoom 71 = .ok (.bipush 7, 2) := by decide +kernel
theorem dX7_addRoom_73 : decode cX7_addRoom 73 = .ok (.iaload, 1) := by decide +kernel
theorem dX7_addRoom_74 : decode cX7_addRoom 74 = .ok (.bipush 6, 2) := by decide +kernel
theorem dX7_addRoom_76 : decode cX7_addRoom 76 = .ok (.if_icmp .ne 6, 3) := by decide +kernel
theorem dX7_addRoom_79 : decode cX7_addRoom 79 = .ok (.ldc 47, 2) := by decide +kernel
theorem dX7_addRoom_81 : decode cX7_addRoom 81 = .ok (.ireturn, 1) := by decide +kernel
theorem dX7_addRoom_82 : decode cX7_addRoom 82 = .ok (.aload_n 0, 1) := by decide +kernel
theorem dX7_addRoom_83 : decode cX7_addRoom 83 = .ok (.invokevirtual 48, 3) := by decide +kernel
theorem dX7_addRoom_86 : decode cX7_addRoom 86 = .ok (.aload_n 0, 1) := by decide +kernel
theorem dX7_addRoom_87 : decode cX7_addRoom 87 = .ok (.getfield 7, 3) := by decide +kernel
theorem dX7_addRoom_90 : decode cX7_addRoom 90 = .ok (.bipush 7, 2) := by decide +kernel
theorem dX7_addRoom_92 : decode cX7_addRoom 92 = .ok (.iaload, 1) := by decide +kernel
theorem dX7_addRoom_93 : decode cX7_addRoom 93 = .ok (.istore 6, 2) := by decide +kernel
theorem dX7_addRoom_95 : decode cX7_addRoom 95 = .ok (.aload_n 0, 1) := by decide +kernel
theorem dX7_addRoom_96 : decode cX7_addRoom 96 = .ok (.getfield 7, 3) := by decide +kernel
theorem dX7_addRoom_99 : decode cX7_addRoom 99 = .ok (.bipush 7, 2) := by decide +kernel
theorem dX7_addRoom_101 : decode cX7_addRoom 101 = .ok (.dup2, 1) := by decide +kernel
theorem dX7_addRoom_102 : decode cX7_addRoom 102 = .ok (.iaload, 1) := by decide +kernel
theorem dX7_addRoom_103 : decode cX7_addRoom 103 = .ok (.iconst 1, 1) := by decide +kernel
theorem dX7_addRoom_104 : decode cX7_addRoom 104 = .ok (.iadd, 1) := by decide +kernel
theorem dX7_addRoom_105 : decode cX7_addRoom 105 = .ok (.iastore, 1) := by decide +kernel
theorem dX7_addRoom_106 : decode cX7_addRoom 106 = .ok (.aload_n 0, 1) := by decide +kernel
theorem dX7_addRoom_107 : decode cX7_addRoom 107 = .ok (.iload 6, 2) := by decide +kernel
theorem dX7_addRoom_109 : decode cX7_addRoom 109 = .ok (.iconst 0, 1) := by decide +kernel
theorem dX7_addRoom_110 : decode cX7_addRoom 110 = .ok (.iload_n 1, 1) := by decide +kernel
theorem dX7_addRoom_111 : decode cX7_addRoom 111 = .ok (.invokevirtual 51, 3) := by decide +kernel
theorem dX7_addRoom_114 : decode cX7_addRoom 114 = .ok (.aload_n 0, 1) := by decide +kernel
theorem dX7_addRoom_115 : decode cX7_addRoom 115 = .ok (.iload 6, 2) := by decide +kernel
theorem dX7_addRoom_117 : decode cX7_addRoom 117 = .ok (.iconst 1, 1) := by decide +kernel
theorem dX7_addRoom_118 : decode cX7_addRoom 118 = .ok (.iload_n 1, 1) := by decide +kernel
theorem dX7_addRoom_119 : decode cX7_addRoom 119 = .ok (.iload 4, 2) := by decide +kernel
theorem dX7_addRoom_121 : decode cX7_addRoom 121 = .ok (.imul, 1) := by decide +kernel
theorem dX7_addRoom_122 : decode cX7_addRoom 122 = .ok (.invokevirtual 51, 3) := by decide +kernel
theorem dX7_addRoom_125 : decode cX7_addRoom 125 = .ok (.aload_n 0, 1) := by decide +kernel
theorem dX7_addRoom_126 : decode cX7_addRoom 126 = .ok (.iload 6, 2) := by decide +kernel
theorem dX7_addRoom_128 : decode cX7_addRoom 128 = .ok (.iconst 2, 1) := by decide +kernel
theorem dX7_addRoom_129 : decode cX7_addRoom 129 = .ok (.iload_n 2, 1) := by decide +kernel
theorem dX7_addRoom_130 : decode cX7_addRoom 130 = .ok (.invokevirtual 51, 3) := by decide +kernel
theorem dX7_addRoom_133 : decode cX7_addRoom 133 = .ok (.aload_n 0, 1) := by decide +kernel
theorem dX7_addRoom_134 : decode cX7_addRoom 134 = .ok (.iload 6, 2) := by decide +kernel
theorem dX7_addRoom_136 : decode cX7_addRoom 136 = .ok (.iconst 3, 1) := by decide +kernel
theorem dX7_addRoom_137 : decode cX7_addRoom 137 = .ok (.iload_n 3, 1) := by decide +kernel
theorem dX7_addRoom_138 : decode cX7_addRoom 138 = .ok (.invokevirtual 51, 3) := by decide +kernel
theorem dX7_addRoom_141 : decode cX7_addRoom 141 = .ok (.aload_n 0, 1) := by decide +kernel
theorem dX7_addRoom_142 : decode cX7_addRoom 142 = .ok (.iload 6, 2) := by decide +kernel
theorem dX7_addRoom_144 : decode cX7_addRoom 144 = .ok (.iconst 4, 1) := by decide +kernel
theorem dX7_addRoom_145 : decode cX7_addRoom 145 = .ok (.sipush 20000, 3) := by decide +kernel
theorem dX7_addRoom_148 : decode cX7_addRoom 148 = .ok (.invokevirtual 51, 3) := by decide +kernel
theorem dX7_addRoom_151 : decode cX7_addRoom 151 = .ok (.aload_n 0, 1) := by decide +kernel
theorem dX7_addRoom_152 : decode cX7_addRoom 152 = .ok (.iload 6, 2) := by decide +kernel
theorem dX7_addRoom_154 : decode cX7_addRoom 154 = .ok (.iconst 5, 1) := by decide +kernel
theorem dX7_addRoom_155 : decode cX7_addRoom 155 = .ok (.sipush 1000, 3) := by decide +kernel
theorem dX7_addRoom_158 : decode cX7_addRoom 158 = .ok (.invokevirtual 51, 3) := by decide +kernel
theorem dX7_addRoom_161 : decode cX7_addRoom 161 = .ok (.aload_n 0, 1) := by decide +kernel
theorem dX7_addRoom_162 : decode cX7_addRoom 162 = .ok (.iload 6, 2) := by decide +kernel
theorem dX7_addRoom_164 : decode cX7_addRoom 164 = .ok (.bipush 6, 2) := by decide +kernel
theorem dX7_addRoom_166 : decode cX7_addRoom 166 = .ok (.sipush 1000, 3) := by decide +kernel
theorem dX7_addRoom_169 : decode cX7_addRoom 169 = .ok (.iload 4, 2) := by decide +kernel
theorem dX7_addRoom_171 : decode cX7_addRoom 171 = .ok (.imul, 1) := by decide +kernel
theorem dX7_addRoom_172 : decode cX7_addRoom 172 = .ok (.invokevirtual 51, 3) := by decide +kernel
theorem dX7_addRoom_175 : decode cX7_addRoom 175 = .ok (.aload_n 0, 1) := by decide +kernel
theorem dX7_addRoom_176 : decode cX7_addRoom 176 = .ok (.iload 6, 2) := by decide +kernel
theorem dX7_addRoom_178 : decode cX7_addRoom 178 = .ok (.bipush 15, 2) := by decide +kernel
theorem dX7_addRoom_180 : decode cX7_addRoom 180 = .ok (.ldc 55, 2) := by decide +kernel
theorem dX7_addRoom_182 : decode cX7_addRoom 182 = .ok (.invokevirtual 51, 3) := by decide +kernel
theorem dX7_addRoom_185 : decode cX7_addRoom 185 = .ok (.aload_n 0, 1) := by decide +kernel
theorem dX7_addRoom_186 : decode cX7_addRoom 186 = .ok (.iload 6, 2) := by decide +kernel
theorem dX7_addRoom_188 : decode cX7_addRoom 188 = .ok (.bipush 16, 2) := by decide +kernel
theorem dX7_addRoom_190 : decode cX7_addRoom 190 = .ok (.iload_n 1, 1) := by decide +kernel
theorem dX7_addRoom_191 : decode cX7_addRoom 191 = .ok (.iload 4, 2) := by decide +kernel
theorem dX7_addRoom_193 : decode cX7_addRoom 193 = .ok (.imul, 1) := by decide +kernel
theorem dX7_addRoom_194 : decode cX7_addRoom 194 = .ok (.invokevirtual 51, 3) := by decide +kernel
theorem dX7_addRoom_197 : decode cX7_addRoom 197 = .ok (.iload 6, 2) := by decide +kernel
theorem dX7_addRoom_199 : decode cX7_addRoom 199 = .ok (.ireturn, 1) := by decide +kernel
theorem dX7_areRooms_0 : decode cX7_areRooms 0 = .ok (.aload_n 0, 1) := by decide +kernel
theorem dX7_areRooms_1 : decode cX7_areRooms 1 = .ok (.iload_n 1, 1) := by decide +kernel
theorem dX7_areRooms_2 : decode cX7_areRooms 2 = .ok (.invokevirtual 56, 3) := by decide +kernel
theorem dX7_areRooms_5 : decode cX7_areRooms 5 = .ok (.ifCond .eq 20, 3) := by decide +kernel
theorem dX7_areRooms_8 : decode cX7_areRooms 8 = .ok (.aload_n 0, 1) := by decide +kernel
theorem dX7_areRooms_9 : decode cX7_areRooms 9 = .ok (.iload_n 2, 1) := by decide +kernel
theorem dX7_areRooms_10 : decode cX7_areRooms 10 = .ok (.invokevirtual 56, 3) := by decide +kernel
theorem dX7_areRooms_13 : decode cX7_areRooms 13 = .ok (.ifCond .eq 12, 3) := by decide +kernel
theorem dX7_areRooms_16 : decode cX7_areRooms 16 = .ok (.iload_n 1, 1) := by decide +kernel
theorem dX7_areRooms_17 : decode cX7_areRooms 17 = .ok (.iload_n 2, 1) := by decide +kernel
theorem dX7_areRooms_18 : decode cX7_areRooms 18 = .ok (.if_icmp .eq 7, 3) := by decide +kernel
theorem dX7_areRooms_21 : decode cX7_areRooms 21 = .ok (.iconst 1, 1) := by decide +kernel
theorem dX7_areRooms_22 : decode cX7_areRooms 22 = .ok (.goto 4, 3) := by decide +kernel
theorem dX7_areRooms_25 : decode cX7_areRooms 25 = .ok (.iconst 0, 1) := by decide +kernel
theorem dX7_areRooms_26 : decode cX7_areRooms 26 = .ok (.ireturn, 1) := by decide +kernel
theorem dX7_drain_0 : decode cX7_drain 0 = .ok (.aload_n 0, 1) := by decide +kernel
theorem dX7_drain_1 : decode cX7_drain 1 = .ok (.iload_n 1, 1) := by decide +kernel
theorem dX7_drain_2 : decode cX7_drain 2 = .ok (.iconst 3, 1) := by decide +kernel
theorem dX7_drain_3 : decode cX7_drain 3 = .ok (.invokevirtual 39, 3) := by decide +kernel
theorem dX7_drain_6 : decode cX7_drain 6 = .ok (.istore_n 2, 1) := by decide +kernel
theorem dX7_drain_7 : decode cX7_drain 7 = .ok (.iconst 0, 1) := by decide +kernel
theorem dX7_drain_8 : decode cX7_drain 8 = .ok (.istore_n 3, 1) := by decide +kernel
theorem dX7_drain_9 : decode cX7_drain 9 = .ok (.iload_n 3, 1) := by decide +kernel
theorem dX7_drain_10 : decode cX7_drain 10 = .ok (.bipush 6, 2) := by decide +kernel
theorem dX7_drain_12 : decode cX7_drain 12 = .ok (.if_icmp .ge 26, 3) := by decide +kernel
theorem dX7_drain_15 : decode cX7_drain 15 = .ok (.iload_n 2, 1) := by decide +kernel
theorem dX7_drain_16 : decode cX7_drain 16 = .ok (.aload_n 0, 1) := by decide +kernel
theorem dX7_drain_17 : decode cX7_drain 17 = .ok (.getfield 7, 3) := by decide +kernel
theorem dX7_drain_20 : decode cX7_drain 20 = .ok (.bipush 34, 2) := by decide +kernel
theorem dX7_drain_22 : decode cX7_drain 22 = .ok (.bipush 6, 2) := by decide +kernel
theorem dX7_drain_24 : decode cX7_drain 24 = .ok (.iload_n 1, 1) := by decide +kernel
theorem dX7_drain_25 : decode cX7_drain 25 = .ok (.imul, 1) := by decide +kernel
theorem dX7_drain_26 : decode cX7_drain 26 = .ok (.iadd, 1) := by decide +kernel
theorem dX7_drain_27 : decode cX7_drain 27 = .ok (.iload_n 3, 1) := by decide +kernel
theorem dX7_drain_28 : decode cX7_drain 28 = .ok (.iadd, 1) := by decide +kernel
theorem dX7_drain_29 : decode cX7_drain 29 = .ok (.iaload, 1) := by decide +kernel
theorem dX7_drain_30 : decode cX7_drain 30 = .ok (.iadd, 1) := by decide +kernel
theorem dX7_drain_31 : decode cX7_drain 31 = .ok (.istore_n 2, 1) := by decide +kernel
theorem dX7_drain_32 : decode cX7_drain 32 = .ok (.iinc 3 1, 3) := by decide +kernel
theorem dX7_drain_35 : decode cX7_drain 35 = .ok (.goto (-26), 3) := by decide +kernel
theorem dX7_drain_38 : decode cX7_drain 38 = .ok (.iload_n 2, 1) := by decide +kernel
theorem dX7_drain_39 : decode cX7_drain 39 = .ok (.ireturn, 1) := by decide +kernel
theorem dX7_isTooMuch_0 : decode cX7_isTooMuch 0 = .ok (.iconst 2, 1) := by decide +kernel
theorem dX7_isTooMuch_1 : decode cX7_isTooMuch 1 = .ok (.aload_n 0, 1) := by decide +kernel
theorem dX7_isTooMuch_2 : decode cX7_isTooMuch 2 = .ok (.iload_n 1, 1) := by decide +kernel
theorem dX7_isTooMuch_3 : decode cX7_isTooMuch 3 = .ok (.invokevirtual 60, 3) := by decide +kernel
theorem dX7_isTooMuch_6 : decode cX7_isTooMuch 6 = .ok (.iload_n 2, 1) := by decide +kernel
theorem dX7_isTooMuch_7 : decode cX7_isTooMuch 7 = .ok (.iadd, 1) := by decide +kernel
theorem dX7_isTooMuch_8 : decode cX7_isTooMuch 8 = .ok (.imul, 1) := by decide +kernel
theorem dX7_isTooMuch_9 : decode cX7_isTooMuch 9 = .ok (.aload_n 0, 1) := by decide +kernel
theorem dX7_isTooMuch_10 : decode cX7_isTooMuch 10 = .ok (.iload_n 1, 1) := by decide +kernel
theorem dX7_isTooMuch_11 : decode cX7_isTooMuch 11 = .ok (.iconst 0, 1) := by decide +kernel
theorem dX7_isTooMuch_12 : decode cX7_isTooMuch 12 = .ok (.invokevirtual 39, 3) := by decide +kernel
theorem dX7_isTooMuch_15 : decode cX7_isTooMuch 15 = .ok (.if_icmp .le 7, 3) := by decide +kernel
theorem dX7_isTooMuch_18 : decode cX7_isTooMuch 18 = .ok (.iconst 1, 1) := by decide +kernel
theorem dX7_isTooMuch_19 : decode cX7_isTooMuch 19 = .ok (.goto 4, 3) := by decide +kernel
theorem dX7_isTooMuch_22 : decode cX7_isTooMuch 22 = .ok (.iconst 0, 1) := by decide +kernel
theorem dX7_isTooMuch_23 : decode cX7_isTooMuch 23 = .ok (.ireturn, 1) := by decide +kernel
theorem dX7_setLink_0 : decode cX7_setLink 0 = .ok (.aload_n 0, 1) := by decide +kernel
theorem dX7_setLink_1 : decode cX7_setLink 1 = .ok (.iload_n 1, 1) := by decide +kernel
theorem dX7_setLink_2 : decode cX7_setLink 2 = .ok (.iload_n 2, 1) := by decide +kernel
theorem dX7_setLink_3 : decode cX7_setLink 3 = .ok (.invokevirtual 64, 3) := by decide +kernel
theorem dX7_setLink_6 : decode cX7_setLink 6 = .ok (.ifCond .eq 13, 3) := by decide +kernel
theorem dX7_setLink_9 : decode cX7_setLink 9 = .ok (.iload_n 3, 1) := by decide +kernel
theorem dX7_setLink_10 : decode cX7_setLink 10 = .ok (.iconst 0, 1) := by decide +kernel
theorem dX7_setLink_11 : decode cX7_setLink 11 = .ok (.bipush 50, 2) := by decide +kernel
theorem dX7_setLink_13 : decode cX7_setLink 13 = .ok (.invokestatic 35, 3) := by decide +kernel
theorem dX7_setLink_16 : decode cX7_setLink 16 = .ok (.ifCond .ne 6, 3) := by decide +kernel
theorem dX7_setLink_19 : decode cX7_setLink 19 = .ok (.ldc 46, 2) := by decide +kernel
theorem dX7_setLink_21 : decode cX7_setLink 21 = .ok (.ireturn, 1) := by decide +kernel
theorem dX7_setLink_22 : decode cX7_setLink 22 = .ok (.aload_n 0, 1) := by decide +kernel
theorem dX7_setLink_23 : decode cX7_setLink 23 = .ok (.getfield 7, 3) := by decide +kernel
theorem dX7_setLink_26 : decode cX7_setLink 26 = .ok (.bipush 34, 2) := by decide +kernel
theorem dX7_setLink_28 : decode cX7_setLink 28 = .ok (.bipush 6, 2) := by decide +kernel
theorem dX7_setLink_30 : decode cX7_setLink 30 = .ok (.iload_n 1, 1) := by decide +kernel
theorem dX7_setLink_31 : decode cX7_setLink 31 = .ok (.imul, 1) := by decide +kernel
theorem dX7_setLink_32 : decode cX7_setLink 32 = .ok (.iadd, 1) := by decide +kernel
theorem dX7_setLink_33 : decode cX7_setLink 33 = .ok (.iload_n 2, 1) := by decide +kernel
theorem dX7_setLink_34 : decode cX7_setLink 34 = .ok (.iadd, 1) := by decide +kernel
theorem dX7_setLink_35 : decode cX7_setLink 35 = .ok (.iaload, 1) := by decide +kernel
theorem dX7_setLink_36 : decode cX7_setLink 36 = .ok (.istore 4, 2) := by decide +kernel
theorem dX7_setLink_38 : decode cX7_setLink 38 = .ok (.aload_n 0, 1) := by decide +kernel
theorem dX7_setLink_39 : decode cX7_setLink 39 = .ok (.iload_n 1, 1) := by decide +kernel
theorem dX7_setLink_40 : decode cX7_setLink 40 = .ok (.iload_n 3, 1) := by decide +kernel
theorem dX7_setLink_41 : decode cX7_setLink 41 = .ok (.iload 4, 2) := by decide +kernel
theorem dX7_setLink_43 : decode cX7_setLink 43 = .ok (.isub, 1) := by decide +kernel
theorem dX7_setLink_44 : decode cX7_setLink 44 = .ok (.invokevirtual 68, 3) := by decide +kernel
theorem dX7_setLink_47 : decode cX7_setLink 47 = .ok (.ifCond .ne 15, 3) := by decide +kernel
theorem dX7_setLink_50 : decode cX7_setLink 50 = .ok (.aload_n 0, 1) := by decide +kernel
theorem dX7_setLink_51 : decode cX7_setLink 51 = .ok (.iload_n 2, 1) := by decide +kernel
theorem dX7_setLink_52 : decode cX7_setLink 52 = .ok (.iload_n 3, 1) := by decide +kernel
theorem dX7_setLink_53 : decode cX7_setLink 53 = .ok (.iload 4, 2) := by decide +kernel
theorem dX7_setLink_55 : decode cX7_setLink 55 = .ok (.isub, 1) := by decide +kernel
theorem dX7_setLink_56 : decode cX7_setLink 56 = .ok (.invokevirtual 68, 3) := by decide +kernel
theorem dX7_setLink_59 : decode cX7_setLink 59 = .ok (.ifCond .eq 6, 3) := by decide +kernel
theorem dX7_setLink_62 : decode cX7_setLink 62 = .ok (.ldc 34, 2) := by decide +kernel
theorem dX7_setLink_64 : decode cX7_setLink 64 = .ok (.ireturn, 1) := by decide +kernel
theorem dX7_setLink_65 : decode cX7_setLink 65 = .ok (.aload_n 0, 1) := by decide +kernel
theorem dX7_setLink_66 : decode cX7_setLink 66 = .ok (.invokevirtual 48, 3) := by decide +kernel
theorem dX7_setLink_69 : decode cX7_setLink 69 = .ok (.aload_n 0, 1) := by decide +kernel
theorem dX7_setLink_70 : decode cX7_setLink 70 = .ok (.getfield 7, 3) := by decide +kernel
theorem dX7_setLink_73 : decode cX7_setLink 73 = .ok (.bipush 34, 2) := by decide +kernel
theorem dX7_setLink_75 : decode cX7_setLink 75 = .ok (.bipush 6, 2) := by decide +kernel
theorem dX7_setLink_77 : decode cX7_setLink 77 = .ok (.iload_n 1, 1) := by decide +kernel
theorem dX7_setLink_78 : decode cX7_setLink 78 = .ok (.imul, 1) := by decide +kernel
theorem dX7_setLink_79 : decode cX7_setLink 79 = .ok (.iadd, 1) := by decide +kernel
theorem dX7_setLink_80 : decode cX7_setLink 80 = .ok (.iload_n 2, 1) := by decide +kernel
theorem dX7_setLink_81 : decode cX7_setLink 81 = .ok (.iadd, 1) := by decide +kernel
theorem dX7_setLink_82 : decode cX7_setLink 82 = .ok (.iload_n 3, 1) := by decide +kernel
theorem dX7_setLink_83 : decode cX7_setLink 83 = .ok (.iastore, 1) := by decide +kernel
theorem dX7_setLink_84 : decode cX7_setLink 84 = .ok (.aload_n 0, 1) := by decide +kernel
theorem dX7_setLink_85 : decode cX7_setLink 85 = .ok (.getfield 7, 3) := by decide +kernel
theorem dX7_setLink_88 : decode cX7_setLink 88 = .ok (.bipush 34, 2) := by decide +kernel
theorem dX7_setLink_90 : decode cX7_setLink 90 = .ok (.bipush 6, 2) := by decide +kernel
theorem dX7_setLink_92 : decode cX7_setLink 92 = .ok (.iload_n 2, 1) := by decide +kernel
theorem dX7_setLink_93 : decode cX7_setLink 93 = .ok (.imul, 1) := by decide +kernel
theorem dX7_setLink_94 : decode cX7_setLink 94 = .ok (.iadd, 1) := by decide +kernel
theorem dX7_setLink_95 : decode cX7_setLink 95 = .ok (.iload_n 1, 1) := by decide +kernel
theorem dX7_setLink_96 : decode cX7_setLink 96 = .ok (.iadd, 1) := by decide +kernel
theorem dX7_setLink_97 : decode cX7_setLink 97 = .ok (.iload_n 3, 1) := by decide +kernel
theorem dX7_setLink_98 : decode cX7_setLink 98 = .ok (.iastore, 1) := by decide +kernel
theorem dX7_setLink_99 : decode cX7_setLink 99 = .ok (.iload 4, 2) := by decide +kernel
theorem dX7_setLink_101 : decode cX7_setLink 101 = .ok (.ireturn, 1) := by decide +kernel
theorem dX7_link_0 : decode cX7_link 0 = .ok (.aload_n 0, 1) := by decide +kernel
theorem dX7_link_1 : decode cX7_link 1 = .ok (.iload_n 1, 1) := by decide +kernel
theorem dX7_link_2 : decode cX7_link 2 = .ok (.iload_n 2, 1) := by decide +kernel
theorem dX7_link_3 : decode cX7_link 3 = .ok (.invokevirtual 64, 3) := by decide +kernel
theorem dX7_link_6 : decode cX7_link 6 = .ok (.ifCond .eq 20, 3) := by decide +kernel
theorem dX7_link_9 : decode cX7_link 9 = .ok (.aload_n 0, 1) := by decide +kernel
theorem dX7_link_10 : decode cX7_link 10 = .ok (.getfield 7, 3) := by decide +kernel
theorem dX7_link_13 : decode cX7_link 13 = .ok (.bipush 34, 2) := by decide +kernel
theorem dX7_link_15 : decode cX7_link 15 = .ok (.bipush 6, 2) := by decide +kernel
theorem dX7_link_17 : decode cX7_link 17 = .ok (.iload_n 1, 1) := by decide +kernel
theorem dX7_link_18 : decode cX7_link 18 = .ok (.imul, 1) := by decide +kernel
theorem dX7_link_19 : decode cX7_link 19 = .ok (.iadd, 1) := by decide +kernel
theorem dX7_link_20 : decode cX7_link 20 = .ok (.iload_n 2, 1) := by decide +kernel
theorem dX7_link_21 : decode cX7_link 21 = .ok (.iadd, 1) := by decide +kernel
theorem dX7_link_22 : decode cX7_link 22 = .ok (.iaload, 1) := by decide +kernel
theorem dX7_link_23 : decode cX7_link 23 = .ok (.goto 5, 3) := by decide +kernel
theorem dX7_link_26 : decode cX7_link 26 = .ok (.ldc 46, 2) := by decide +kernel
theorem dX7_link_28 : decode cX7_link 28 = .ok (.ireturn, 1) := by decide +kernel
theorem dX7_setThermostat_0 : decode cX7_setThermostat 0 = .ok (.aload_n 0, 1) := by decide +kernel
theorem dX7_setThermostat_1 : decode cX7_setThermostat 1 = .ok (.iload_n 1, 1) := by decide +kernel
theorem dX7_setThermostat_2 : decode cX7_setThermostat 2 = .ok (.invokevirtual 56, 3) := by decide +kernel
theorem dX7_setThermostat_5 : decode cX7_setThermostat 5 = .ok (.ifCond .eq 27, 3) := by decide +kernel
theorem dX7_setThermostat_8 : decode cX7_setThermostat 8 = .ok (.iload_n 2, 1) := by decide +kernel
theorem dX7_setThermostat_9 : decode cX7_setThermostat 9 = .ok (.sipush 5000, 3) := by decide +kernel
theorem dX7_setThermostat_12 : decode cX7_setThermostat 12 = .ok (.ldc 71, 2) := by decide +kernel
theorem dX7_setThermostat_14 : decode cX7_setThermostat 14 = .ok (.invokestatic 35, 3) := by decide +kernel
theorem dX7_setThermostat_17 : decode cX7_setThermostat 17 = .ok (.ifCond .eq 15, 3) := by decide +kernel
theorem dX7_setThermostat_20 : decode cX7_setThermostat 20 = .ok (.iload_n 3, 1) := by decide +kernel
theorem dX7_setThermostat_21 : decode cX7_setThermostat 21 = .ok (.bipush 100, 2) := by decide +kernel
theorem dX7_setThermostat_23 : decode cX7_setThermostat 23 = .ok (.sipush 5000, 3) := by decide +kernel
theorem dX7_setThermostat_26 : decode cX7_setThermostat 26 = .ok (.invokestatic 35, 3) := by decide +kernel
theorem dX7_setThermostat_29 : decode cX7_setThermostat 29 = .ok (.ifCond .ne 6, 3) := by decide +kernel
theorem dX7_setThermostat_32 : decode cX7_setThermostat 32 = .ok (.ldc 46, 2) := by decide +kernel
theorem dX7_setThermostat_34 : decode cX7_setThermostat 34 = .ok (.ireturn, 1) := by decide +kernel
theorem dX7_setThermostat_35 : decode cX7_setThermostat 35 = .ok (.aload_n 0, 1) := by decide +kernel
theorem dX7_setThermostat_36 : decode cX7_setThermostat 36 = .ok (.invokevirtual 48, 3) := by decide +kernel
theorem dX7_setThermostat_39 : decode cX7_setThermostat 39 = .ok (.aload_n 0, 1) := by decide +kernel
theorem dX7_setThermostat_40 : decode cX7_setThermostat 40 = .ok (.iload_n 1, 1) := by decide +kernel
theorem dX7_setThermostat_41 : decode cX7_setThermostat 41 = .ok (.iconst 4, 1) := by decide +kernel
theorem dX7_setThermostat_42 : decode cX7_setThermostat 42 = .ok (.invokevirtual 39, 3) := by decide +kernel
theorem dX7_setThermostat_45 : decode cX7_setThermostat 45 = .ok (.iload_n 2, 1) := by decide +kernel
theorem dX7_setThermostat_46 : decode cX7_setThermostat 46 = .ok (.if_icmp .ne 17, 3) := by decide +kernel
theorem dX7_setThermostat_49 : decode cX7_setThermostat 49 = .ok (.aload_n 0, 1) := by decide +kernel
theorem dX7_setThermostat_50 : decode cX7_setThermostat 50 = .ok (.iload_n 1, 1) := by decide +kernel
theorem dX7_setThermostat_51 : decode cX7_setThermostat 51 = .ok (.iconst 5, 1) := by decide +kernel
theorem dX7_setThermostat_52 : decode cX7_setThermostat 52 = .ok (.invokevirtual 39, 3) := by decide +kernel
theorem dX7_setThermostat_55 : decode cX7_setThermostat 55 = .ok (.iload_n 3, 1) := by decide +kernel
theorem dX7_setThermostat_56 : decode cX7_setThermostat 56 = .ok (.if_icmp .ne 7, 3) := by decide +kernel
theorem dX7_setThermostat_59 : decode cX7_setThermostat 59 = .ok (.iconst 1, 1) := by decide +kernel
theorem dX7_setThermostat_60 : decode cX7_setThermostat 60 = .ok (.goto 4, 3) := by decide +kernel
theorem dX7_setThermostat_63 : decode cX7_setThermostat 63 = .ok (.iconst 0, 1) := by decide +kernel
theorem dX7_setThermostat_64 : decode cX7_setThermostat 64 = .ok (.istore 4, 2) := by decide +kernel
theorem dX7_setThermostat_66 : decode cX7_setThermostat 66 = .ok (.aload_n 0, 1) := by decide +kernel
theorem dX7_setThermostat_67 : decode cX7_setThermostat 67 = .ok (.iload_n 1, 1) := by decide +kernel
theorem dX7_setThermostat_68 : decode cX7_setThermostat 68 = .ok (.iconst 4, 1) := by decide +kernel
theorem dX7_setThermostat_69 : decode cX7_setThermostat 69 = .ok (.iload_n 2, 1) := by decide +kernel
theorem dX7_setThermostat_70 : decode cX7_setThermostat 70 = .ok (.invokevirtual 51, 3) := by decide +kernel
theorem dX7_setThermostat_73 : decode cX7_setThermostat 73 = .ok (.aload_n 0, 1) := by decide +kernel
theorem dX7_setThermostat_74 : decode cX7_setThermostat 74 = .ok (.iload_n 1, 1) := by decide +kernel
theorem dX7_setThermostat_75 : decode cX7_setThermostat 75 = .ok (.iconst 5, 1) := by decide +kernel
theorem dX7_setThermostat_76 : decode cX7_setThermostat 76 = .ok (.iload_n 3, 1) := by decide +kernel
theorem dX7_setThermostat_77 : decode cX7_setThermostat 77 = .ok (.invokevirtual 51, 3) := by decide +kernel
theorem dX7_setThermostat_80 : decode cX7_setThermostat 80 = .ok (.iload 4, 2) := by decide +kernel
theorem dX7_setThermostat_82 : decode cX7_setThermostat 82 = .ok (.ifCond .eq 7, 3) := by decide +kernel
theorem dX7_setThermostat_85 : decode cX7_setThermostat 85 = .ok (.iconst 0, 1) := by decide +kernel
theorem dX7_setThermostat_86 : decode cX7_setThermostat 86 = .ok (.goto 4, 3) := by decide +kernel
theorem dX7_setThermostat_89 : decode cX7_setThermostat 89 = .ok (.iconst 1, 1) := by decide +kernel
theorem dX7_setThermostat_90 : decode cX7_setThermostat 90 = .ok (.ireturn, 1) := by decide +kernel
theorem dX7_isNumber_0 : decode cX7_isNumber 0 = .ok (.iload_n 0, 1) := by decide +kernel
theorem dX7_isNumber_1 : decode cX7_isNumber 1 = .ok (.tableswitch 102 0 6 #[43, 51, 60, 68, 76, 84, 94], 43) := by decide +kernel
theorem dX7_isNumber_44 : decode cX7_isNumber 44 = .ok (.iload_n 1, 1) := by decide +kernel
theorem dX7_isNumber_45 : decode cX7_isNumber 45 = .ok (.iconst 1, 1) := by decide +kernel
theorem dX7_isNumber_46 : decode cX7_isNumber 46 = .ok (.bipush 100, 2) := by decide +kernel
theorem dX7_isNumber_48 : decode cX7_isNumber 48 = .ok (.invokestatic 35, 3) := by decide +kernel
theorem dX7_isNumber_51 : decode cX7_isNumber 51 = .ok (.ireturn, 1) := by decide +kernel
theorem dX7_isNumber_52 : decode cX7_isNumber 52 = .ok (.iload_n 1, 1) := by decide +kernel
theorem dX7_isNumber_53 : decode cX7_isNumber 53 = .ok (.iconst 1, 1) := by decide +kernel
theorem dX7_isNumber_54 : decode cX7_isNumber 54 = .ok (.sipush 9999, 3) := by decide +kernel
theorem dX7_isNumber_57 : decode cX7_isNumber 57 = .ok (.invokestatic 35, 3) := by decide +kernel
theorem dX7_isNumber_60 : decode cX7_isNumber 60 = .ok (.ireturn, 1) := by decide +kernel
theorem dX7_isNumber_61 : decode cX7_isNumber 61 = .ok (.iload_n 1, 1) := by decide +kernel
theorem dX7_isNumber_62 : decode cX7_isNumber 62 = .ok (.iconst 1, 1) := by decide +kernel
theorem dX7_isNumber_63 : decode cX7_isNumber 63 = .ok (.bipush 50, 2) := by decide +kernel
theorem dX7_isNumber_65 : decode cX7_isNumber 65 = .ok (.invokestatic 35, 3) := by decide +kernel
theorem dX7_isNumber_68 : decode cX7_isNumber 68 = .ok (.ireturn, 1) := by decide +kernel
theorem dX7_isNumber_69 : decode cX7_isNumber 69 = .ok (.iload_n 1, 1) := by decide +kernel
theorem dX7_isNumber_70 : decode cX7_isNumber 70 = .ok (.iconst 0, 1) := by decide +kernel
theorem dX7_isNumber_71 : decode cX7_isNumber 71 = .ok (.bipush 120, 2) := by decide +kernel
theorem dX7_isNumber_73 : decode cX7_isNumber 73 = .ok (.invokestatic 35, 3) := by decide +kernel
theorem dX7_isNumber_76 : decode cX7_isNumber 76 = .ok (.ireturn, 1) := by decide +kernel
theorem dX7_isNumber_77 : decode cX7_isNumber 77 = .ok (.iload_n 1, 1) := by decide +kernel
theorem dX7_isNumber_78 : decode cX7_isNumber 78 = .ok (.iconst 0, 1) := by decide +kernel
theorem dX7_isNumber_79 : decode cX7_isNumber 79 = .ok (.bipush 100, 2) := by decide +kernel
theorem dX7_isNumber_81 : decode cX7_isNumber 81 = .ok (.invokestatic 35, 3) := by decide +kernel
theorem dX7_isNumber_84 : decode cX7_isNumber 84 = .ok (.ireturn, 1) := by decide +kernel
theorem dX7_isNumber_85 : decode cX7_isNumber 85 = .ok (.iload_n 1, 1) := by decide +kernel
theorem dX7_isNumber_86 : decode cX7_isNumber 86 = .ok (.sipush 20000, 3) := by decide +kernel
theorem dX7_isNumber_89 : decode cX7_isNumber 89 = .ok (.ldc 72, 2) := by decide +kernel
theorem dX7_isNumber_91 : decode cX7_isNumber 91 = .ok (.invokestatic 35, 3) := by decide +kernel
theorem dX7_isNumber_94 : decode cX7_isNumber 94 = .ok (.ireturn, 1) := by decide +kernel
theorem dX7_isNumber_95 : decode cX7_isNumber 95 = .ok (.iload_n 1, 1) := by decide +kernel
theorem dX7_isNumber_96 : decode cX7_isNumber 96 = .ok (.iconst 1, 1) := by decide +kernel
theorem dX7_isNumber_97 : decode cX7_isNumber 97 = .ok (.bipush 120, 2) := by decide +kernel
theorem dX7_isNumber_99 : decode cX7_isNumber 99 = .ok (.invokestatic 35, 3) := by decide +kernel
theorem dX7_isNumber_102 : decode cX7_isNumber 102 = .ok (.ireturn, 1) := by decide +kernel
theorem dX7_isNumber_103 : decode cX7_isNumber 103 = .ok (.iconst 0, 1) := by decide +kernel
theorem dX7_isNumber_104 : decode cX7_isNumber 104 = .ok (.ireturn, 1) := by decide +kernel
theorem dX7_setNumber_0 : decode cX7_setNumber 0 = .ok (.iload_n 1, 1) := by decide +kernel
theorem dX7_setNumber_1 : decode cX7_setNumber 1 = .ok (.iload_n 2, 1) := by decide +kernel
theorem dX7_setNumber_2 : decode cX7_setNumber 2 = .ok (.invokestatic 73, 3) := by decide +kernel
theorem dX7_setNumber_5 : decode cX7_setNumber 5 = .ok (.ifCond .ne 6, 3) := by decide +kernel
theorem dX7_setNumber_8 : decode cX7_setNumber 8 = .ok (.ldc 46, 2) := by decide +kernel
theorem dX7_setNumber_10 : decode cX7_setNumber 10 = .ok (.ireturn, 1) := by decide +kernel
theorem dX7_setNumber_11 : decode cX7_setNumber 11 = .ok (.aload_n 0, 1) := by decide +kernel
theorem dX7_setNumber_12 : decode cX7_setNumber 12 = .ok (.invokevirtual 48, 3) := by decide +kernel
theorem dX7_setNumber_15 : decode cX7_setNumber 15 = .ok (.aload_n 0, 1) := by decide +kernel
theorem dX7_setNumber_16 : decode cX7_setNumber 16 = .ok (.getfield 7, 3) := by decide +kernel
theorem dX7_setNumber_19 : decode cX7_setNumber 19 = .ok (.iload_n 1, 1) := by decide +kernel
theorem dX7_setNumber_20 : decode cX7_setNumber 20 = .ok (.iaload, 1) := by decide +kernel
theorem dX7_setNumber_21 : decode cX7_setNumber 21 = .ok (.istore_n 3, 1) := by decide +kernel
theorem dX7_setNumber_22 : decode cX7_setNumber 22 = .ok (.aload_n 0, 1) := by decide +kernel
theorem dX7_setNumber_23 : decode cX7_setNumber 23 = .ok (.getfield 7, 3) := by decide +kernel
theorem dX7_setNumber_26 : decode cX7_setNumber 26 = .ok (.iload_n 1, 1) := by decide +kernel
theorem dX7_setNumber_27 : decode cX7_setNumber 27 = .ok (.iload_n 2, 1) := by decide +kernel
theorem dX7_setNumber_28 : decode cX7_setNumber 28 = .ok (.iastore, 1) := by decide +kernel
theorem dX7_setNumber_29 : decode cX7_setNumber 29 = .ok (.iload_n 3, 1) := by decide +kernel
theorem dX7_setNumber_30 : decode cX7_setNumber 30 = .ok (.ireturn, 1) := by decide +kernel
theorem dX7_warm_0 : decode cX7_warm 0 = .ok (.aload_n 0, 1) := by decide +kernel
theorem dX7_warm_1 : decode cX7_warm 1 = .ok (.iload_n 1, 1) := by decide +kernel
theorem dX7_warm_2 : decode cX7_warm 2 = .ok (.invokevirtual 56, 3) := by decide +kernel
theorem dX7_warm_5 : decode cX7_warm 5 = .ok (.ifCond .eq 14, 3) := by decide +kernel
theorem dX7_warm_8 : decode cX7_warm 8 = .ok (.iload_n 2, 1) := by decide +kernel
theorem dX7_warm_9 : decode cX7_warm 9 = .ok (.ldc 76, 2) := by decide +kernel
theorem dX7_warm_11 : decode cX7_warm 11 = .ok (.ldc 77, 2) := by decide +kernel
theorem dX7_warm_13 : decode cX7_warm 13 = .ok (.invokestatic 35, 3) := by decide +kernel
theorem dX7_warm_16 : decode cX7_warm 16 = .ok (.ifCond .ne 6, 3) := by decide +kernel
theorem dX7_warm_19 : decode cX7_warm 19 = .ok (.ldc 46, 2) := by decide +kernel
theorem dX7_warm_21 : decode cX7_warm 21 = .ok (.ireturn, 1) := by decide +kernel
theorem dX7_warm_22 : decode cX7_warm 22 = .ok (.ldc2_w 78, 3) := by decide +kernel
theorem dX7_warm_25 : decode cX7_warm 25 = .ok (.aload_n 0, 1) := by decide +kernel
theorem dX7_warm_26 : decode cX7_warm 26 = .ok (.iload_n 1, 1) := by decide +kernel
theorem dX7_warm_27 : decode cX7_warm 27 = .ok (.iconst 0, 1) := by decide +kernel
theorem dX7_warm_28 : decode cX7_warm 28 = .ok (.invokevirtual 39, 3) := by decide +kernel
theorem dX7_warm_31 : decode cX7_warm 31 = .ok (.i2l, 1) := by decide +kernel
theorem dX7_warm_32 : decode cX7_warm 32 = .ok (.lmul, 1) := by decide +kernel
theorem dX7_warm_33 : decode cX7_warm 33 = .ok (.lstore_n 3, 1) := by decide +kernel
theorem dX7_warm_34 : decode cX7_warm 34 = .ok (.aload_n 0, 1) := by decide +kernel
theorem dX7_warm_35 : decode cX7_warm 35 = .ok (.iload_n 1, 1) := by decide +kernel
theorem dX7_warm_36 : decode cX7_warm 36 = .ok (.iconst 1, 1) := by decide +kernel
theorem dX7_warm_37 : decode cX7_warm 37 = .ok (.invokevirtual 39, 3) := by decide +kernel
theorem dX7_warm_40 : decode cX7_warm 40 = .ok (.i2l, 1) := by decide +kernel
theorem dX7_warm_41 : decode cX7_warm 41 = .ok (.iload_n 2, 1) := by decide +kernel
theorem dX7_warm_42 : decode cX7_warm 42 = .ok (.i2l, 1) := by decide +kernel
theorem dX7_warm_43 : decode cX7_warm 43 = .ok (.ladd, 1) := by decide +kernel
theorem dX7_warm_44 : decode cX7_warm 44 = .ok (.lstore 5, 2) := by decide +kernel
theorem dX7_warm_46 : decode cX7_warm 46 = .ok (.lload 5, 2) := by decide +kernel
theorem dX7_warm_48 : decode cX7_warm 48 = .ok (.lload_n 3, 1) := by decide +kernel
theorem dX7_warm_49 : decode cX7_warm 49 = .ok (.lneg, 1) := by decide +kernel
theorem dX7_warm_50 : decode cX7_warm 50 = .ok (.lcmp, 1) := by decide +kernel
theorem dX7_warm_51 : decode cX7_warm 51 = .ok (.ifCond .lt 27, 3) := by decide +kernel
theorem dX7_warm_54 : decode cX7_warm 54 = .ok (.lload 5, 2) := by decide +kernel
theorem dX7_warm_56 : decode cX7_warm 56 = .ok (.lload_n 3, 1) := by decide +kernel
theorem dX7_warm_57 : decode cX7_warm 57 = .ok (.lcmp, 1) := by decide +kernel
theorem dX7_warm_58 : decode cX7_warm 58 = .ok (.ifCond .lt 23, 3) := by decide +kernel
theorem dX7_warm_61 : decode cX7_warm 61 = .ok (.lload 5, 2) := by decide +kernel
theorem dX7_warm_63 : decode cX7_warm 63 = .ok (.l2i, 1) := by decide +kernel
theorem dX7_warm_64 : decode cX7_warm 64 = .ok (.aload_n 0, 1) := by decide +kernel
theorem dX7_warm_65 : decode cX7_warm 65 = .ok (.iload_n 1, 1) := by decide +kernel
theorem dX7_warm_66 : decode cX7_warm 66 = .ok (.iconst 0, 1) := by decide +kernel
theorem dX7_warm_67 : decode cX7_warm 67 = .ok (.invokevirtual 39, 3) := by decide +kernel
theorem dX7_warm_70 : decode cX7_warm 70 = .ok (.invokestatic 43, 3) := by decide +kernel
theorem dX7_warm_73 : decode cX7_warm 73 = .ok (.ldc 80, 2) := by decide +kernel
theorem dX7_warm_75 : decode cX7_warm 75 = .ok (.if_icmp .le 6, 3) := by decide +kernel
theorem dX7_warm_78 : decode cX7_warm 78 = .ok (.ldc 34, 2) := by decide +kernel
theorem dX7_warm_80 : decode cX7_warm 80 = .ok (.ireturn, 1) := by decide +kernel
theorem dX7_warm_81 : decode cX7_warm 81 = .ok (.aload_n 0, 1) := by decide +kernel
theorem dX7_warm_82 : decode cX7_warm 82 = .ok (.invokevirtual 48, 3) := by decide +kernel
theorem dX7_warm_85 : decode cX7_warm 85 = .ok (.aload_n 0, 1) := by decide +kernel
theorem dX7_warm_86 : decode cX7_warm 86 = .ok (.iload_n 1, 1) := by decide +kernel
theorem dX7_warm_87 : decode cX7_warm 87 = .ok (.iconst 1, 1) := by decide +kernel
theorem dX7_warm_88 : decode cX7_warm 88 = .ok (.iload_n 2, 1) := by decide +kernel
theorem dX7_warm_89 : decode cX7_warm 89 = .ok (.invokevirtual 81, 3) := by decide +kernel
theorem dX7_warm_92 : decode cX7_warm 92 = .ok (.aload_n 0, 1) := by decide +kernel
theorem dX7_warm_93 : decode cX7_warm 93 = .ok (.iload_n 1, 1) := by decide +kernel
theorem dX7_warm_94 : decode cX7_warm 94 = .ok (.bipush 20, 2) := by decide +kernel
theorem dX7_warm_96 : decode cX7_warm 96 = .ok (.iload_n 2, 1) := by decide +kernel
theorem dX7_warm_97 : decode cX7_warm 97 = .ok (.invokevirtual 81, 3) := by decide +kernel
theorem dX7_warm_100 : decode cX7_warm 100 = .ok (.aload_n 0, 1) := by decide +kernel
theorem dX7_warm_101 : decode cX7_warm 101 = .ok (.iload_n 1, 1) := by decide +kernel
theorem dX7_warm_102 : decode cX7_warm 102 = .ok (.invokevirtual 84, 3) := by decide +kernel
theorem dX7_warm_105 : decode cX7_warm 105 = .ok (.ireturn, 1) := by decide +kernel
theorem dX7_service_0 : decode cX7_service 0 = .ok (.aload_n 0, 1) := by decide +kernel
theorem dX7_service_1 : decode cX7_service 1 = .ok (.iload_n 1, 1) := by decide +kernel
theorem dX7_service_2 : decode cX7_service 2 = .ok (.invokevirtual 56, 3) := by decide +kernel
theorem dX7_service_5 : decode cX7_service 5 = .ok (.ifCond .ne 6, 3) := by decide +kernel
theorem dX7_service_8 : decode cX7_service 8 = .ok (.ldc 46, 2) := by decide +kernel
theorem dX7_service_10 : decode cX7_service 10 = .ok (.ireturn, 1) := by decide +kernel
theorem dX7_service_11 : decode cX7_service 11 = .ok (.aload_n 0, 1) := by decide +kernel
theorem dX7_service_12 : decode cX7_service 12 = .ok (.invokevirtual 48, 3) := by decide +kernel
theorem dX7_service_15 : decode cX7_service 15 = .ok (.aload_n 0, 1) := by decide +kernel
theorem dX7_service_16 : decode cX7_service 16 = .ok (.iload_n 1, 1) := by decide +kernel
theorem dX7_service_17 : decode cX7_service 17 = .ok (.bipush 9, 2) := by decide +kernel
theorem dX7_service_19 : decode cX7_service 19 = .ok (.invokevirtual 39, 3) := by decide +kernel
theorem dX7_service_22 : decode cX7_service 22 = .ok (.istore_n 2, 1) := by decide +kernel
theorem dX7_service_23 : decode cX7_service 23 = .ok (.aload_n 0, 1) := by decide +kernel
theorem dX7_service_24 : decode cX7_service 24 = .ok (.iload_n 1, 1) := by decide +kernel
theorem dX7_service_25 : decode cX7_service 25 = .ok (.bipush 9, 2) := by decide +kernel
theorem dX7_service_27 : decode cX7_service 27 = .ok (.iconst 0, 1) := by decide +kernel
theorem dX7_service_28 : decode cX7_service 28 = .ok (.invokevirtual 51, 3) := by decide +kernel
theorem dX7_service_31 : decode cX7_service 31 = .ok (.aload_n 0, 1) := by decide +kernel
theorem dX7_service_32 : decode cX7_service 32 = .ok (.iload_n 1, 1) := by decide +kernel
theorem dX7_service_33 : decode cX7_service 33 = .ok (.bipush 10, 2) := by decide +kernel
theorem dX7_service_35 : decode cX7_service 35 = .ok (.iconst 0, 1) := by decide +kernel
theorem dX7_service_36 : decode cX7_service 36 = .ok (.invokevirtual 51, 3) := by decide +kernel
theorem dX7_service_39 : decode cX7_service 39 = .ok (.aload_n 0, 1) := by decide +kernel
theorem dX7_service_40 : decode cX7_service 40 = .ok (.iload_n 1, 1) := by decide +kernel
theorem dX7_service_41 : decode cX7_service 41 = .ok (.bipush 8, 2) := by decide +kernel
theorem dX7_service_43 : decode cX7_service 43 = .ok (.iconst 0, 1) := by decide +kernel
theorem dX7_service_44 : decode cX7_service 44 = .ok (.invokevirtual 51, 3) := by decide +kernel
theorem dX7_service_47 : decode cX7_service 47 = .ok (.aload_n 0, 1) := by decide +kernel
theorem dX7_service_48 : decode cX7_service 48 = .ok (.iload_n 1, 1) := by decide +kernel
theorem dX7_service_49 : decode cX7_service 49 = .ok (.bipush 7, 2) := by decide +kernel
theorem dX7_service_51 : decode cX7_service 51 = .ok (.iconst 0, 1) := by decide +kernel
theorem dX7_service_52 : decode cX7_service 52 = .ok (.invokevirtual 51, 3) := by decide +kernel
theorem dX7_service_55 : decode cX7_service 55 = .ok (.iload_n 2, 1) := by decide +kernel
theorem dX7_service_56 : decode cX7_service 56 = .ok (.ireturn, 1) := by decide +kernel
theorem dX7_resetCutout_0 : decode cX7_resetCutout 0 = .ok (.aload_n 0, 1) := by decide +kernel
theorem dX7_resetCutout_1 : decode cX7_resetCutout 1 = .ok (.iload_n 1, 1) := by decide +kernel
theorem dX7_resetCutout_2 : decode cX7_resetCutout 2 = .ok (.invokevirtual 56, 3) := by decide +kernel
theorem dX7_resetCutout_5 : decode cX7_resetCutout 5 = .ok (.ifCond .ne 6, 3) := by decide +kernel
theorem dX7_resetCutout_8 : decode cX7_resetCutout 8 = .ok (.ldc 46, 2) := by decide +kernel
theorem dX7_resetCutout_10 : decode cX7_resetCutout 10 = .ok (.ireturn, 1) := by decide +kernel
theorem dX7_resetCutout_11 : decode cX7_resetCutout 11 = .ok (.aload_n 0, 1) := by decide +kernel
theorem dX7_resetCutout_12 : decode cX7_resetCutout 12 = .ok (.iload_n 1, 1) := by decide +kernel
theorem dX7_resetCutout_13 : decode cX7_resetCutout 13 = .ok (.bipush 14, 2) := by decide +kernel
theorem dX7_resetCutout_15 : decode cX7_resetCutout 15 = .ok (.invokevirtual 39, 3) := by decide +kernel
theorem dX7_resetCutout_18 : decode cX7_resetCutout 18 = .ok (.ifCond .eq 17, 3) := by decide +kernel
theorem dX7_resetCutout_21 : decode cX7_resetCutout 21 = .ok (.aload_n 0, 1) := by decide +kernel
theorem dX7_resetCutout_22 : decode cX7_resetCutout 22 = .ok (.iload_n 1, 1) := by decide +kernel
theorem dX7_resetCutout_23 : decode cX7_resetCutout 23 = .ok (.invokevirtual 84, 3) := by decide +kernel
theorem dX7_resetCutout_26 : decode cX7_resetCutout 26 = .ok (.aload_n 0, 1) := by decide +kernel
theorem dX7_resetCutout_27 : decode cX7_resetCutout 27 = .ok (.getfield 7, 3) := by decide +kernel
theorem dX7_resetCutout_30 : decode cX7_resetCutout 30 = .ok (.iconst 5, 1) := by decide +kernel
theorem dX7_resetCutout_31 : decode cX7_resetCutout 31 = .ok (.iaload, 1) := by decide +kernel
theorem dX7_resetCutout_32 : decode cX7_resetCutout 32 = .ok (.if_icmp .le 6, 3) := by decide +kernel
theorem dX7_resetCutout_35 : decode cX7_resetCutout 35 = .ok (.ldc 34, 2) := by decide +kernel
theorem dX7_resetCutout_37 : decode cX7_resetCutout 37 = .ok (.ireturn, 1) := by decide +kernel
theorem dX7_resetCutout_38 : decode cX7_resetCutout 38 = .ok (.aload_n 0, 1) := by decide +kernel
theorem dX7_resetCutout_39 : decode cX7_resetCutout 39 = .ok (.invokevirtual 48, 3) := by decide +kernel
theorem dX7_resetCutout_42 : decode cX7_resetCutout 42 = .ok (.aload_n 0, 1) := by decide +kernel
theorem dX7_resetCutout_43 : decode cX7_resetCutout 43 = .ok (.iload_n 1, 1) := by decide +kernel
theorem dX7_resetCutout_44 : decode cX7_resetCutout 44 = .ok (.bipush 14, 2) := by decide +kernel
theorem dX7_resetCutout_46 : decode cX7_resetCutout 46 = .ok (.iconst 0, 1) := by decide +kernel
theorem dX7_resetCutout_47 : decode cX7_resetCutout 47 = .ok (.invokevirtual 51, 3) := by decide +kernel
theorem dX7_resetCutout_50 : decode cX7_resetCutout 50 = .ok (.aload_n 0, 1) := by decide +kernel
theorem dX7_resetCutout_51 : decode cX7_resetCutout 51 = .ok (.iload_n 1, 1) := by decide +kernel
theorem dX7_resetCutout_52 : decode cX7_resetCutout 52 = .ok (.invokevirtual 84, 3) := by decide +kernel
theorem dX7_resetCutout_55 : decode cX7_resetCutout 55 = .ok (.ireturn, 1) := by decide +kernel
theorem dX7_room_0 : decode cX7_room 0 = .ok (.aload_n 0, 1) := by decide +kernel
theorem dX7_room_1 : decode cX7_room 1 = .ok (.iload_n 1, 1) := by decide +kernel
theorem dX7_room_2 : decode cX7_room 2 = .ok (.invokevirtual 56, 3) := by decide +kernel
theorem dX7_room_5 : decode cX7_room 5 = .ok (.ifCond .eq 13, 3) := by decide +kernel
theorem dX7_room_8 : decode cX7_room 8 = .ok (.iload_n 2, 1) := by decide +kernel
theorem dX7_room_9 : decode cX7_room 9 = .ok (.iconst 0, 1) := by decide +kernel
theorem dX7_room_10 : decode cX7_room 10 = .ok (.bipush 13, 2) := by decide +kernel
theorem dX7_room_12 : decode cX7_room 12 = .ok (.invokestatic 35, 3) := by decide +kernel
theorem dX7_room_15 : decode cX7_room 15 = .ok (.ifCond .ne 6, 3) := by decide +kernel
theorem dX7_room_18 : decode cX7_room 18 = .ok (.ldc 46, 2) := by decide +kernel
theorem dX7_room_20 : decode cX7_room 20 = .ok (.ireturn, 1) := by decide +kernel
theorem dX7_room_21 : decode cX7_room 21 = .ok (.iload_n 2, 1) := by decide +kernel
theorem dX7_room_22 : decode cX7_room 22 = .ok (.lookupswitch 69 #[(0, 42), (1, 48), (12, 55), (13, 62)], 42) := by decide +kernel
theorem dX7_room_64 : decode cX7_room 64 = .ok (.aload_n 0, 1) := by decide +kernel
theorem dX7_room_65 : decode cX7_room 65 = .ok (.iload_n 1, 1) := by decide +kernel
theorem dX7_room_66 : decode cX7_room 66 = .ok (.invokevirtual 84, 3) := by decide +kernel
theorem dX7_room_69 : decode cX7_room 69 = .ok (.ireturn, 1) := by decide +kernel
theorem dX7_room_70 : decode cX7_room 70 = .ok (.aload_n 0, 1) := by decide +kernel
theorem dX7_room_71 : decode cX7_room 71 = .ok (.iload_n 1, 1) := by decide +kernel
theorem dX7_room_72 : decode cX7_room 72 = .ok (.iconst 1, 1) := by decide +kernel
theorem dX7_room_73 : decode cX7_room 73 = .ok (.invokevirtual 39, 3) := by decide +kernel
theorem dX7_room_76 : decode cX7_room 76 = .ok (.ireturn, 1) := by decide +kernel
theorem dX7_room_77 : decode cX7_room 77 = .ok (.aload_n 0, 1) := by decide +kernel
theorem dX7_room_78 : decode cX7_room 78 = .ok (.iload_n 1, 1) := by decide +kernel
theorem dX7_room_79 : decode cX7_room 79 = .ok (.iconst 4, 1) := by decide +kernel
theorem dX7_room_80 : decode cX7_room 80 = .ok (.invokevirtual 39, 3) := by decide +kernel
theorem dX7_room_83 : decode cX7_room 83 = .ok (.ireturn, 1) := by decide +kernel
theorem dX7_room_84 : decode cX7_room 84 = .ok (.aload_n 0, 1) := by decide +kernel
theorem dX7_room_85 : decode cX7_room 85 = .ok (.iload_n 1, 1) := by decide +kernel
theorem dX7_room_86 : decode cX7_room 86 = .ok (.iconst 5, 1) := by decide +kernel
theorem dX7_room_87 : decode cX7_room 87 = .ok (.invokevirtual 39, 3) := by decide +kernel
theorem dX7_room_90 : decode cX7_room 90 = .ok (.ireturn, 1) := by decide +kernel
theorem dX7_room_91 : decode cX7_room 91 = .ok (.aload_n 0, 1) := by decide +kernel
theorem dX7_room_92 : decode cX7_room 92 = .ok (.iload_n 1, 1) := by decide +kernel
theorem dX7_room_93 : decode cX7_room 93 = .ok (.bipush 6, 2) := by decide +kernel
theorem dX7_room_95 : decode cX7_room 95 = .ok (.iload_n 2, 1) := by decide +kernel
theorem dX7_room_96 : decode cX7_room 96 = .ok (.iadd, 1) := by decide +kernel
theorem dX7_room_97 : decode cX7_room 97 = .ok (.iconst 2, 1) := by decide +kernel
theorem dX7_room_98 : decode cX7_room 98 = .ok (.isub, 1) := by decide +kernel
theorem dX7_room_99 : decode cX7_room 99 = .ok (.invokevirtual 39, 3) := by decide +kernel
theorem dX7_room_102 : decode cX7_room 102 = .ok (.ireturn, 1) := by decide +kernel
theorem dX7_book_0 : decode cX7_book 0 = .ok (.aload_n 0, 1) := by decide +kernel
theorem dX7_book_1 : decode cX7_book 1 = .ok (.iload_n 1, 1) := by decide +kernel
theorem dX7_book_2 : decode cX7_book 2 = .ok (.invokevirtual 56, 3) := by decide +kernel
theorem dX7_book_5 : decode cX7_book 5 = .ok (.ifCond .eq 12, 3) := by decide +kernel
theorem dX7_book_8 : decode cX7_book 8 = .ok (.iload_n 2, 1) := by decide +kernel
theorem dX7_book_9 : decode cX7_book 9 = .ok (.iconst 0, 1) := by decide +kernel
theorem dX7_book_10 : decode cX7_book 10 = .ok (.iconst 4, 1) := by decide +kernel
theorem dX7_book_11 : decode cX7_book 11 = .ok (.invokestatic 35, 3) := by decide +kernel
theorem dX7_book_14 : decode cX7_book 14 = .ok (.ifCond .ne 8, 3) := by decide +kernel
theorem dX7_book_17 : decode cX7_book 17 = .ok (.ldc 46, 2) := by decide +kernel
theorem dX7_book_19 : decode cX7_book 19 = .ok (.goto 12, 3) := by decide +kernel
theorem dX7_book_22 : decode cX7_book 22 = .ok (.aload_n 0, 1) := by decide +kernel
theorem dX7_book_23 : decode cX7_book 23 = .ok (.iload_n 1, 1) := by decide +kernel
theorem dX7_book_24 : decode cX7_book 24 = .ok (.bipush 16, 2) := by decide +kernel
theorem dX7_book_26 : decode cX7_book 26 = .ok (.iload_n 2, 1) := by decide +kernel
theorem dX7_book_27 : decode cX7_book 27 = .ok (.iadd, 1) := by decide +kernel
theorem dX7_book_28 : decode cX7_book 28 = .ok (.invokevirtual 39, 3) := by decide +kernel
theorem dX7_book_31 : decode cX7_book 31 = .ok (.ireturn, 1) := by decide +kernel
theorem dX7_isSuspect_0 : decode cX7_isSuspect 0 = .ok (.aload_n 0, 1) := by decide +kernel
theorem dX7_isSuspect_1 : decode cX7_isSuspect 1 = .ok (.iload_n 1, 1) := by decide +kernel
theorem dX7_isSuspect_2 : decode cX7_isSuspect 2 = .ok (.bipush 13, 2) := by decide +kernel
theorem dX7_isSuspect_4 : decode cX7_isSuspect 4 = .ok (.invokevirtual 39, 3) := by decide +kernel
theorem dX7_isSuspect_7 : decode cX7_isSuspect 7 = .ok (.aload_n 0, 1) := by decide +kernel
theorem dX7_isSuspect_8 : decode cX7_isSuspect 8 = .ok (.getfield 7, 3) := by decide +kernel
theorem dX7_isSuspect_11 : decode cX7_isSuspect 11 = .ok (.bipush 6, 2) := by decide +kernel
theorem dX7_isSuspect_13 : decode cX7_isSuspect 13 = .ok (.iaload, 1) := by decide +kernel
theorem dX7_isSuspect_14 : decode cX7_isSuspect 14 = .ok (.if_icmp .lt 7, 3) := by decide +kernel
theorem dX7_isSuspect_17 : decode cX7_isSuspect 17 = .ok (.iconst 1, 1) := by decide +kernel
theorem dX7_isSuspect_18 : decode cX7_isSuspect 18 = .ok (.goto 4, 3) := by decide +kernel
theorem dX7_isSuspect_21 : decode cX7_isSuspect 21 = .ok (.iconst 0, 1) := by decide +kernel
theorem dX7_isSuspect_22 : decode cX7_isSuspect 22 = .ok (.ireturn, 1) := by decide +kernel
theorem dX7_count_0 : decode cX7_count 0 = .ok (.iconst 0, 1) := by decide +kernel
theorem dX7_count_1 : decode cX7_count 1 = .ok (.istore_n 2, 1) := by decide +kernel
theorem dX7_count_2 : decode cX7_count 2 = .ok (.iload_n 1, 1) := by decide +kernel
theorem dX7_count_3 : decode cX7_count 3 = .ok (.tableswitch 107 10 13 #[29, 66, 97, 102], 29) := by decide +kernel
theorem dX7_count_32 : decode cX7_count 32 = .ok (.iconst 0, 1) := by decide +kernel
theorem dX7_count_33 : decode cX7_count 33 = .ok (.istore_n 3, 1) := by decide +kernel
theorem dX7_count_34 : decode cX7_count 34 = .ok (.iload_n 3, 1) := by decide +kernel
theorem dX7_count_35 : decode cX7_count 35 = .ok (.aload_n 0, 1) := by decide +kernel
theorem dX7_count_36 : decode cX7_count 36 = .ok (.getfield 7, 3) := by decide +kernel
theorem dX7_count_39 : decode cX7_count 39 = .ok (.bipush 7, 2) := by decide +kernel
theorem dX7_count_41 : decode cX7_count 41 = .ok (.iaload, 1) := by decide +kernel
theorem dX7_count_42 : decode cX7_count 42 = .ok (.if_icmp .ge 25, 3) := by decide +kernel
theorem dX7_count_45 : decode cX7_count 45 = .ok (.iload_n 2, 1) := by decide +kernel
theorem dX7_count_46 : decode cX7_count 46 = .ok (.aload_n 0, 1) := by decide +kernel
theorem dX7_count_47 : decode cX7_count 47 = .ok (.iload_n 3, 1) := by decide +kernel
theorem dX7_count_48 : decode cX7_count 48 = .ok (.invokevirtual 87, 3) := by decide +kernel
theorem dX7_count_51 : decode cX7_count 51 = .ok (.ifCond .eq 7, 3) := by decide +kernel
theorem dX7_count_54 : decode cX7_count 54 = .ok (.iconst 1, 1) := by decide +kernel
theorem dX7_count_55 : decode cX7_count 55 = .ok (.goto 4, 3) := by decide +kernel
theorem dX7_count_58 : decode cX7_count 58 = .ok (.iconst 0, 1) := by decide +kernel
theorem dX7_count_59 : decode cX7_count 59 = .ok (.iadd, 1) := by decide +kernel
theorem dX7_count_60 : decode cX7_count 60 = .ok (.istore_n 2, 1) := by decide +kernel
theorem dX7_count_61 : decode cX7_count 61 = .ok (.iinc 3 1, 3) := by decide +kernel
theorem dX7_count_64 : decode cX7_count 64 = .ok (.goto (-30), 3) := by decide +kernel
theorem dX7_count_67 : decode cX7_count 67 = .ok (.iload_n 2, 1) := by decide +kernel
theorem dX7_count_68 : decode cX7_count 68 = .ok (.ireturn, 1) := by decide +kernel
theorem dX7_count_69 : decode cX7_count 69 = .ok (.iconst 0, 1) := by decide +kernel
theorem dX7_count_70 : decode cX7_count 70 = .ok (.istore_n 3, 1) := by decide +kernel
theorem dX7_count_71 : decode cX7_count 71 = .ok (.iload_n 3, 1) := by decide +kernel
theorem dX7_count_72 : decode cX7_count 72 = .ok (.aload_n 0, 1) := by decide +kernel
theorem dX7_count_73 : decode cX7_count 73 = .ok (.getfield 7, 3) := by decide +kernel
theorem dX7_count_76 : decode cX7_count 76 = .ok (.bipush 7, 2) := by decide +kernel
theorem dX7_count_78 : decode cX7_count 78 = .ok (.iaload, 1) := by decide +kernel
theorem dX7_count_79 : decode cX7_count 79 = .ok (.if_icmp .ge 19, 3) := by decide +kernel
theorem dX7_count_82 : decode cX7_count 82 = .ok (.iload_n 2, 1) := by decide +kernel
theorem dX7_count_83 : decode cX7_count 83 = .ok (.aload_n 0, 1) := by decide +kernel
theorem dX7_count_84 : decode cX7_count 84 = .ok (.iload_n 3, 1) := by decide +kernel
theorem dX7_count_85 : decode cX7_count 85 = .ok (.bipush 12, 2) := by decide +kernel
theorem dX7_count_87 : decode cX7_count 87 = .ok (.invokevirtual 39, 3) := by decide +kernel
theorem dX7_count_90 : decode cX7_count 90 = .ok (.iadd, 1) := by decide +kernel
theorem dX7_count_91 : decode cX7_count 91 = .ok (.istore_n 2, 1) := by decide +kernel
theorem dX7_count_92 : decode cX7_count 92 = .ok (.iinc 3 1, 3) := by decide +kernel
theorem dX7_count_95 : decode cX7_count 95 = .ok (.goto (-24), 3) := by decide +kernel
theorem dX7_count_98 : decode cX7_count 98 = .ok (.iload_n 2, 1) := by decide +kernel
theorem dX7_count_99 : decode cX7_count 99 = .ok (.ireturn, 1) := by decide +kernel
theorem dX7_count_100 : decode cX7_count 100 = .ok (.aload_n 0, 1) := by decide +kernel
theorem dX7_count_101 : decode cX7_count 101 = .ok (.getfield 90, 3) := by decide +kernel
theorem dX7_count_104 : decode cX7_count 104 = .ok (.ireturn, 1) := by decide +kernel
theorem dX7_count_105 : decode cX7_count 105 = .ok (.aload_n 0, 1) := by decide +kernel
theorem dX7_count_106 : decode cX7_count 106 = .ok (.getfield 30, 3) := by decide +kernel
theorem dX7_count_109 : decode cX7_count 109 = .ok (.ireturn, 1) := by decide +kernel
theorem dX7_count_110 : decode cX7_count 110 = .ok (.iload_n 1, 1) := by decide +kernel
theorem dX7_count_111 : decode cX7_count 111 = .ok (.iconst 0, 1) := by decide +kernel
theorem dX7_count_112 : decode cX7_count 112 = .ok (.bipush 9, 2) := by decide +kernel
theorem dX7_count_114 : decode cX7_count 114 = .ok (.invokestatic 35, 3) := by decide +kernel
theorem dX7_count_117 : decode cX7_count 117 = .ok (.ifCond .eq 12, 3) := by decide +kernel
theorem dX7_count_120 : decode cX7_count 120 = .ok (.aload_n 0, 1) := by decide +kernel
theorem dX7_count_121 : decode cX7_count 121 = .ok (.getfield 7, 3) := by decide +kernel
theorem dX7_count_124 : decode cX7_count 124 = .ok (.iload_n 1, 1) := by decide +kernel
theorem dX7_count_125 : decode cX7_count 125 = .ok (.iaload, 1) := by decide +kernel
theorem dX7_count_126 : decode cX7_count 126 = .ok (.goto 5, 3) := by decide +kernel
theorem dX7_count_129 : decode cX7_count 129 = .ok (.ldc 46, 2) := by decide +kernel
theorem dX7_count_131 : decode cX7_count 131 = .ok (.ireturn, 1) := by decide +kernel
theorem dX7_appendCharacter_0 : decode cX7_appendCharacter 0 = .ok (.iload_n 1, 1) := by decide +kernel
theorem dX7_appendCharacter_1 : decode cX7_appendCharacter 1 = .ok (.iconst 0, 1) := by decide +kernel
theorem dX7_appendCharacter_2 : decode cX7_appendCharacter 2 = .ok (.sipush 255, 3) := by decide +kernel
theorem dX7_appendCharacter_5 : decode cX7_appendCharacter 5 = .ok (.invokestatic 35, 3) := by decide +kernel
theorem dX7_appendCharacter_8 : decode cX7_appendCharacter 8 = .ok (.ifCond .ne 6, 3) := by decide +kernel
theorem dX7_appendCharacter_11 : decode cX7_appendCharacter 11 = .ok (.ldc 46, 2) := by decide +kernel
theorem dX7_appendCharacter_13 : decode cX7_appendCharacter 13 = .ok (.ireturn, 1) := by decide +kernel
theorem dX7_appendCharacter_14 : decode cX7_appendCharacter 14 = .ok (.aload_n 0, 1) := by decide +kernel
theorem dX7_appendCharacter_15 : decode cX7_appendCharacter 15 = .ok (.getfield 90, 3) := by decide +kernel
theorem dX7_appendCharacter_18 : decode cX7_appendCharacter 18 = .ok (.bipush 100, 2) := by decide +kernel
theorem dX7_appendCharacter_20 : decode cX7_appendCharacter 20 = .ok (.if_icmp .ne 6, 3) := by decide +kernel
theorem dX7_appendCharacter_23 : decode cX7_appendCharacter 23 = .ok (.ldc 47, 2) := by decide +kernel
theorem dX7_appendCharacter_25 : decode cX7_appendCharacter 25 = .ok (.ireturn, 1) := by decide +kernel
theorem dX7_appendCharacter_26 : decode cX7_appendCharacter 26 = .ok (.aload_n 0, 1) := by decide +kernel
theorem dX7_appendCharacter_27 : decode cX7_appendCharacter 27 = .ok (.getfield 16, 3) := by decide +kernel
theorem dX7_appendCharacter_30 : decode cX7_appendCharacter 30 = .ok (.aload_n 0, 1) := by decide +kernel
theorem dX7_appendCharacter_31 : decode cX7_appendCharacter 31 = .ok (.getfield 90, 3) := by decide +kernel
theorem dX7_appendCharacter_34 : decode cX7_appendCharacter 34 = .ok (.iload_n 1, 1) := by decide +kernel
theorem dX7_appendCharacter_35 : decode cX7_appendCharacter 35 = .ok (.i2b, 1) := by decide +kernel
theorem dX7_appendCharacter_36 : decode cX7_appendCharacter 36 = .ok (.bastore, 1) := by decide +kernel
theorem dX7_appendCharacter_37 : decode cX7_appendCharacter 37 = .ok (.aload_n 0, 1) := by decide +kernel
theorem dX7_appendCharacter_38 : decode cX7_appendCharacter 38 = .ok (.dup, 1) := by decide +kernel
theorem dX7_appendCharacter_39 : decode cX7_appendCharacter 39 = .ok (.getfield 90, 3) := by decide +kernel
theorem dX7_appendCharacter_42 : decode cX7_appendCharacter 42 = .ok (.iconst 1, 1) := by decide +kernel
theorem dX7_appendCharacter_43 : decode cX7_appendCharacter 43 = .ok (.iadd, 1) := by decide +kernel
theorem dX7_appendCharacter_44 : decode cX7_appendCharacter 44 = .ok (.putfield 90, 3) := by decide +kernel
theorem dX7_appendCharacter_47 : decode cX7_appendCharacter 47 = .ok (.aload_n 0, 1) := by decide +kernel
theorem dX7_appendCharacter_48 : decode cX7_appendCharacter 48 = .ok (.getfield 90, 3) := by decide +kernel
theorem dX7_appendCharacter_51 : decode cX7_appendCharacter 51 = .ok (.ireturn, 1) := by decide +kernel
theorem dX7_clearText_0 : decode cX7_clearText 0 = .ok (.aload_n 0, 1) := by decide +kernel
theorem dX7_clearText_1 : decode cX7_clearText 1 = .ok (.getfield 90, 3) := by decide +kernel
theorem dX7_clearText_4 : decode cX7_clearText 4 = .ok (.istore_n 1, 1) := by decide +kernel
theorem dX7_clearText_5 : decode cX7_clearText 5 = .ok (.aload_n 0, 1) := by decide +kernel
theorem dX7_clearText_6 : decode cX7_clearText 6 = .ok (.iconst 0, 1) := by decide +kernel
theorem dX7_clearText_7 : decode cX7_clearText 7 = .ok (.putfield 90, 3) := by decide +kernel
theorem dX7_clearText_10 : decode cX7_clearText 10 = .ok (.iload_n 1, 1) := by decide +kernel
theorem dX7_clearText_11 : decode cX7_clearText 11 = .ok (.ireturn, 1) := by decide +kernel
theorem dX7_here_0 : decode cX7_here 0 = .ok (.aload_n 0, 1) := by decide +kernel
theorem dX7_here_1 : decode cX7_here 1 = .ok (.getfield 93, 3) := by decide +kernel
theorem dX7_here_4 : decode cX7_here 4 = .ok (.aload_n 0, 1) := by decide +kernel
theorem dX7_here_5 : decode cX7_here 5 = .ok (.getfield 90, 3) := by decide +kernel
theorem dX7_here_8 : decode cX7_here 8 = .ok (.if_icmp .ge 30, 3) := by decide +kernel
theorem dX7_here_11 : decode cX7_here 11 = .ok (.aload_n 0, 1) := by decide +kernel
theorem dX7_here_12 : decode cX7_here 12 = .ok (.getfield 16, 3) := by decide +kernel
theorem dX7_here_15 : decode cX7_here 15 = .ok (.aload_n 0, 1) := by decide +kernel
theorem dX7_here_16 : decode cX7_here 16 = .ok (.getfield 93, 3) := by decide +kernel
theorem dX7_here_19 : decode cX7_here 19 = .ok (.baload, 1) := by decide +kernel
theorem dX7_here_20 : decode cX7_here 20 = .ok (.bipush 32, 2) := by decide +kernel
theorem dX7_here_22 : decode cX7_here 22 = .ok (.if_icmp .ne 16, 3) := by decide +kernel
theorem dX7_here_25 : decode cX7_here 25 = .ok (.aload_n 0, 1) := by decide +kernel
theorem dX7_here_26 : decode cX7_here 26 = .ok (.dup, 1) := by decide +kernel
theorem dX7_here_27 : decode cX7_here 27 = .ok (.getfield 93, 3) := by decide +kernel
theorem dX7_here_30 : decode cX7_here 30 = .ok (.iconst 1, 1) := by decide +kernel
theorem dX7_here_31 : decode cX7_here 31 = .ok (.iadd, 1) := by decide +kernel
theorem dX7_here_32 : decode cX7_here 32 = .ok (.putfield 93, 3) := by decide +kernel
theorem dX7_here_35 : decode cX7_here 35 = .ok (.goto (-35), 3) := by decide +kernel
theorem dX7_here_38 : decode cX7_here 38 = .ok (.aload_n 0, 1) := by decide +kernel
theorem dX7_here_39 : decode cX7_here 39 = .ok (.getfield 93, 3) := by decide +kernel
theorem dX7_here_42 : decode cX7_here 42 = .ok (.aload_n 0, 1) := by decide +kernel
theorem dX7_here_43 : decode cX7_here 43 = .ok (.getfield 90, 3) := by decide +kernel
theorem dX7_here_46 : decode cX7_here 46 = .ok (.if_icmp .ge 19, 3) := by decide +kernel
theorem dX7_here_49 : decode cX7_here 49 = .ok (.aload_n 0, 1) := by decide +kernel
theorem dX7_here_50 : decode cX7_here 50 = .ok (.getfield 16, 3) := by decide +kernel
theorem dX7_here_53 : decode cX7_here 53 = .ok (.aload_n 0, 1) := by decide +kernel
theorem dX7_here_54 : decode cX7_here 54 = .ok (.getfield 93, 3) := by decide +kernel
theorem dX7_here_57 : decode cX7_here 57 = .ok (.baload, 1) := by decide +kernel
theorem dX7_here_58 : decode cX7_here 58 = .ok (.sipush 255, 3) := by decide +kernel
theorem dX7_here_61 : decode cX7_here 61 = .ok (.iand, 1) := by decide +kernel
theorem dX7_here_62 : decode cX7_here 62 = .ok (.goto 4, 3) := by decide +kernel
theorem dX7_here_65 : decode cX7_here 65 = .ok (.iconst (-1), 1) := by decide +kernel
theorem dX7_here_66 : decode cX7_here 66 = .ok (.ireturn, 1) := by decide +kernel
theorem dX7_reads_0 : decode cX7_reads 0 = .ok (.aload_n 0, 1) := by decide +kernel
theorem dX7_reads_1 : decode cX7_reads 1 = .ok (.invokevirtual 96, 3) := by decide +kernel
theorem dX7_reads_4 : decode cX7_reads 4 = .ok (.istore 4, 2) := by decide +kernel
theorem dX7_reads_6 : decode cX7_reads 6 = .ok (.aload_n 0, 1) := by decide +kernel
theorem dX7_reads_7 : decode cX7_reads 7 = .ok (.getfield 93, 3) := by decide +kernel
theorem dX7_reads_10 : decode cX7_reads 10 = .ok (.istore 5, 2) := by decide +kernel
theorem dX7_reads_12 : decode cX7_reads 12 = .ok (.iload_n 3, 1) := by decide +kernel
theorem dX7_reads_13 : decode cX7_reads 13 = .ok (.ifCond .eq 14, 3) := by decide +kernel
theorem dX7_reads_16 : decode cX7_reads 16 = .ok (.iload 4, 2) := by decide +kernel
theorem dX7_reads_18 : decode cX7_reads 18 = .ok (.bipush 45, 2) := by decide +kernel
theorem dX7_reads_20 : decode cX7_reads 20 = .ok (.if_icmp .ne 7, 3) := by decide +kernel
theorem dX7_reads_23 : decode cX7_reads 23 = .ok (.iconst 1, 1) := by decide +kernel
theorem dX7_reads_24 : decode cX7_reads 24 = .ok (.goto 4, 3) := by decide +kernel
theorem dX7_reads_27 : decode cX7_reads 27 = .ok (.iconst 0, 1) := by decide +kernel
theorem dX7_reads_28 : decode cX7_reads 28 = .ok (.istore 6, 2) := by decide +kernel
theorem dX7_reads_30 : decode cX7_reads 30 = .ok (.aload_n 0, 1) := by decide +kernel
theorem dX7_reads_31 : decode cX7_reads 31 = .ok (.dup, 1) := by decide +kernel
theorem dX7_reads_32 : decode cX7_reads 32 = .ok (.getfield 93, 3) := by decide +kernel
theorem dX7_reads_35 : decode cX7_reads 35 = .ok (.iload 6, 2) := by decide +kernel
theorem dX7_reads_37 : decode cX7_reads 37 = .ok (.ifCond .eq 7, 3) := by decide +kernel
theorem dX7_reads_40 : decode cX7_reads 40 = .ok (.iconst 1, 1) := by decide +kernel
theorem dX7_reads_41 : decode cX7_reads 41 = .ok (.goto 4, 3) := by decide +kernel
theorem dX7_reads_44 : decode cX7_reads 44 = .ok (.iconst 0, 1) := by decide +kernel
theorem dX7_reads_45 : decode cX7_reads 45 = .ok (.iadd, 1) := by decide +kernel
theorem dX7_reads_46 : decode cX7_reads 46 = .ok (.putfield 93, 3) := by decide +kernel
theorem dX7_reads_49 : decode cX7_reads 49 = .ok (.aload_n 0, 1) := by decide +kernel
theorem dX7_reads_50 : decode cX7_reads 50 = .ok (.getfield 93, 3) := by decide +kernel
theorem dX7_reads_53 : decode cX7_reads 53 = .ok (.istore 7, 2) := by decide +kernel
theorem dX7_reads_55 : decode cX7_reads 55 = .ok (.iconst 0, 1) := by decide +kernel
theorem dX7_reads_56 : decode cX7_reads 56 = .ok (.istore 8, 2) := by decide +kernel
theorem dX7_reads_58 : decode cX7_reads 58 = .ok (.aload_n 0, 1) := by decide +kernel
theorem dX7_reads_59 : decode cX7_reads 59 = .ok (.getfield 93, 3) := by decide +kernel
theorem dX7_reads_62 : decode cX7_reads 62 = .ok (.aload_n 0, 1) := by decide +kernel
theorem dX7_reads_63 : decode cX7_reads 63 = .ok (.getfield 90, 3) := by decide +kernel
theorem dX7_reads_66 : decode cX7_reads 66 = .ok (.if_icmp .ge 67, 3) := by decide +kernel
theorem dX7_reads_69 : decode cX7_reads 69 = .ok (.aload_n 0, 1) := by decide +kernel
theorem dX7_reads_70 : decode cX7_reads 70 = .ok (.getfield 16, 3) := by decide +kernel
theorem dX7_reads_73 : decode cX7_reads 73 = .ok (.aload_n 0, 1) := by decide +kernel
theorem dX7_reads_74 : decode cX7_reads 74 = .ok (.getfield 93, 3) := by decide +kernel
theorem dX7_reads_77 : decode cX7_reads 77 = .ok (.baload, 1) := by decide +kernel
theorem dX7_reads_78 : decode cX7_reads 78 = .ok (.bipush 48, 2) := by decide +kernel
theorem dX7_reads_80 : decode cX7_reads 80 = .ok (.bipush 57, 2) := by decide +kernel
theorem dX7_reads_82 : decode cX7_reads 82 = .ok (.invokestatic 35, 3) := by decide +kernel
theorem dX7_reads_85 : decode cX7_reads 85 = .ok (.ifCond .eq 48, 3) := by decide +kernel
theorem dX7_reads_88 : decode cX7_reads 88 = .ok (.iload 8, 2) := by decide +kernel
theorem dX7_reads_90 : decode cX7_reads 90 = .ok (.ldc 100, 2) := by decide +kernel
theorem dX7_reads_92 : decode cX7_reads 92 = .ok (.if_icmp .ge 24, 3) := by decide +kernel
theorem dX7_reads_95 : decode cX7_reads 95 = .ok (.bipush 10, 2) := by decide +kernel
theorem dX7_reads_97 : decode cX7_reads 97 = .ok (.iload 8, 2) := by decide +kernel
theorem dX7_reads_99 : decode cX7_reads 99 = .ok (.imul, 1) := by decide +kernel
theorem dX7_reads_100 : decode cX7_reads 100 = .ok (.aload_n 0, 1) := by decide +kernel
theorem dX7_reads_101 : decode cX7_reads 101 = .ok (.getfield 16, 3) := by decide +kernel
theorem dX7_reads_104 : decode cX7_reads 104 = .ok (.aload_n 0, 1) := by decide +kernel
theorem dX7_reads_105 : decode cX7_reads 105 = .ok (.getfield 93, 3) := by decide +kernel
theorem dX7_reads_108 : decode cX7_reads 108 = .ok (.baload, 1) := by decide +kernel
theorem dX7_reads_109 : decode cX7_reads 109 = .ok (.iadd, 1) := by decide +kernel
theorem dX7_reads_110 : decode cX7_reads 110 = .ok (.bipush 48, 2) := by decide +kernel
theorem dX7_reads_112 : decode cX7_reads 112 = .ok (.isub, 1) := by decide +kernel
theorem dX7_reads_113 : decode cX7_reads 113 = .ok (.goto 5, 3) := by decide +kernel
theorem dX7_reads_116 : decode cX7_reads 116 = .ok (.iload 8, 2) := by decide +kernel
theorem dX7_reads_118 : decode cX7_reads 118 = .ok (.istore 8, 2) := by decide +kernel
theorem dX7_reads_120 : decode cX7_reads 120 = .ok (.aload_n 0, 1) := by decide +kernel
theorem dX7_reads_121 : decode cX7_reads 121 = .ok (.dup, 1) := by decide +kernel
theorem dX7_reads_122 : decode cX7_reads 122 = .ok (.getfield 93, 3) := by decide +kernel
theorem dX7_reads_125 : decode cX7_reads 125 = .ok (.iconst 1, 1) := by decide +kernel
theorem dX7_reads_126 : decode cX7_reads 126 = .ok (.iadd, 1) := by decide +kernel
theorem dX7_reads_127 : decode cX7_reads 127 = .ok (.putfield 93, 3) := by decide +kernel
theorem dX7_reads_130 : decode cX7_reads 130 = .ok (.goto (-72), 3) := by decide +kernel
theorem dX7_reads_133 : decode cX7_reads 133 = .ok (.aload_n 0, 1) := by decide +kernel
theorem dX7_reads_134 : decode cX7_reads 134 = .ok (.getfield 93, 3) := by decide +kernel
theorem dX7_reads_137 : decode cX7_reads 137 = .ok (.iload 7, 2) := by decide +kernel
theorem dX7_reads_139 : decode cX7_reads 139 = .ok (.if_icmp .ne 5, 3) := by decide +kernel
theorem dX7_reads_142 : decode cX7_reads 142 = .ok (.iconst 0, 1) := by decide +kernel
theorem dX7_reads_143 : decode cX7_reads 143 = .ok (.ireturn, 1) := by decide +kernel
theorem dX7_reads_144 : decode cX7_reads 144 = .ok (.aload_n 0, 1) := by decide +kernel
theorem dX7_reads_145 : decode cX7_reads 145 = .ok (.iload 6, 2) := by decide +kernel
theorem dX7_reads_147 : decode cX7_reads 147 = .ok (.ifCond .eq 9, 3) := by decide +kernel
theorem dX7_reads_150 : decode cX7_reads 150 = .ok (.iload 8, 2) := by decide +kernel
theorem dX7_reads_152 : decode cX7_reads 152 = .ok (.ineg, 1) := by decide +kernel
theorem dX7_reads_153 : decode cX7_reads 153 = .ok (.goto 5, 3) := by decide +kernel
theorem dX7_reads_156 : decode cX7_reads 156 = .ok (.iload 8, 2) := by decide +kernel
theorem dX7_reads_158 : decode cX7_reads 158 = .ok (.putfield 101, 3) := by decide +kernel
theorem dX7_reads_161 : decode cX7_reads 161 = .ok (.aload_n 0, 1) := by decide +kernel
theorem dX7_reads_162 : decode cX7_reads 162 = .ok (.getfield 16, 3) := by decide +kernel
theorem dX7_reads_165 : decode cX7_reads 165 = .ok (.iload 7, 2) := by decide +kernel
theorem dX7_reads_167 : decode cX7_reads 167 = .ok (.baload, 1) := by decide +kernel
theorem dX7_reads_168 : decode cX7_reads 168 = .ok (.bipush 48, 2) := by decide +kernel
theorem dX7_reads_170 : decode cX7_reads 170 = .ok (.if_icmp .ne 14, 3) := by decide +kernel
theorem dX7_reads_173 : decode cX7_reads 173 = .ok (.aload_n 0, 1) := by decide +kernel
theorem dX7_reads_174 : decode cX7_reads 174 = .ok (.getfield 93, 3) := by decide +kernel
theorem dX7_reads_177 : decode cX7_reads 177 = .ok (.iload 7, 2) := by decide +kernel
theorem dX7_reads_179 : decode cX7_reads 179 = .ok (.iconst 1, 1) := by decide +kernel
theorem dX7_reads_180 : decode cX7_reads 180 = .ok (.iadd, 1) := by decide +kernel
theorem dX7_reads_181 : decode cX7_reads 181 = .ok (.if_icmp .ne 19, 3) := by decide +kernel
theorem dX7_reads_184 : decode cX7_reads 184 = .ok (.aload_n 0, 1) := by decide +kernel
theorem dX7_reads_185 : decode cX7_reads 185 = .ok (.getfield 101, 3) := by decide +kernel
theorem dX7_reads_188 : decode cX7_reads 188 = .ok (.iload_n 1, 1) := by decide +kernel
theorem dX7_reads_189 : decode cX7_reads 189 = .ok (.iload_n 2, 1) := by decide +kernel
theorem dX7_reads_190 : decode cX7_reads 190 = .ok (.invokestatic 35, 3) := by decide +kernel
theorem dX7_reads_193 : decode cX7_reads 193 = .ok (.ifCond .eq 7, 3) := by decide +kernel
theorem dX7_reads_196 : decode cX7_reads 196 = .ok (.iconst 1, 1) := by decide +kernel
theorem dX7_reads_197 : decode cX7_reads 197 = .ok (.goto 4, 3) := by decide +kernel
theorem dX7_reads_200 : decode cX7_reads 200 = .ok (.iconst 0, 1) := by decide +kernel
theorem dX7_reads_201 : decode cX7_reads 201 = .ok (.istore 9, 2) := by decide +kernel
theorem dX7_reads_203 : decode cX7_reads 203 = .ok (.aload_n 0, 1) := by decide +kernel
theorem dX7_reads_204 : decode cX7_reads 204 = .ok (.iload 9, 2) := by decide +kernel
theorem dX7_reads_206 : decode cX7_reads 206 = .ok (.ifCond .eq 10, 3) := by decide +kernel
theorem dX7_reads_209 : decode cX7_reads 209 = .ok (.aload_n 0, 1) := by decide +kernel
theorem dX7_reads_210 : decode cX7_reads 210 = .ok (.getfield 93, 3) := by decide +kernel
theorem dX7_reads_213 : decode cX7_reads 213 = .ok (.goto 5, 3) := by decide +kernel
theorem dX7_reads_216 : decode cX7_reads 216 = .ok (.iload 5, 2) := by decide +kernel
theorem dX7_reads_218 : decode cX7_reads 218 = .ok (.putfield 93, 3) := by decide +kernel
theorem dX7_reads_221 : decode cX7_reads 221 = .ok (.iload 9, 2) := by decide +kernel
theorem dX7_reads_223 : decode cX7_reads 223 = .ok (.ireturn, 1) := by decide +kernel
theorem dX7_readsAll_0 : decode cX7_readsAll 0 = .ok (.aload_n 0, 1) := by decide +kernel
theorem dX7_readsAll_1 : decode cX7_readsAll 1 = .ok (.iconst 0, 1) := by decide +kernel
theorem dX7_readsAll_2 : decode cX7_readsAll 2 = .ok (.putfield 93, 3) := by decide +kernel
theorem dX7_readsAll_5 : decode cX7_readsAll 5 = .ok (.aload_n 0, 1) := by decide +kernel
theorem dX7_readsAll_6 : decode cX7_readsAll 6 = .ok (.iconst 0, 1) := by decide +kernel
theorem dX7_readsAll_7 : decode cX7_readsAll 7 = .ok (.putfield 104, 3) := by decide +kernel
theorem dX7_readsAll_10 : decode cX7_readsAll 10 = .ok (.aload_n 0, 1) := by decide +kernel
theorem dX7_readsAll_11 : decode cX7_readsAll 11 = .ok (.invokevirtual 96, 3) := by decide +kernel
theorem dX7_readsAll_14 : decode cX7_readsAll 14 = .ok (.ifCond .lt 7, 3) := by decide +kernel
theorem dX7_readsAll_17 : decode cX7_readsAll 17 = .ok (.iconst 1, 1) := by decide +kernel
theorem dX7_readsAll_18 : decode cX7_readsAll 18 = .ok (.goto 4, 3) := by decide +kernel
theorem dX7_readsAll_21 : decode cX7_readsAll 21 = .ok (.iconst 0, 1) := by decide +kernel
theorem dX7_readsAll_22 : decode cX7_readsAll 22 = .ok (.istore_n 1, 1) := by decide +kernel
theorem dX7_readsAll_23 : decode cX7_readsAll 23 = .ok (.iload_n 1, 1) := by decide +kernel
theorem dX7_readsAll_24 : decode cX7_readsAll 24 = .ok (.ifCond .eq 186, 3) := by decide +kernel
theorem dX7_readsAll_27 : decode cX7_readsAll 27 = .ok (.aload_n 0, 1) := by decide +kernel
theorem dX7_readsAll_28 : decode cX7_readsAll 28 = .ok (.getfield 104, 3) := by decide +kernel
theorem dX7_readsAll_31 : decode cX7_readsAll 31 = .ok (.ifCond .ne 7, 3) := by decide +kernel
theorem dX7_readsAll_34 : decode cX7_readsAll 34 = .ok (.iconst 0, 1) := by decide +kernel
theorem dX7_readsAll_35 : decode cX7_readsAll 35 = .ok (.goto 18, 3) := by decide +kernel
theorem dX7_readsAll_38 : decode cX7_readsAll 38 = .ok (.aload_n 0, 1) := by decide +kernel
theorem dX7_readsAll_39 : decode cX7_readsAll 39 = .ok (.getfield 23, 3) := by decide +kernel
theorem dX7_readsAll_42 : decode cX7_readsAll 42 = .ok (.iconst 2, 1) := by decide +kernel
theorem dX7_readsAll_43 : decode cX7_readsAll 43 = .ok (.aload_n 0, 1) := by decide +kernel
theorem dX7_readsAll_44 : decode cX7_readsAll 44 = .ok (.getfield 104, 3) := by decide +kernel
theorem dX7_readsAll_47 : decode cX7_readsAll 47 = .ok (.imul, 1) := by decide +kernel
theorem dX7_readsAll_48 : decode cX7_readsAll 48 = .ok (.iconst 2, 1) := by decide +kernel
theorem dX7_readsAll_49 : decode cX7_readsAll 49 = .ok (.isub, 1) := by decide +kernel
theorem dX7_readsAll_50 : decode cX7_readsAll 50 = .ok (.iaload, 1) := by decide +kernel
theorem dX7_readsAll_51 : decode cX7_readsAll 51 = .ok (.iconst 1, 1) := by decide +kernel
theorem dX7_readsAll_52 : decode cX7_readsAll 52 = .ok (.iadd, 1) := by decide +kernel
theorem dX7_readsAll_53 : decode cX7_readsAll 53 = .ok (.istore_n 2, 1) := by decide +kernel
theorem dX7_readsAll_54 : decode cX7_readsAll 54 = .ok (.aload_n 0, 1) := by decide +kernel
theorem dX7_readsAll_55 : decode cX7_readsAll 55 = .ok (.aload_n 0, 1) := by decide +kernel
theorem dX7_readsAll_56 : decode cX7_readsAll 56 = .ok (.getfield 104, 3) := by decide +kernel
theorem dX7_readsAll_59 : decode cX7_readsAll 59 = .ok (.bipush 12, 2) := by decide +kernel
theorem dX7_readsAll_61 : decode cX7_readsAll 61 = .ok (.if_icmp .ne 8, 3) := by decide +kernel
theorem dX7_readsAll_64 : decode cX7_readsAll 64 = .ok (.ldc 100, 2) := by decide +kernel
theorem dX7_readsAll_66 : decode cX7_readsAll 66 = .ok (.goto 4, 3) := by decide +kernel
theorem dX7_readsAll_69 : decode cX7_readsAll 69 = .ok (.iload_n 2, 1) := by decide +kernel
theorem dX7_readsAll_70 : decode cX7_readsAll 70 = .ok (.sipush 9999, 3) := by decide +kernel
theorem dX7_readsAll_73 : decode cX7_readsAll 73 = .ok (.iconst 0, 1) := by decide +kernel
theorem dX7_readsAll_74 : decode cX7_readsAll 74 = .ok (.invokevirtual 107, 3) := by decide +kernel
theorem dX7_readsAll_77 : decode cX7_readsAll 77 = .ok (.ifCond .ne 5, 3) := by decide +kernel
theorem dX7_readsAll_80 : decode cX7_readsAll 80 = .ok (.iconst 0, 1) := by decide +kernel
theorem dX7_readsAll_81 : decode cX7_readsAll 81 = .ok (.ireturn, 1) := by decide +kernel
theorem dX7_readsAll_82 : decode cX7_readsAll 82 = .ok (.aload_n 0, 1) := by decide +kernel
theorem dX7_readsAll_83 : decode cX7_readsAll 83 = .ok (.getfield 101, 3) := by decide +kernel
theorem dX7_readsAll_86 : decode cX7_readsAll 86 = .ok (.istore_n 3, 1) := by decide +kernel
theorem dX7_readsAll_87 : decode cX7_readsAll 87 = .ok (.aload_n 0, 1) := by decide +kernel
theorem dX7_readsAll_88 : decode cX7_readsAll 88 = .ok (.invokevirtual 96, 3) := by decide +kernel
theorem dX7_readsAll_91 : decode cX7_readsAll 91 = .ok (.bipush 61, 2) := by decide +kernel
theorem dX7_readsAll_93 : decode cX7_readsAll 93 = .ok (.if_icmp .eq 5, 3) := by decide +kernel
theorem dX7_readsAll_96 : decode cX7_readsAll 96 = .ok (.iconst 0, 1) := by decide +kernel
theorem dX7_readsAll_97 : decode cX7_readsAll 97 = .ok (.ireturn, 1) := by decide +kernel
theorem dX7_readsAll_98 : decode cX7_readsAll 98 = .ok (.aload_n 0, 1) := by decide +kernel
theorem dX7_readsAll_99 : decode cX7_readsAll 99 = .ok (.dup, 1) := by decide +kernel
theorem dX7_readsAll_100 : decode cX7_readsAll 100 = .ok (.getfield 93, 3) := by decide +kernel
theorem dX7_readsAll_103 : decode cX7_readsAll 103 = .ok (.iconst 1, 1) := by decide +kernel
theorem dX7_readsAll_104 : decode cX7_readsAll 104 = .ok (.iadd, 1) := by decide +kernel
theorem dX7_readsAll_105 : decode cX7_readsAll 105 = .ok (.putfield 93, 3) := by decide +kernel
theorem dX7_readsAll_108 : decode cX7_readsAll 108 = .ok (.aload_n 0, 1) := by decide +kernel
theorem dX7_readsAll_109 : decode cX7_readsAll 109 = .ok (.bipush (-40), 2) := by decide +kernel
theorem dX7_readsAll_111 : decode cX7_readsAll 111 = .ok (.bipush 40, 2) := by decide +kernel
theorem dX7_readsAll_113 : decode cX7_readsAll 113 = .ok (.iconst 1, 1) := by decide +kernel
theorem dX7_readsAll_114 : decode cX7_readsAll 114 = .ok (.invokevirtual 107, 3) := by decide +kernel
theorem dX7_readsAll_117 : decode cX7_readsAll 117 = .ok (.ifCond .ne 5, 3) := by decide +kernel
theorem dX7_readsAll_120 : decode cX7_readsAll 120 = .ok (.iconst 0, 1) := by decide +kernel
theorem dX7_readsAll_121 : decode cX7_readsAll 121 = .ok (.ireturn, 1) := by decide +kernel
theorem dX7_readsAll_122 : decode cX7_readsAll 122 = .ok (.aload_n 0, 1) := by decide +kernel
theorem dX7_readsAll_123 : decode cX7_readsAll 123 = .ok (.getfield 23, 3) := by decide +kernel
theorem dX7_readsAll_126 : decode cX7_readsAll 126 = .ok (.iconst 2, 1) := by decide +kernel
theorem dX7_readsAll_127 : decode cX7_readsAll 127 = .ok (.aload_n 0, 1) := by decide +kernel
theorem dX7_readsAll_128 : decode cX7_readsAll 128 = .ok (.getfield 104, 3) := by decide +kernel
theorem dX7_readsAll_131 : decode cX7_readsAll 131 = .ok (.imul, 1) := by decide +kernel
theorem dX7_readsAll_132 : decode cX7_readsAll 132 = .ok (.iload_n 3, 1) := by decide +kernel
theorem dX7_readsAll_133 : decode cX7_readsAll 133 = .ok (.iastore, 1) := by decide +kernel
theorem dX7_readsAll_134 : decode cX7_readsAll 134 = .ok (.aload_n 0, 1) := by decide +kernel
theorem dX7_readsAll_135 : decode cX7_readsAll 135 = .ok (.getfield 23, 3) := by decide +kernel
theorem dX7_readsAll_138 : decode cX7_readsAll 138 = .ok (.iconst 2, 1) := by decide +kernel
theorem dX7_readsAll_139 : decode cX7_readsAll 139 = .ok (.aload_n 0, 1) := by decide +kernel
theorem dX7_readsAll_140 : decode cX7_readsAll 140 = .ok (.getfield 104, 3) := by decide +kernel
theorem dX7_readsAll_143 : decode cX7_readsAll 143 = .ok (.imul, 1) := by decide +kernel
theorem dX7_readsAll_144 : decode cX7_readsAll 144 = .ok (.iconst 1, 1) := by decide +kernel
theorem dX7_readsAll_145 : decode cX7_readsAll 145 = .ok (.iadd, 1) := by decide +kernel
theorem dX7_readsAll_146 : decode cX7_readsAll 146 = .ok (.aload_n 0, 1) := by decide +kernel
theorem dX7_readsAll_147 : decode cX7_readsAll 147 = .ok (.getfield 101, 3) := by decide +kernel
theorem dX7_readsAll_150 : decode cX7_readsAll 150 = .ok (.iastore, 1) := by decide +kernel
theorem dX7_readsAll_151 : decode cX7_readsAll 151 = .ok (.aload_n 0, 1) := by decide +kernel
theorem dX7_readsAll_152 : decode cX7_readsAll 152 = .ok (.dup, 1) := by decide +kernel
theorem dX7_readsAll_153 : decode cX7_readsAll 153 = .ok (.getfield 104, 3) := by decide +kernel
theorem dX7_readsAll_156 : decode cX7_readsAll 156 = .ok (.iconst 1, 1) := by decide +kernel
theorem dX7_readsAll_157 : decode cX7_readsAll 157 = .ok (.iadd, 1) := by decide +kernel
theorem dX7_readsAll_158 : decode cX7_readsAll 158 = .ok (.putfield 104, 3) := by decide +kernel
theorem dX7_readsAll_161 : decode cX7_readsAll 161 = .ok (.aload_n 0, 1) := by decide +kernel
theorem dX7_readsAll_162 : decode cX7_readsAll 162 = .ok (.invokevirtual 96, 3) := by decide +kernel
theorem dX7_readsAll_165 : decode cX7_readsAll 165 = .ok (.ifCond .lt 7, 3) := by decide +kernel
theorem dX7_readsAll_168 : decode cX7_readsAll 168 = .ok (.iconst 1, 1) := by decide +kernel
theorem dX7_readsAll_169 : decode cX7_readsAll 169 = .ok (.goto 4, 3) := by decide +kernel
theorem dX7_readsAll_172 : decode cX7_readsAll 172 = .ok (.iconst 0, 1) := by decide +kernel
theorem dX7_readsAll_173 : decode cX7_readsAll 173 = .ok (.istore_n 1, 1) := by decide +kernel
theorem dX7_readsAll_174 : decode cX7_readsAll 174 = .ok (.iload_n 1, 1) := by decide +kernel
theorem dX7_readsAll_175 : decode cX7_readsAll 175 = .ok (.ifCond .eq 14, 3) := by decide +kernel
theorem dX7_readsAll_178 : decode cX7_readsAll 178 = .ok (.aload_n 0, 1) := by decide +kernel
theorem dX7_readsAll_179 : decode cX7_readsAll 179 = .ok (.invokevirtual 96, 3) := by decide +kernel
theorem dX7_readsAll_182 : decode cX7_readsAll 182 = .ok (.bipush 59, 2) := by decide +kernel
theorem dX7_readsAll_184 : decode cX7_readsAll 184 = .ok (.if_icmp .eq 5, 3) := by decide +kernel
theorem dX7_readsAll_187 : decode cX7_readsAll 187 = .ok (.iconst 0, 1) := by decide +kernel
theorem dX7_readsAll_188 : decode cX7_readsAll 188 = .ok (.ireturn, 1) := by decide +kernel
theorem dX7_readsAll_189 : decode cX7_readsAll 189 = .ok (.aload_n 0, 1) := by decide +kernel
theorem dX7_readsAll_190 : decode cX7_readsAll 190 = .ok (.dup, 1) := by decide +kernel
theorem dX7_readsAll_191 : decode cX7_readsAll 191 = .ok (.getfield 93, 3) := by decide +kernel
theorem dX7_readsAll_194 : decode cX7_readsAll 194 = .ok (.iload_n 1, 1) := by decide +kernel
theorem dX7_readsAll_195 : decode cX7_readsAll 195 = .ok (.ifCond .eq 7, 3) := by decide +kernel
theorem dX7_readsAll_198 : decode cX7_readsAll 198 = .ok (.iconst 1, 1) := by decide +kernel
theorem dX7_readsAll_199 : decode cX7_readsAll 199 = .ok (.goto 4, 3) := by decide +kernel
theorem dX7_readsAll_202 : decode cX7_readsAll 202 = .ok (.iconst 0, 1) := by decide +kernel
theorem dX7_readsAll_203 : decode cX7_readsAll 203 = .ok (.iadd, 1) := by decide +kernel
theorem dX7_readsAll_204 : decode cX7_readsAll 204 = .ok (.putfield 93, 3) := by decide +kernel
theorem dX7_readsAll_207 : decode cX7_readsAll 207 = .ok (.goto (-184), 3) := by decide +kernel
theorem dX7_readsAll_210 : decode cX7_readsAll 210 = .ok (.iconst 1, 1) := by decide +kernel
theorem dX7_readsAll_211 : decode cX7_readsAll 211 = .ok (.ireturn, 1) := by decide +kernel
theorem dX7_load_0 : decode cX7_load 0 = .ok (.aload_n 0, 1) := by decide +kernel
theorem dX7_load_1 : decode cX7_load 1 = .ok (.invokevirtual 111, 3) := by decide +kernel
theorem dX7_load_4 : decode cX7_load 4 = .ok (.ifCond .ne 11, 3) := by decide +kernel
theorem dX7_load_7 : decode cX7_load 7 = .ok (.bipush (-10), 2) := by decide +kernel
theorem dX7_load_9 : decode cX7_load 9 = .ok (.aload_n 0, 1) := by decide +kernel
theorem dX7_load_10 : decode cX7_load 10 = .ok (.getfield 93, 3) := by decide +kernel
theorem dX7_load_13 : decode cX7_load 13 = .ok (.isub, 1) := by decide +kernel
theorem dX7_load_14 : decode cX7_load 14 = .ok (.ireturn, 1) := by decide +kernel
theorem dX7_load_15 : decode cX7_load 15 = .ok (.aload_n 0, 1) := by decide +kernel
theorem dX7_load_16 : decode cX7_load 16 = .ok (.invokevirtual 48, 3) := by decide +kernel
theorem dX7_load_19 : decode cX7_load 19 = .ok (.aload_n 0, 1) := by decide +kernel
theorem dX7_load_20 : decode cX7_load 20 = .ok (.getfield 7, 3) := by decide +kernel
theorem dX7_load_23 : decode cX7_load 23 = .ok (.bipush 9, 2) := by decide +kernel
theorem dX7_load_25 : decode cX7_load 25 = .ok (.aload_n 0, 1) := by decide +kernel
theorem dX7_load_26 : decode cX7_load 26 = .ok (.getfield 104, 3) := by decide +kernel
theorem dX7_load_29 : decode cX7_load 29 = .ok (.iastore, 1) := by decide +kernel
theorem dX7_load_30 : decode cX7_load 30 = .ok (.iconst 0, 1) := by decide +kernel
theorem dX7_load_31 : decode cX7_load 31 = .ok (.istore_n 1, 1) := by decide +kernel
theorem dX7_load_32 : decode cX7_load 32 = .ok (.iload_n 1, 1) := by decide +kernel
theorem dX7_load_33 : decode cX7_load 33 = .ok (.bipush 24, 2) := by decide +kernel
theorem dX7_load_35 : decode cX7_load 35 = .ok (.if_icmp .ge 38, 3) := by decide +kernel
theorem dX7_load_38 : decode cX7_load 38 = .ok (.aload_n 0, 1) := by decide +kernel
theorem dX7_load_39 : decode cX7_load 39 = .ok (.getfield 7, 3) := by decide +kernel
theorem dX7_load_42 : decode cX7_load 42 = .ok (.bipush 10, 2) := by decide +kernel
theorem dX7_load_44 : decode cX7_load 44 = .ok (.iload_n 1, 1) := by decide +kernel
theorem dX7_load_45 : decode cX7_load 45 = .ok (.iadd, 1) := by decide +kernel
theorem dX7_load_46 : decode cX7_load 46 = .ok (.iload_n 1, 1) := by decide +kernel
theorem dX7_load_47 : decode cX7_load 47 = .ok (.iconst 2, 1) := by decide +kernel
theorem dX7_load_48 : decode cX7_load 48 = .ok (.aload_n 0, 1) := by decide +kernel
theorem dX7_load_49 : decode cX7_load 49 = .ok (.getfield 104, 3) := by decide +kernel
theorem dX7_load_52 : decode cX7_load 52 = .ok (.imul, 1) := by decide +kernel
theorem dX7_load_53 : decode cX7_load 53 = .ok (.if_icmp .ge 12, 3) := by decide +kernel
theorem dX7_load_56 : decode cX7_load 56 = .ok (.aload_n 0, 1) := by decide +kernel
theorem dX7_load_57 : decode cX7_load 57 = .ok (.getfield 23, 3) := by decide +kernel
theorem dX7_load_60 : decode cX7_load 60 = .ok (.iload_n 1, 1) := by decide +kernel
theorem dX7_load_61 : decode cX7_load 61 = .ok (.iaload, 1) := by decide +kernel
theorem dX7_load_62 : decode cX7_load 62 = .ok (.goto 4, 3) := by decide +kernel
theorem dX7_load_65 : decode cX7_load 65 = .ok (.iconst 0, 1) := by decide +kernel
theorem dX7_load_66 : decode cX7_load 66 = .ok (.iastore, 1) := by decide +kernel
theorem dX7_load_67 : decode cX7_load 67 = .ok (.iinc 1 1, 3) := by decide +kernel
theorem dX7_load_70 : decode cX7_load 70 = .ok (.goto (-38), 3) := by decide +kernel
theorem dX7_load_73 : decode cX7_load 73 = .ok (.aload_n 0, 1) := by decide +kernel
theorem dX7_load_74 : decode cX7_load 74 = .ok (.iconst 0, 1) := by decide +kernel
theorem dX7_load_75 : decode cX7_load 75 = .ok (.putfield 90, 3) := by decide +kernel
theorem dX7_load_78 : decode cX7_load 78 = .ok (.aload_n 0, 1) := by decide +kernel
theorem dX7_load_79 : decode cX7_load 79 = .ok (.getfield 104, 3) := by decide +kernel
theorem dX7_load_82 : decode cX7_load 82 = .ok (.ireturn, 1) := by decide +kernel
theorem dX7_air_0 : decode cX7_air 0 = .ok (.aload_n 0, 1) := by decide +kernel
theorem dX7_air_1 : decode cX7_air 1 = .ok (.getfield 7, 3) := by decide +kernel
theorem dX7_air_4 : decode cX7_air 4 = .ok (.bipush 9, 2) := by decide +kernel
theorem dX7_air_6 : decode cX7_air 6 = .ok (.iaload, 1) := by decide +kernel
theorem dX7_air_7 : decode cX7_air 7 = .ok (.istore_n 2, 1) := by decide +kernel
theorem dX7_air_8 : decode cX7_air 8 = .ok (.iconst 0, 1) := by decide +kernel
theorem dX7_air_9 : decode cX7_air 9 = .ok (.istore_n 3, 1) := by decide +kernel
theorem dX7_air_10 : decode cX7_air 10 = .ok (.iload_n 3, 1) := by decide +kernel
theorem dX7_air_11 : decode cX7_air 11 = .ok (.iload_n 2, 1) := by decide +kernel
theorem dX7_air_12 : decode cX7_air 12 = .ok (.if_icmp .ge 24, 3) := by decide +kernel
theorem dX7_air_15 : decode cX7_air 15 = .ok (.aload_n 0, 1) := by decide +kernel
theorem dX7_air_16 : decode cX7_air 16 = .ok (.getfield 7, 3) := by decide +kernel
theorem dX7_air_19 : decode cX7_air 19 = .ok (.bipush 10, 2) := by decide +kernel
theorem dX7_air_21 : decode cX7_air 21 = .ok (.iconst 2, 1) := by decide +kernel
theorem dX7_air_22 : decode cX7_air 22 = .ok (.iload_n 3, 1) := by decide +kernel
theorem dX7_air_23 : decode cX7_air 23 = .ok (.imul, 1) := by decide +kernel
theorem dX7_air_24 : decode cX7_air 24 = .ok (.iadd, 1) := by decide +kernel
theorem dX7_air_25 : decode cX7_air 25 = .ok (.iaload, 1) := by decide +kernel
theorem dX7_air_26 : decode cX7_air 26 = .ok (.iload_n 1, 1) := by decide +kernel
theorem dX7_air_27 : decode cX7_air 27 = .ok (.if_icmp .gt 9, 3) := by decide +kernel
theorem dX7_air_30 : decode cX7_air 30 = .ok (.iinc 3 1, 3) := by decide +kernel
theorem dX7_air_33 : decode cX7_air 33 = .ok (.goto (-23), 3) := by decide +kernel
theorem dX7_air_36 : decode cX7_air 36 = .ok (.iload_n 2, 1) := by decide +kernel
theorem dX7_air_37 : decode cX7_air 37 = .ok (.ifCond .ne 5, 3) := by decide +kernel
theorem dX7_air_40 : decode cX7_air 40 = .ok (.iconst 0, 1) := by decide +kernel
theorem dX7_air_41 : decode cX7_air 41 = .ok (.ireturn, 1) := by decide +kernel
theorem dX7_air_42 : decode cX7_air 42 = .ok (.iload_n 3, 1) := by decide +kernel
theorem dX7_air_43 : decode cX7_air 43 = .ok (.ifCond .eq 8, 3) := by decide +kernel
theorem dX7_air_46 : decode cX7_air 46 = .ok (.iload_n 3, 1) := by decide +kernel
theorem dX7_air_47 : decode cX7_air 47 = .ok (.iload_n 2, 1) := by decide +kernel
theorem dX7_air_48 : decode cX7_air 48 = .ok (.if_icmp .ne 31, 3) := by decide +kernel
theorem dX7_air_51 : decode cX7_air 51 = .ok (.sipush 1000, 3) := by decide +kernel
theorem dX7_air_54 : decode cX7_air 54 = .ok (.aload_n 0, 1) := by decide +kernel
theorem dX7_air_55 : decode cX7_air 55 = .ok (.getfield 7, 3) := by decide +kernel
theorem dX7_air_58 : decode cX7_air 58 = .ok (.bipush 10, 2) := by decide +kernel
theorem dX7_air_60 : decode cX7_air 60 = .ok (.iconst 2, 1) := by decide +kernel
theorem dX7_air_61 : decode cX7_air 61 = .ok (.iload_n 3, 1) := by decide +kernel
theorem dX7_air_62 : decode cX7_air 62 = .ok (.ifCond .ne 7, 3) := by decide +kernel
theorem dX7_air_65 : decode cX7_air 65 = .ok (.iconst 0, 1) := by decide +kernel
theorem dX7_air_66 : decode cX7_air 66 = .ok (.goto 6, 3) := by decide +kernel
theorem dX7_air_69 : decode cX7_air 69 = .ok (.iload_n 2, 1) := by decide +kernel
theorem dX7_air_70 : decode cX7_air 70 = .ok (.iconst 1, 1) := by decide +kernel
theorem dX7_air_71 : decode cX7_air 71 = .ok (.isub, 1) := by decide +kernel
theorem dX7_air_72 : decode cX7_air 72 = .ok (.imul, 1) := by decide +kernel
theorem dX7_air_73 : decode cX7_air 73 = .ok (.iadd, 1) := by decide +kernel
theorem dX7_air_74 : decode cX7_air 74 = .ok (.iconst 1, 1) := by decide +kernel
theorem dX7_air_75 : decode cX7_air 75 = .ok (.iadd, 1) := by decide +kernel
theorem dX7_air_76 : decode cX7_air 76 = .ok (.iaload, 1) := by decide +kernel
theorem dX7_air_77 : decode cX7_air 77 = .ok (.imul, 1) := by decide +kernel
theorem dX7_air_78 : decode cX7_air 78 = .ok (.ireturn, 1) := by decide +kernel
theorem dX7_air_79 : decode cX7_air 79 = .ok (.bipush 10, 2) := by decide +kernel
theorem dX7_air_81 : decode cX7_air 81 = .ok (.iconst 2, 1) := by decide +kernel
theorem dX7_air_82 : decode cX7_air 82 = .ok (.iload_n 3, 1) := by decide +kernel
theorem dX7_air_83 : decode cX7_air 83 = .ok (.imul, 1) := by decide +kernel
theorem dX7_air_84 : decode cX7_air 84 = .ok (.iadd, 1) := by decide +kernel
theorem dX7_air_85 : decode cX7_air 85 = .ok (.iconst 2, 1) := by decide +kernel
theorem dX7_air_86 : decode cX7_air 86 = .ok (.isub, 1) := by decide +kernel
theorem dX7_air_87 : decode cX7_air 87 = .ok (.istore 4, 2) := by decide +kernel
theorem dX7_air_89 : decode cX7_air 89 = .ok (.sipush 1000, 3) := by decide +kernel
theorem dX7_air_92 : decode cX7_air 92 = .ok (.aload_n 0, 1) := by decide +kernel
theorem dX7_air_93 : decode cX7_air 93 = .ok (.getfield 7, 3) := by decide +kernel
theorem dX7_air_96 : decode cX7_air 96 = .ok (.iload 4, 2) := by decide +kernel
theorem dX7_air_98 : decode cX7_air 98 = .ok (.iconst 1, 1) := by decide +kernel
theorem dX7_air_99 : decode cX7_air 99 = .ok (.iadd, 1) := by decide +kernel
theorem dX7_air_100 : decode cX7_air 100 = .ok (.iaload, 1) := by decide +kernel
theorem dX7_air_101 : decode cX7_air 101 = .ok (.imul, 1) := by decide +kernel
theorem dX7_air_102 : decode cX7_air 102 = .ok (.sipush 1000, 3) := by decide +kernel
theorem dX7_air_105 : decode cX7_air 105 = .ok (.aload_n 0, 1) := by decide +kernel
theorem dX7_air_106 : decode cX7_air 106 = .ok (.getfield 7, 3) := by decide +kernel
theorem dX7_air_109 : decode cX7_air 109 = .ok (.iload 4, 2) := by decide +kernel
theorem dX7_air_111 : decode cX7_air 111 = .ok (.iconst 3, 1) := by decide +kernel
theorem dX7_air_112 : decode cX7_air 112 = .ok (.iadd, 1) := by decide +kernel
theorem dX7_air_113 : decode cX7_air 113 = .ok (.iaload, 1) := by decide +kernel
theorem dX7_air_114 : decode cX7_air 114 = .ok (.aload_n 0, 1) := by decide +kernel
theorem dX7_air_115 : decode cX7_air 115 = .ok (.getfield 7, 3) := by decide +kernel
theorem dX7_air_118 : decode cX7_air 118 = .ok (.iload 4, 2) := by decide +kernel
theorem dX7_air_120 : decode cX7_air 120 = .ok (.iconst 1, 1) := by decide +kernel
theorem dX7_air_121 : decode cX7_air 121 = .ok (.iadd, 1) := by decide +kernel
theorem dX7_air_122 : decode cX7_air 122 = .ok (.iaload, 1) := by decide +kernel
theorem dX7_air_123 : decode cX7_air 123 = .ok (.isub, 1) := by decide +kernel
theorem dX7_air_124 : decode cX7_air 124 = .ok (.imul, 1) := by decide +kernel
theorem dX7_air_125 : decode cX7_air 125 = .ok (.iload_n 1, 1) := by decide +kernel
theorem dX7_air_126 : decode cX7_air 126 = .ok (.aload_n 0, 1) := by decide +kernel
theorem dX7_air_127 : decode cX7_air 127 = .ok (.getfield 7, 3) := by decide +kernel
theorem dX7_air_130 : decode cX7_air 130 = .ok (.iload 4, 2) := by decide +kernel
theorem dX7_air_132 : decode cX7_air 132 = .ok (.iaload, 1) := by decide +kernel
theorem dX7_air_133 : decode cX7_air 133 = .ok (.isub, 1) := by decide +kernel
theorem dX7_air_134 : decode cX7_air 134 = .ok (.imul, 1) := by decide +kernel
theorem dX7_air_135 : decode cX7_air 135 = .ok (.aload_n 0, 1) := by decide +kernel
theorem dX7_air_136 : decode cX7_air 136 = .ok (.getfield 7, 3) := by decide +kernel
theorem dX7_air_139 : decode cX7_air 139 = .ok (.iload 4, 2) := by decide +kernel
theorem dX7_air_141 : decode cX7_air 141 = .ok (.iconst 2, 1) := by decide +kernel
theorem dX7_air_142 : decode cX7_air 142 = .ok (.iadd, 1) := by decide +kernel
theorem dX7_air_143 : decode cX7_air 143 = .ok (.iaload, 1) := by decide +kernel
theorem dX7_air_144 : decode cX7_air 144 = .ok (.aload_n 0, 1) := by decide +kernel
theorem dX7_air_145 : decode cX7_air 145 = .ok (.getfield 7, 3) := by decide +kernel
theorem dX7_air_148 : decode cX7_air 148 = .ok (.iload 4, 2) := by decide +kernel
theorem dX7_air_150 : decode cX7_air 150 = .ok (.iaload, 1) := by decide +kernel
theorem dX7_air_151 : decode cX7_air 151 = .ok (.isub, 1) := by decide +kernel
theorem dX7_air_152 : decode cX7_air 152 = .ok (.idiv, 1) := by decide +kernel
theorem dX7_air_153 : decode cX7_air 153 = .ok (.iadd, 1) := by decide +kernel
theorem dX7_air_154 : decode cX7_air 154 = .ok (.ireturn, 1) := by decide +kernel
theorem dX7_outside_0 : decode cX7_outside 0 = .ok (.iload_n 1, 1) := by decide +kernel
theorem dX7_outside_1 : decode cX7_outside 1 = .ok (.iconst 0, 1) := by decide +kernel
theorem dX7_outside_2 : decode cX7_outside 2 = .ok (.sipush 20000, 3) := by decide +kernel
end
section
theorem dX7_outside_5 : decode cX7_outside 5 = .ok (.invokestatic 35, 3) := by decide +kernel
theorem dX7_outside_8 : decode cX7_outside 8 = .ok (.ifCond .eq 11, 3) := by decide +kernel
theorem dX7_outside_11 : decode cX7_outside 11 = .ok (.aload_n 0, 1) := by decide +kernel
theorem dX7_outside_12 : decode cX7_outside 12 = .ok (.iload_n 1, 1) := by decide +kernel
theorem dX7_outside_13 : decode cX7_outside 13 = .ok (.invokevirtual 115, 3) := by decide +kernel
theorem dX7_outside_16 : decode cX7_outside 16 = .ok (.goto 5, 3) := by decide +kernel
theorem dX7_outside_19 : decode cX7_outside 19 = .ok (.ldc 46, 2) := by decide +kernel
theorem dX7_outside_21 : decode cX7_outside 21 = .ok (.ireturn, 1) := by decide +kernel
theorem dX7_flows_0 : decode cX7_flows 0 = .ok (.aload_n 0, 1) := by decide +kernel
theorem dX7_flows_1 : decode cX7_flows 1 = .ok (.iload_n 1, 1) := by decide +kernel
theorem dX7_flows_2 : decode cX7_flows 2 = .ok (.bipush 7, 2) := by decide +kernel
theorem dX7_flows_4 : decode cX7_flows 4 = .ok (.invokevirtual 39, 3) := by decide +kernel
theorem dX7_flows_7 : decode cX7_flows 7 = .ok (.iconst 1, 1) := by decide +kernel
theorem dX7_flows_8 : decode cX7_flows 8 = .ok (.if_icmp .ne 22, 3) := by decide +kernel
theorem dX7_flows_11 : decode cX7_flows 11 = .ok (.aload_n 0, 1) := by decide +kernel
theorem dX7_flows_12 : decode cX7_flows 12 = .ok (.iload_n 1, 1) := by decide +kernel
theorem dX7_flows_13 : decode cX7_flows 13 = .ok (.bipush 14, 2) := by decide +kernel
theorem dX7_flows_15 : decode cX7_flows 15 = .ok (.invokevirtual 39, 3) := by decide +kernel
theorem dX7_flows_18 : decode cX7_flows 18 = .ok (.ifCond .ne 12, 3) := by decide +kernel
theorem dX7_flows_21 : decode cX7_flows 21 = .ok (.aload_n 0, 1) := by decide +kernel
theorem dX7_flows_22 : decode cX7_flows 22 = .ok (.iload_n 1, 1) := by decide +kernel
theorem dX7_flows_23 : decode cX7_flows 23 = .ok (.iconst 2, 1) := by decide +kernel
theorem dX7_flows_24 : decode cX7_flows 24 = .ok (.invokevirtual 39, 3) := by decide +kernel
theorem dX7_flows_27 : decode cX7_flows 27 = .ok (.goto 4, 3) := by decide +kernel
theorem dX7_flows_30 : decode cX7_flows 30 = .ok (.iconst 0, 1) := by decide +kernel
theorem dX7_flows_31 : decode cX7_flows 31 = .ok (.istore_n 3, 1) := by decide +kernel
theorem dX7_flows_32 : decode cX7_flows 32 = .ok (.aload_n 0, 1) := by decide +kernel
theorem dX7_flows_33 : decode cX7_flows 33 = .ok (.iload_n 1, 1) := by decide +kernel
theorem dX7_flows_34 : decode cX7_flows 34 = .ok (.iconst 3, 1) := by decide +kernel
theorem dX7_flows_35 : decode cX7_flows 35 = .ok (.invokevirtual 39, 3) := by decide +kernel
theorem dX7_flows_38 : decode cX7_flows 38 = .ok (.aload_n 0, 1) := by decide +kernel
theorem dX7_flows_39 : decode cX7_flows 39 = .ok (.getfield 26, 3) := by decide +kernel
theorem dX7_flows_42 : decode cX7_flows 42 = .ok (.iload_n 1, 1) := by decide +kernel
theorem dX7_flows_43 : decode cX7_flows 43 = .ok (.iaload, 1) := by decide +kernel
theorem dX7_flows_44 : decode cX7_flows 44 = .ok (.iload_n 2, 1) := by decide +kernel
theorem dX7_flows_45 : decode cX7_flows 45 = .ok (.isub, 1) := by decide +kernel
theorem dX7_flows_46 : decode cX7_flows 46 = .ok (.imul, 1) := by decide +kernel
theorem dX7_flows_47 : decode cX7_flows 47 = .ok (.sipush 1000, 3) := by decide +kernel
theorem dX7_flows_50 : decode cX7_flows 50 = .ok (.idiv, 1) := by decide +kernel
theorem dX7_flows_51 : decode cX7_flows 51 = .ok (.istore 4, 2) := by decide +kernel
theorem dX7_flows_53 : decode cX7_flows 53 = .ok (.iconst 0, 1) := by decide +kernel
theorem dX7_flows_54 : decode cX7_flows 54 = .ok (.istore 5, 2) := by decide +kernel
theorem dX7_flows_56 : decode cX7_flows 56 = .ok (.iconst 0, 1) := by decide +kernel
theorem dX7_flows_57 : decode cX7_flows 57 = .ok (.istore 6, 2) := by decide +kernel
theorem dX7_flows_59 : decode cX7_flows 59 = .ok (.iload 6, 2) := by decide +kernel
theorem dX7_flows_61 : decode cX7_flows 61 = .ok (.aload_n 0, 1) := by decide +kernel
theorem dX7_flows_62 : decode cX7_flows 62 = .ok (.getfield 7, 3) := by decide +kernel
theorem dX7_flows_65 : decode cX7_flows 65 = .ok (.bipush 7, 2) := by decide +kernel
theorem dX7_flows_67 : decode cX7_flows 67 = .ok (.iaload, 1) := by decide +kernel
theorem dX7_flows_68 : decode cX7_flows 68 = .ok (.if_icmp .ge 48, 3) := by decide +kernel
theorem dX7_flows_71 : decode cX7_flows 71 = .ok (.iload 5, 2) := by decide +kernel
theorem dX7_flows_73 : decode cX7_flows 73 = .ok (.aload_n 0, 1) := by decide +kernel
theorem dX7_flows_74 : decode cX7_flows 74 = .ok (.getfield 7, 3) := by decide +kernel
theorem dX7_flows_77 : decode cX7_flows 77 = .ok (.bipush 34, 2) := by decide +kernel
theorem dX7_flows_79 : decode cX7_flows 79 = .ok (.bipush 6, 2) := by decide +kernel
theorem dX7_flows_81 : decode cX7_flows 81 = .ok (.iload_n 1, 1) := by decide +kernel
theorem dX7_flows_82 : decode cX7_flows 82 = .ok (.imul, 1) := by decide +kernel
theorem dX7_flows_83 : decode cX7_flows 83 = .ok (.iadd, 1) := by decide +kernel
theorem dX7_flows_84 : decode cX7_flows 84 = .ok (.iload 6, 2) := by decide +kernel
theorem dX7_flows_86 : decode cX7_flows 86 = .ok (.iadd, 1) := by decide +kernel
theorem dX7_flows_87 : decode cX7_flows 87 = .ok (.iaload, 1) := by decide +kernel
theorem dX7_flows_88 : decode cX7_flows 88 = .ok (.aload_n 0, 1) := by decide +kernel
theorem dX7_flows_89 : decode cX7_flows 89 = .ok (.getfield 26, 3) := by decide +kernel
theorem dX7_flows_92 : decode cX7_flows 92 = .ok (.iload_n 1, 1) := by decide +kernel
theorem dX7_flows_93 : decode cX7_flows 93 = .ok (.iaload, 1) := by decide +kernel
theorem dX7_flows_94 : decode cX7_flows 94 = .ok (.aload_n 0, 1) := by decide +kernel
theorem dX7_flows_95 : decode cX7_flows 95 = .ok (.getfield 26, 3) := by decide +kernel
theorem dX7_flows_98 : decode cX7_flows 98 = .ok (.iload 6, 2) := by decide +kernel
theorem dX7_flows_100 : decode cX7_flows 100 = .ok (.iaload, 1) := by decide +kernel
theorem dX7_flows_101 : decode cX7_flows 101 = .ok (.isub, 1) := by decide +kernel
theorem dX7_flows_102 : decode cX7_flows 102 = .ok (.imul, 1) := by decide +kernel
theorem dX7_flows_103 : decode cX7_flows 103 = .ok (.sipush 1000, 3) := by decide +kernel
theorem dX7_flows_106 : decode cX7_flows 106 = .ok (.idiv, 1) := by decide +kernel
theorem dX7_flows_107 : decode cX7_flows 107 = .ok (.iadd, 1) := by decide +kernel
theorem dX7_flows_108 : decode cX7_flows 108 = .ok (.istore 5, 2) := by decide +kernel
theorem dX7_flows_110 : decode cX7_flows 110 = .ok (.iinc 6 1, 3) := by decide +kernel
theorem dX7_flows_113 : decode cX7_flows 113 = .ok (.goto (-54), 3) := by decide +kernel
theorem dX7_flows_116 : decode cX7_flows 116 = .ok (.aload_n 0, 1) := by decide +kernel
theorem dX7_flows_117 : decode cX7_flows 117 = .ok (.iload_n 1, 1) := by decide +kernel
theorem dX7_flows_118 : decode cX7_flows 118 = .ok (.iconst 1, 1) := by decide +kernel
theorem dX7_flows_119 : decode cX7_flows 119 = .ok (.iload_n 3, 1) := by decide +kernel
theorem dX7_flows_120 : decode cX7_flows 120 = .ok (.iload 4, 2) := by decide +kernel
theorem dX7_flows_122 : decode cX7_flows 122 = .ok (.isub, 1) := by decide +kernel
theorem dX7_flows_123 : decode cX7_flows 123 = .ok (.iload 5, 2) := by decide +kernel
theorem dX7_flows_125 : decode cX7_flows 125 = .ok (.isub, 1) := by decide +kernel
theorem dX7_flows_126 : decode cX7_flows 126 = .ok (.invokevirtual 81, 3) := by decide +kernel
theorem dX7_flows_129 : decode cX7_flows 129 = .ok (.aload_n 0, 1) := by decide +kernel
theorem dX7_flows_130 : decode cX7_flows 130 = .ok (.iload_n 1, 1) := by decide +kernel
theorem dX7_flows_131 : decode cX7_flows 131 = .ok (.bipush 17, 2) := by decide +kernel
theorem dX7_flows_133 : decode cX7_flows 133 = .ok (.iload_n 3, 1) := by decide +kernel
theorem dX7_flows_134 : decode cX7_flows 134 = .ok (.invokevirtual 81, 3) := by decide +kernel
theorem dX7_flows_137 : decode cX7_flows 137 = .ok (.aload_n 0, 1) := by decide +kernel
theorem dX7_flows_138 : decode cX7_flows 138 = .ok (.iload_n 1, 1) := by decide +kernel
theorem dX7_flows_139 : decode cX7_flows 139 = .ok (.bipush 18, 2) := by decide +kernel
theorem dX7_flows_141 : decode cX7_flows 141 = .ok (.iload 4, 2) := by decide +kernel
theorem dX7_flows_143 : decode cX7_flows 143 = .ok (.invokevirtual 81, 3) := by decide +kernel
theorem dX7_flows_146 : decode cX7_flows 146 = .ok (.aload_n 0, 1) := by decide +kernel
theorem dX7_flows_147 : decode cX7_flows 147 = .ok (.iload_n 1, 1) := by decide +kernel
theorem dX7_flows_148 : decode cX7_flows 148 = .ok (.bipush 19, 2) := by decide +kernel
theorem dX7_flows_150 : decode cX7_flows 150 = .ok (.iload 5, 2) := by decide +kernel
theorem dX7_flows_152 : decode cX7_flows 152 = .ok (.invokevirtual 81, 3) := by decide +kernel
theorem dX7_flows_155 : decode cX7_flows 155 = .ok (.return_, 1) := by decide +kernel
theorem dX7_closes_0 : decode cX7_closes 0 = .ok (.aload_n 0, 1) := by decide +kernel
theorem dX7_closes_1 : decode cX7_closes 1 = .ok (.iload_n 1, 1) := by decide +kernel
theorem dX7_closes_2 : decode cX7_closes 2 = .ok (.bipush 7, 2) := by decide +kernel
theorem dX7_closes_4 : decode cX7_closes 4 = .ok (.iconst 1, 1) := by decide +kernel
theorem dX7_closes_5 : decode cX7_closes 5 = .ok (.invokevirtual 51, 3) := by decide +kernel
theorem dX7_closes_8 : decode cX7_closes 8 = .ok (.aload_n 0, 1) := by decide +kernel
theorem dX7_closes_9 : decode cX7_closes 9 = .ok (.iload_n 1, 1) := by decide +kernel
theorem dX7_closes_10 : decode cX7_closes 10 = .ok (.bipush 11, 2) := by decide +kernel
theorem dX7_closes_12 : decode cX7_closes 12 = .ok (.iconst 1, 1) := by decide +kernel
theorem dX7_closes_13 : decode cX7_closes 13 = .ok (.invokevirtual 81, 3) := by decide +kernel
theorem dX7_closes_16 : decode cX7_closes 16 = .ok (.aload_n 0, 1) := by decide +kernel
theorem dX7_closes_17 : decode cX7_closes 17 = .ok (.iload_n 1, 1) := by decide +kernel
theorem dX7_closes_18 : decode cX7_closes 18 = .ok (.bipush 9, 2) := by decide +kernel
theorem dX7_closes_20 : decode cX7_closes 20 = .ok (.aload_n 0, 1) := by decide +kernel
theorem dX7_closes_21 : decode cX7_closes 21 = .ok (.iload_n 1, 1) := by decide +kernel
theorem dX7_closes_22 : decode cX7_closes 22 = .ok (.iconst 2, 1) := by decide +kernel
theorem dX7_closes_23 : decode cX7_closes 23 = .ok (.invokevirtual 39, 3) := by decide +kernel
theorem dX7_closes_26 : decode cX7_closes 26 = .ok (.invokevirtual 81, 3) := by decide +kernel
theorem dX7_closes_29 : decode cX7_closes 29 = .ok (.aload_n 0, 1) := by decide +kernel
theorem dX7_closes_30 : decode cX7_closes 30 = .ok (.iload_n 1, 1) := by decide +kernel
theorem dX7_closes_31 : decode cX7_closes 31 = .ok (.bipush 8, 2) := by decide +kernel
theorem dX7_closes_33 : decode cX7_closes 33 = .ok (.aload_n 0, 1) := by decide +kernel
theorem dX7_closes_34 : decode cX7_closes 34 = .ok (.iload_n 1, 1) := by decide +kernel
theorem dX7_closes_35 : decode cX7_closes 35 = .ok (.bipush 9, 2) := by decide +kernel
theorem dX7_closes_37 : decode cX7_closes 37 = .ok (.invokevirtual 39, 3) := by decide +kernel
theorem dX7_closes_40 : decode cX7_closes 40 = .ok (.aload_n 0, 1) := by decide +kernel
theorem dX7_closes_41 : decode cX7_closes 41 = .ok (.getfield 7, 3) := by decide +kernel
theorem dX7_closes_44 : decode cX7_closes 44 = .ok (.iconst 1, 1) := by decide +kernel
theorem dX7_closes_45 : decode cX7_closes 45 = .ok (.iaload, 1) := by decide +kernel
theorem dX7_closes_46 : decode cX7_closes 46 = .ok (.if_icmp .lt 7, 3) := by decide +kernel
theorem dX7_closes_49 : decode cX7_closes 49 = .ok (.iconst 1, 1) := by decide +kernel
theorem dX7_closes_50 : decode cX7_closes 50 = .ok (.goto 10, 3) := by decide +kernel
theorem dX7_closes_53 : decode cX7_closes 53 = .ok (.aload_n 0, 1) := by decide +kernel
theorem dX7_closes_54 : decode cX7_closes 54 = .ok (.iload_n 1, 1) := by decide +kernel
theorem dX7_closes_55 : decode cX7_closes 55 = .ok (.bipush 8, 2) := by decide +kernel
theorem dX7_closes_57 : decode cX7_closes 57 = .ok (.invokevirtual 39, 3) := by decide +kernel
theorem dX7_closes_60 : decode cX7_closes 60 = .ok (.invokevirtual 51, 3) := by decide +kernel
theorem dX7_closes_63 : decode cX7_closes 63 = .ok (.aload_n 0, 1) := by decide +kernel
theorem dX7_closes_64 : decode cX7_closes 64 = .ok (.iload_n 1, 1) := by decide +kernel
theorem dX7_closes_65 : decode cX7_closes 65 = .ok (.bipush 15, 2) := by decide +kernel
theorem dX7_closes_67 : decode cX7_closes 67 = .ok (.invokevirtual 39, 3) := by decide +kernel
theorem dX7_closes_70 : decode cX7_closes 70 = .ok (.ldc 55, 2) := by decide +kernel
theorem dX7_closes_72 : decode cX7_closes 72 = .ok (.if_icmp .eq 31, 3) := by decide +kernel
theorem dX7_closes_75 : decode cX7_closes 75 = .ok (.aload_n 0, 1) := by decide +kernel
theorem dX7_closes_76 : decode cX7_closes 76 = .ok (.getfield 7, 3) := by decide +kernel
theorem dX7_closes_79 : decode cX7_closes 79 = .ok (.bipush 8, 2) := by decide +kernel
theorem dX7_closes_81 : decode cX7_closes 81 = .ok (.iaload, 1) := by decide +kernel
theorem dX7_closes_82 : decode cX7_closes 82 = .ok (.aload_n 0, 1) := by decide +kernel
theorem dX7_closes_83 : decode cX7_closes 83 = .ok (.iload_n 1, 1) := by decide +kernel
theorem dX7_closes_84 : decode cX7_closes 84 = .ok (.bipush 15, 2) := by decide +kernel
theorem dX7_closes_86 : decode cX7_closes 86 = .ok (.invokevirtual 39, 3) := by decide +kernel
theorem dX7_closes_89 : decode cX7_closes 89 = .ok (.isub, 1) := by decide +kernel
theorem dX7_closes_90 : decode cX7_closes 90 = .ok (.aload_n 0, 1) := by decide +kernel
theorem dX7_closes_91 : decode cX7_closes 91 = .ok (.getfield 7, 3) := by decide +kernel
theorem dX7_closes_94 : decode cX7_closes 94 = .ok (.iconst 3, 1) := by decide +kernel
theorem dX7_closes_95 : decode cX7_closes 95 = .ok (.iaload, 1) := by decide +kernel
theorem dX7_closes_96 : decode cX7_closes 96 = .ok (.if_icmp .ge 7, 3) := by decide +kernel
theorem dX7_closes_99 : decode cX7_closes 99 = .ok (.iconst 1, 1) := by decide +kernel
theorem dX7_closes_100 : decode cX7_closes 100 = .ok (.goto 4, 3) := by decide +kernel
theorem dX7_closes_103 : decode cX7_closes 103 = .ok (.iconst 0, 1) := by decide +kernel
theorem dX7_closes_104 : decode cX7_closes 104 = .ok (.istore_n 2, 1) := by decide +kernel
theorem dX7_closes_105 : decode cX7_closes 105 = .ok (.aload_n 0, 1) := by decide +kernel
theorem dX7_closes_106 : decode cX7_closes 106 = .ok (.iload_n 1, 1) := by decide +kernel
theorem dX7_closes_107 : decode cX7_closes 107 = .ok (.bipush 12, 2) := by decide +kernel
theorem dX7_closes_109 : decode cX7_closes 109 = .ok (.iload_n 2, 1) := by decide +kernel
theorem dX7_closes_110 : decode cX7_closes 110 = .ok (.ifCond .eq 12, 3) := by decide +kernel
theorem dX7_closes_113 : decode cX7_closes 113 = .ok (.aload_n 0, 1) := by decide +kernel
theorem dX7_closes_114 : decode cX7_closes 114 = .ok (.getfield 7, 3) := by decide +kernel
theorem dX7_closes_117 : decode cX7_closes 117 = .ok (.iconst 4, 1) := by decide +kernel
theorem dX7_closes_118 : decode cX7_closes 118 = .ok (.iaload, 1) := by decide +kernel
theorem dX7_closes_119 : decode cX7_closes 119 = .ok (.goto 4, 3) := by decide +kernel
theorem dX7_closes_122 : decode cX7_closes 122 = .ok (.iconst 0, 1) := by decide +kernel
theorem dX7_closes_123 : decode cX7_closes 123 = .ok (.invokevirtual 81, 3) := by decide +kernel
theorem dX7_closes_126 : decode cX7_closes 126 = .ok (.aload_n 0, 1) := by decide +kernel
theorem dX7_closes_127 : decode cX7_closes 127 = .ok (.iload_n 1, 1) := by decide +kernel
theorem dX7_closes_128 : decode cX7_closes 128 = .ok (.bipush 15, 2) := by decide +kernel
theorem dX7_closes_130 : decode cX7_closes 130 = .ok (.aload_n 0, 1) := by decide +kernel
theorem dX7_closes_131 : decode cX7_closes 131 = .ok (.getfield 7, 3) := by decide +kernel
theorem dX7_closes_134 : decode cX7_closes 134 = .ok (.bipush 8, 2) := by decide +kernel
theorem dX7_closes_136 : decode cX7_closes 136 = .ok (.iaload, 1) := by decide +kernel
theorem dX7_closes_137 : decode cX7_closes 137 = .ok (.invokevirtual 51, 3) := by decide +kernel
theorem dX7_closes_140 : decode cX7_closes 140 = .ok (.return_, 1) := by decide +kernel
theorem dX7_opens_0 : decode cX7_opens 0 = .ok (.aload_n 0, 1) := by decide +kernel
theorem dX7_opens_1 : decode cX7_opens 1 = .ok (.iload_n 1, 1) := by decide +kernel
theorem dX7_opens_2 : decode cX7_opens 2 = .ok (.bipush 8, 2) := by decide +kernel
theorem dX7_opens_4 : decode cX7_opens 4 = .ok (.invokevirtual 39, 3) := by decide +kernel
theorem dX7_opens_7 : decode cX7_opens 7 = .ok (.iconst 1, 1) := by decide +kernel
theorem dX7_opens_8 : decode cX7_opens 8 = .ok (.if_icmp .ne 61, 3) := by decide +kernel
theorem dX7_opens_11 : decode cX7_opens 11 = .ok (.aload_n 0, 1) := by decide +kernel
theorem dX7_opens_12 : decode cX7_opens 12 = .ok (.iload_n 1, 1) := by decide +kernel
theorem dX7_opens_13 : decode cX7_opens 13 = .ok (.bipush 10, 2) := by decide +kernel
theorem dX7_opens_15 : decode cX7_opens 15 = .ok (.iconst 1, 1) := by decide +kernel
theorem dX7_opens_16 : decode cX7_opens 16 = .ok (.invokevirtual 81, 3) := by decide +kernel
theorem dX7_opens_19 : decode cX7_opens 19 = .ok (.aload_n 0, 1) := by decide +kernel
theorem dX7_opens_20 : decode cX7_opens 20 = .ok (.iload_n 1, 1) := by decide +kernel
theorem dX7_opens_21 : decode cX7_opens 21 = .ok (.bipush 10, 2) := by decide +kernel
theorem dX7_opens_23 : decode cX7_opens 23 = .ok (.invokevirtual 39, 3) := by decide +kernel
theorem dX7_opens_26 : decode cX7_opens 26 = .ok (.aload_n 0, 1) := by decide +kernel
theorem dX7_opens_27 : decode cX7_opens 27 = .ok (.getfield 7, 3) := by decide +kernel
theorem dX7_opens_30 : decode cX7_opens 30 = .ok (.iconst 2, 1) := by decide +kernel
theorem dX7_opens_31 : decode cX7_opens 31 = .ok (.iaload, 1) := by decide +kernel
theorem dX7_opens_32 : decode cX7_opens 32 = .ok (.if_icmp .ge 5, 3) := by decide +kernel
theorem dX7_opens_35 : decode cX7_opens 35 = .ok (.iconst 0, 1) := by decide +kernel
theorem dX7_opens_36 : decode cX7_opens 36 = .ok (.ireturn, 1) := by decide +kernel
theorem dX7_opens_37 : decode cX7_opens 37 = .ok (.aload_n 0, 1) := by decide +kernel
theorem dX7_opens_38 : decode cX7_opens 38 = .ok (.iload_n 1, 1) := by decide +kernel
theorem dX7_opens_39 : decode cX7_opens 39 = .ok (.bipush 8, 2) := by decide +kernel
theorem dX7_opens_41 : decode cX7_opens 41 = .ok (.iconst 0, 1) := by decide +kernel
theorem dX7_opens_42 : decode cX7_opens 42 = .ok (.invokevirtual 51, 3) := by decide +kernel
theorem dX7_opens_45 : decode cX7_opens 45 = .ok (.aload_n 0, 1) := by decide +kernel
theorem dX7_opens_46 : decode cX7_opens 46 = .ok (.iload_n 1, 1) := by decide +kernel
theorem dX7_opens_47 : decode cX7_opens 47 = .ok (.bipush 10, 2) := by decide +kernel
theorem dX7_opens_49 : decode cX7_opens 49 = .ok (.iconst 0, 1) := by decide +kernel
theorem dX7_opens_50 : decode cX7_opens 50 = .ok (.invokevirtual 51, 3) := by decide +kernel
theorem dX7_opens_53 : decode cX7_opens 53 = .ok (.aload_n 0, 1) := by decide +kernel
theorem dX7_opens_54 : decode cX7_opens 54 = .ok (.iload_n 1, 1) := by decide +kernel
theorem dX7_opens_55 : decode cX7_opens 55 = .ok (.bipush 9, 2) := by decide +kernel
theorem dX7_opens_57 : decode cX7_opens 57 = .ok (.aload_n 0, 1) := by decide +kernel
theorem dX7_opens_58 : decode cX7_opens 58 = .ok (.iload_n 1, 1) := by decide +kernel
theorem dX7_opens_59 : decode cX7_opens 59 = .ok (.bipush 9, 2) := by decide +kernel
theorem dX7_opens_61 : decode cX7_opens 61 = .ok (.invokevirtual 39, 3) := by decide +kernel
theorem dX7_opens_64 : decode cX7_opens 64 = .ok (.iconst 2, 1) := by decide +kernel
theorem dX7_opens_65 : decode cX7_opens 65 = .ok (.idiv, 1) := by decide +kernel
theorem dX7_opens_66 : decode cX7_opens 66 = .ok (.invokevirtual 51, 3) := by decide +kernel
theorem dX7_opens_69 : decode cX7_opens 69 = .ok (.aload_n 0, 1) := by decide +kernel
theorem dX7_opens_70 : decode cX7_opens 70 = .ok (.iload_n 1, 1) := by decide +kernel
theorem dX7_opens_71 : decode cX7_opens 71 = .ok (.bipush 7, 2) := by decide +kernel
theorem dX7_opens_73 : decode cX7_opens 73 = .ok (.iconst 0, 1) := by decide +kernel
theorem dX7_opens_74 : decode cX7_opens 74 = .ok (.invokevirtual 51, 3) := by decide +kernel
theorem dX7_opens_77 : decode cX7_opens 77 = .ok (.iconst 1, 1) := by decide +kernel
theorem dX7_opens_78 : decode cX7_opens 78 = .ok (.ireturn, 1) := by decide +kernel
theorem dX7_turns_0 : decode cX7_turns 0 = .ok (.aload_n 0, 1) := by decide +kernel
theorem dX7_turns_1 : decode cX7_turns 1 = .ok (.iload_n 1, 1) := by decide +kernel
theorem dX7_turns_2 : decode cX7_turns 2 = .ok (.invokevirtual 84, 3) := by decide +kernel
theorem dX7_turns_5 : decode cX7_turns 5 = .ok (.istore_n 2, 1) := by decide +kernel
theorem dX7_turns_6 : decode cX7_turns 6 = .ok (.aload_n 0, 1) := by decide +kernel
theorem dX7_turns_7 : decode cX7_turns 7 = .ok (.iload_n 1, 1) := by decide +kernel
theorem dX7_turns_8 : decode cX7_turns 8 = .ok (.bipush 14, 2) := by decide +kernel
theorem dX7_turns_10 : decode cX7_turns 10 = .ok (.iload_n 2, 1) := by decide +kernel
theorem dX7_turns_11 : decode cX7_turns 11 = .ok (.aload_n 0, 1) := by decide +kernel
theorem dX7_turns_12 : decode cX7_turns 12 = .ok (.getfield 7, 3) := by decide +kernel
theorem dX7_turns_15 : decode cX7_turns 15 = .ok (.iconst 5, 1) := by decide +kernel
theorem dX7_turns_16 : decode cX7_turns 16 = .ok (.iaload, 1) := by decide +kernel
theorem dX7_turns_17 : decode cX7_turns 17 = .ok (.if_icmp .le 7, 3) := by decide +kernel
theorem dX7_turns_20 : decode cX7_turns 20 = .ok (.iconst 1, 1) := by decide +kernel
theorem dX7_turns_21 : decode cX7_turns 21 = .ok (.goto 10, 3) := by decide +kernel
theorem dX7_turns_24 : decode cX7_turns 24 = .ok (.aload_n 0, 1) := by decide +kernel
theorem dX7_turns_25 : decode cX7_turns 25 = .ok (.iload_n 1, 1) := by decide +kernel
theorem dX7_turns_26 : decode cX7_turns 26 = .ok (.bipush 14, 2) := by decide +kernel
theorem dX7_turns_28 : decode cX7_turns 28 = .ok (.invokevirtual 39, 3) := by decide +kernel
theorem dX7_turns_31 : decode cX7_turns 31 = .ok (.invokevirtual 51, 3) := by decide +kernel
theorem dX7_turns_34 : decode cX7_turns 34 = .ok (.aload_n 0, 1) := by decide +kernel
theorem dX7_turns_35 : decode cX7_turns 35 = .ok (.iload_n 1, 1) := by decide +kernel
theorem dX7_turns_36 : decode cX7_turns 36 = .ok (.bipush 6, 2) := by decide +kernel
theorem dX7_turns_38 : decode cX7_turns 38 = .ok (.iload_n 2, 1) := by decide +kernel
theorem dX7_turns_39 : decode cX7_turns 39 = .ok (.aload_n 0, 1) := by decide +kernel
theorem dX7_turns_40 : decode cX7_turns 40 = .ok (.iload_n 1, 1) := by decide +kernel
theorem dX7_turns_41 : decode cX7_turns 41 = .ok (.bipush 6, 2) := by decide +kernel
theorem dX7_turns_43 : decode cX7_turns 43 = .ok (.invokevirtual 39, 3) := by decide +kernel
theorem dX7_turns_46 : decode cX7_turns 46 = .ok (.isub, 1) := by decide +kernel
theorem dX7_turns_47 : decode cX7_turns 47 = .ok (.aload_n 0, 1) := by decide +kernel
theorem dX7_turns_48 : decode cX7_turns 48 = .ok (.getfield 7, 3) := by decide +kernel
theorem dX7_turns_51 : decode cX7_turns 51 = .ok (.iconst 0, 1) := by decide +kernel
theorem dX7_turns_52 : decode cX7_turns 52 = .ok (.iaload, 1) := by decide +kernel
theorem dX7_turns_53 : decode cX7_turns 53 = .ok (.imul, 1) := by decide +kernel
theorem dX7_turns_54 : decode cX7_turns 54 = .ok (.bipush 100, 2) := by decide +kernel
theorem dX7_turns_56 : decode cX7_turns 56 = .ok (.idiv, 1) := by decide +kernel
theorem dX7_turns_57 : decode cX7_turns 57 = .ok (.invokevirtual 81, 3) := by decide +kernel
theorem dX7_turns_60 : decode cX7_turns 60 = .ok (.aload_n 0, 1) := by decide +kernel
theorem dX7_turns_61 : decode cX7_turns 61 = .ok (.iload_n 1, 1) := by decide +kernel
theorem dX7_turns_62 : decode cX7_turns 62 = .ok (.bipush 6, 2) := by decide +kernel
theorem dX7_turns_64 : decode cX7_turns 64 = .ok (.invokevirtual 39, 3) := by decide +kernel
theorem dX7_turns_67 : decode cX7_turns 67 = .ok (.istore_n 3, 1) := by decide +kernel
theorem dX7_turns_68 : decode cX7_turns 68 = .ok (.iload_n 3, 1) := by decide +kernel
theorem dX7_turns_69 : decode cX7_turns 69 = .ok (.aload_n 0, 1) := by decide +kernel
theorem dX7_turns_70 : decode cX7_turns 70 = .ok (.iload_n 1, 1) := by decide +kernel
theorem dX7_turns_71 : decode cX7_turns 71 = .ok (.iconst 4, 1) := by decide +kernel
theorem dX7_turns_72 : decode cX7_turns 72 = .ok (.invokevirtual 39, 3) := by decide +kernel
theorem dX7_turns_75 : decode cX7_turns 75 = .ok (.aload_n 0, 1) := by decide +kernel
theorem dX7_turns_76 : decode cX7_turns 76 = .ok (.iload_n 1, 1) := by decide +kernel
theorem dX7_turns_77 : decode cX7_turns 77 = .ok (.iconst 5, 1) := by decide +kernel
theorem dX7_turns_78 : decode cX7_turns 78 = .ok (.invokevirtual 39, 3) := by decide +kernel
theorem dX7_turns_81 : decode cX7_turns 81 = .ok (.iadd, 1) := by decide +kernel
theorem dX7_turns_82 : decode cX7_turns 82 = .ok (.if_icmp .lt 7, 3) := by decide +kernel
theorem dX7_turns_85 : decode cX7_turns 85 = .ok (.iconst 1, 1) := by decide +kernel
theorem dX7_turns_86 : decode cX7_turns 86 = .ok (.goto 4, 3) := by decide +kernel
theorem dX7_turns_89 : decode cX7_turns 89 = .ok (.iconst 0, 1) := by decide +kernel
theorem dX7_turns_90 : decode cX7_turns 90 = .ok (.istore 4, 2) := by decide +kernel
theorem dX7_turns_92 : decode cX7_turns 92 = .ok (.iconst 0, 1) := by decide +kernel
theorem dX7_turns_93 : decode cX7_turns 93 = .ok (.istore 5, 2) := by decide +kernel
theorem dX7_turns_95 : decode cX7_turns 95 = .ok (.aload_n 0, 1) := by decide +kernel
theorem dX7_turns_96 : decode cX7_turns 96 = .ok (.iload_n 1, 1) := by decide +kernel
theorem dX7_turns_97 : decode cX7_turns 97 = .ok (.bipush 7, 2) := by decide +kernel
theorem dX7_turns_99 : decode cX7_turns 99 = .ok (.invokevirtual 39, 3) := by decide +kernel
theorem dX7_turns_102 : decode cX7_turns 102 = .ok (.ifCond .ne 31, 3) := by decide +kernel
theorem dX7_turns_105 : decode cX7_turns 105 = .ok (.iload_n 3, 1) := by decide +kernel
theorem dX7_turns_106 : decode cX7_turns 106 = .ok (.aload_n 0, 1) := by decide +kernel
theorem dX7_turns_107 : decode cX7_turns 107 = .ok (.iload_n 1, 1) := by decide +kernel
theorem dX7_turns_108 : decode cX7_turns 108 = .ok (.iconst 4, 1) := by decide +kernel
theorem dX7_turns_109 : decode cX7_turns 109 = .ok (.invokevirtual 39, 3) := by decide +kernel
theorem dX7_turns_112 : decode cX7_turns 112 = .ok (.aload_n 0, 1) := by decide +kernel
theorem dX7_turns_113 : decode cX7_turns 113 = .ok (.iload_n 1, 1) := by decide +kernel
theorem dX7_turns_114 : decode cX7_turns 114 = .ok (.iconst 5, 1) := by decide +kernel
theorem dX7_turns_115 : decode cX7_turns 115 = .ok (.invokevirtual 39, 3) := by decide +kernel
theorem dX7_turns_118 : decode cX7_turns 118 = .ok (.isub, 1) := by decide +kernel
theorem dX7_turns_119 : decode cX7_turns 119 = .ok (.if_icmp .gt 14, 3) := by decide +kernel
theorem dX7_turns_122 : decode cX7_turns 122 = .ok (.aload_n 0, 1) := by decide +kernel
theorem dX7_turns_123 : decode cX7_turns 123 = .ok (.iload_n 1, 1) := by decide +kernel
theorem dX7_turns_124 : decode cX7_turns 124 = .ok (.invokevirtual 118, 3) := by decide +kernel
theorem dX7_turns_127 : decode cX7_turns 127 = .ok (.iconst 1, 1) := by decide +kernel
theorem dX7_turns_128 : decode cX7_turns 128 = .ok (.istore 5, 2) := by decide +kernel
theorem dX7_turns_130 : decode cX7_turns 130 = .ok (.goto 26, 3) := by decide +kernel
theorem dX7_turns_133 : decode cX7_turns 133 = .ok (.aload_n 0, 1) := by decide +kernel
theorem dX7_turns_134 : decode cX7_turns 134 = .ok (.iload_n 1, 1) := by decide +kernel
theorem dX7_turns_135 : decode cX7_turns 135 = .ok (.bipush 7, 2) := by decide +kernel
theorem dX7_turns_137 : decode cX7_turns 137 = .ok (.invokevirtual 39, 3) := by decide +kernel
theorem dX7_turns_140 : decode cX7_turns 140 = .ok (.iconst 1, 1) := by decide +kernel
theorem dX7_turns_141 : decode cX7_turns 141 = .ok (.if_icmp .ne 15, 3) := by decide +kernel
theorem dX7_turns_144 : decode cX7_turns 144 = .ok (.iload 4, 2) := by decide +kernel
theorem dX7_turns_146 : decode cX7_turns 146 = .ok (.ifCond .eq 10, 3) := by decide +kernel
theorem dX7_turns_149 : decode cX7_turns 149 = .ok (.aload_n 0, 1) := by decide +kernel
theorem dX7_turns_150 : decode cX7_turns 150 = .ok (.iload_n 1, 1) := by decide +kernel
theorem dX7_turns_151 : decode cX7_turns 151 = .ok (.invokevirtual 122, 3) := by decide +kernel
theorem dX7_turns_154 : decode cX7_turns 154 = .ok (.istore 5, 2) := by decide +kernel
theorem dX7_turns_156 : decode cX7_turns 156 = .ok (.aload_n 0, 1) := by decide +kernel
theorem dX7_turns_157 : decode cX7_turns 157 = .ok (.iload_n 1, 1) := by decide +kernel
theorem dX7_turns_158 : decode cX7_turns 158 = .ok (.bipush 13, 2) := by decide +kernel
theorem dX7_turns_160 : decode cX7_turns 160 = .ok (.aload_n 0, 1) := by decide +kernel
theorem dX7_turns_161 : decode cX7_turns 161 = .ok (.iload_n 1, 1) := by decide +kernel
theorem dX7_turns_162 : decode cX7_turns 162 = .ok (.bipush 7, 2) := by decide +kernel
theorem dX7_turns_164 : decode cX7_turns 164 = .ok (.invokevirtual 39, 3) := by decide +kernel
theorem dX7_turns_167 : decode cX7_turns 167 = .ok (.iconst 1, 1) := by decide +kernel
theorem dX7_turns_168 : decode cX7_turns 168 = .ok (.if_icmp .ne 20, 3) := by decide +kernel
theorem dX7_turns_171 : decode cX7_turns 171 = .ok (.iload 4, 2) := by decide +kernel
theorem dX7_turns_173 : decode cX7_turns 173 = .ok (.ifCond .eq 15, 3) := by decide +kernel
theorem dX7_turns_176 : decode cX7_turns 176 = .ok (.aload_n 0, 1) := by decide +kernel
theorem dX7_turns_177 : decode cX7_turns 177 = .ok (.iload_n 1, 1) := by decide +kernel
theorem dX7_turns_178 : decode cX7_turns 178 = .ok (.bipush 13, 2) := by decide +kernel
theorem dX7_turns_180 : decode cX7_turns 180 = .ok (.invokevirtual 39, 3) := by decide +kernel
theorem dX7_turns_183 : decode cX7_turns 183 = .ok (.iconst 1, 1) := by decide +kernel
theorem dX7_turns_184 : decode cX7_turns 184 = .ok (.iadd, 1) := by decide +kernel
theorem dX7_turns_185 : decode cX7_turns 185 = .ok (.goto 4, 3) := by decide +kernel
theorem dX7_turns_188 : decode cX7_turns 188 = .ok (.iconst 0, 1) := by decide +kernel
theorem dX7_turns_189 : decode cX7_turns 189 = .ok (.invokevirtual 51, 3) := by decide +kernel
theorem dX7_turns_192 : decode cX7_turns 192 = .ok (.iload 5, 2) := by decide +kernel
theorem dX7_turns_194 : decode cX7_turns 194 = .ok (.ireturn, 1) := by decide +kernel
theorem dX7_minute_0 : decode cX7_minute 0 = .ok (.aload_n 0, 1) := by decide +kernel
theorem dX7_minute_1 : decode cX7_minute 1 = .ok (.aload_n 0, 1) := by decide +kernel
theorem dX7_minute_2 : decode cX7_minute 2 = .ok (.getfield 7, 3) := by decide +kernel
theorem dX7_minute_5 : decode cX7_minute 5 = .ok (.bipush 8, 2) := by decide +kernel
theorem dX7_minute_7 : decode cX7_minute 7 = .ok (.iaload, 1) := by decide +kernel
theorem dX7_minute_8 : decode cX7_minute 8 = .ok (.invokevirtual 115, 3) := by decide +kernel
theorem dX7_minute_11 : decode cX7_minute 11 = .ok (.istore_n 1, 1) := by decide +kernel
theorem dX7_minute_12 : decode cX7_minute 12 = .ok (.iconst 0, 1) := by decide +kernel
theorem dX7_minute_13 : decode cX7_minute 13 = .ok (.istore_n 2, 1) := by decide +kernel
theorem dX7_minute_14 : decode cX7_minute 14 = .ok (.iload_n 2, 1) := by decide +kernel
theorem dX7_minute_15 : decode cX7_minute 15 = .ok (.aload_n 0, 1) := by decide +kernel
theorem dX7_minute_16 : decode cX7_minute 16 = .ok (.getfield 7, 3) := by decide +kernel
theorem dX7_minute_19 : decode cX7_minute 19 = .ok (.bipush 7, 2) := by decide +kernel
theorem dX7_minute_21 : decode cX7_minute 21 = .ok (.iaload, 1) := by decide +kernel
theorem dX7_minute_22 : decode cX7_minute 22 = .ok (.if_icmp .ge 20, 3) := by decide +kernel
theorem dX7_minute_25 : decode cX7_minute 25 = .ok (.aload_n 0, 1) := by decide +kernel
theorem dX7_minute_26 : decode cX7_minute 26 = .ok (.getfield 26, 3) := by decide +kernel
theorem dX7_minute_29 : decode cX7_minute 29 = .ok (.iload_n 2, 1) := by decide +kernel
theorem dX7_minute_30 : decode cX7_minute 30 = .ok (.aload_n 0, 1) := by decide +kernel
theorem dX7_minute_31 : decode cX7_minute 31 = .ok (.iload_n 2, 1) := by decide +kernel
theorem dX7_minute_32 : decode cX7_minute 32 = .ok (.invokevirtual 84, 3) := by decide +kernel
theorem dX7_minute_35 : decode cX7_minute 35 = .ok (.iastore, 1) := by decide +kernel
theorem dX7_minute_36 : decode cX7_minute 36 = .ok (.iinc 2 1, 3) := by decide +kernel
theorem dX7_minute_39 : decode cX7_minute 39 = .ok (.goto (-25), 3) := by decide +kernel
theorem dX7_minute_42 : decode cX7_minute 42 = .ok (.iconst 0, 1) := by decide +kernel
theorem dX7_minute_43 : decode cX7_minute 43 = .ok (.istore_n 2, 1) := by decide +kernel
theorem dX7_minute_44 : decode cX7_minute 44 = .ok (.iload_n 2, 1) := by decide +kernel
theorem dX7_minute_45 : decode cX7_minute 45 = .ok (.aload_n 0, 1) := by decide +kernel
theorem dX7_minute_46 : decode cX7_minute 46 = .ok (.getfield 7, 3) := by decide +kernel
theorem dX7_minute_49 : decode cX7_minute 49 = .ok (.bipush 7, 2) := by decide +kernel
theorem dX7_minute_51 : decode cX7_minute 51 = .ok (.iaload, 1) := by decide +kernel
theorem dX7_minute_52 : decode cX7_minute 52 = .ok (.if_icmp .ge 15, 3) := by decide +kernel
theorem dX7_minute_55 : decode cX7_minute 55 = .ok (.aload_n 0, 1) := by decide +kernel
theorem dX7_minute_56 : decode cX7_minute 56 = .ok (.iload_n 2, 1) := by decide +kernel
theorem dX7_minute_57 : decode cX7_minute 57 = .ok (.iload_n 1, 1) := by decide +kernel
theorem dX7_minute_58 : decode cX7_minute 58 = .ok (.invokevirtual 125, 3) := by decide +kernel
theorem dX7_minute_61 : decode cX7_minute 61 = .ok (.iinc 2 1, 3) := by decide +kernel
theorem dX7_minute_64 : decode cX7_minute 64 = .ok (.goto (-20), 3) := by decide +kernel
theorem dX7_minute_67 : decode cX7_minute 67 = .ok (.iconst 0, 1) := by decide +kernel
theorem dX7_minute_68 : decode cX7_minute 68 = .ok (.istore_n 2, 1) := by decide +kernel
theorem dX7_minute_69 : decode cX7_minute 69 = .ok (.iconst 0, 1) := by decide +kernel
theorem dX7_minute_70 : decode cX7_minute 70 = .ok (.istore_n 3, 1) := by decide +kernel
theorem dX7_minute_71 : decode cX7_minute 71 = .ok (.iload_n 3, 1) := by decide +kernel
theorem dX7_minute_72 : decode cX7_minute 72 = .ok (.aload_n 0, 1) := by decide +kernel
theorem dX7_minute_73 : decode cX7_minute 73 = .ok (.getfield 7, 3) := by decide +kernel
theorem dX7_minute_76 : decode cX7_minute 76 = .ok (.bipush 7, 2) := by decide +kernel
theorem dX7_minute_78 : decode cX7_minute 78 = .ok (.iaload, 1) := by decide +kernel
theorem dX7_minute_79 : decode cX7_minute 79 = .ok (.if_icmp .ge 17, 3) := by decide +kernel
theorem dX7_minute_82 : decode cX7_minute 82 = .ok (.iload_n 2, 1) := by decide +kernel
theorem dX7_minute_83 : decode cX7_minute 83 = .ok (.aload_n 0, 1) := by decide +kernel
theorem dX7_minute_84 : decode cX7_minute 84 = .ok (.iload_n 3, 1) := by decide +kernel
theorem dX7_minute_85 : decode cX7_minute 85 = .ok (.invokevirtual 129, 3) := by decide +kernel
theorem dX7_minute_88 : decode cX7_minute 88 = .ok (.iadd, 1) := by decide +kernel
theorem dX7_minute_89 : decode cX7_minute 89 = .ok (.istore_n 2, 1) := by decide +kernel
theorem dX7_minute_90 : decode cX7_minute 90 = .ok (.iinc 3 1, 3) := by decide +kernel
theorem dX7_minute_93 : decode cX7_minute 93 = .ok (.goto (-22), 3) := by decide +kernel
theorem dX7_minute_96 : decode cX7_minute 96 = .ok (.aload_n 0, 1) := by decide +kernel
theorem dX7_minute_97 : decode cX7_minute 97 = .ok (.getfield 7, 3) := by decide +kernel
theorem dX7_minute_100 : decode cX7_minute 100 = .ok (.bipush 8, 2) := by decide +kernel
theorem dX7_minute_102 : decode cX7_minute 102 = .ok (.dup2, 1) := by decide +kernel
theorem dX7_minute_103 : decode cX7_minute 103 = .ok (.iaload, 1) := by decide +kernel
theorem dX7_minute_104 : decode cX7_minute 104 = .ok (.iconst 1, 1) := by decide +kernel
theorem dX7_minute_105 : decode cX7_minute 105 = .ok (.iadd, 1) := by decide +kernel
theorem dX7_minute_106 : decode cX7_minute 106 = .ok (.iastore, 1) := by decide +kernel
theorem dX7_minute_107 : decode cX7_minute 107 = .ok (.iload_n 2, 1) := by decide +kernel
theorem dX7_minute_108 : decode cX7_minute 108 = .ok (.ireturn, 1) := by decide +kernel
theorem dX7_minutes_0 : decode cX7_minutes 0 = .ok (.iconst 0, 1) := by decide +kernel
theorem dX7_minutes_1 : decode cX7_minutes 1 = .ok (.istore_n 2, 1) := by decide +kernel
theorem dX7_minutes_2 : decode cX7_minutes 2 = .ok (.iconst 0, 1) := by decide +kernel
theorem dX7_minutes_3 : decode cX7_minutes 3 = .ok (.istore_n 3, 1) := by decide +kernel
theorem dX7_minutes_4 : decode cX7_minutes 4 = .ok (.iload_n 3, 1) := by decide +kernel
theorem dX7_minutes_5 : decode cX7_minutes 5 = .ok (.iload_n 1, 1) := by decide +kernel
theorem dX7_minutes_6 : decode cX7_minutes 6 = .ok (.if_icmp .ge 16, 3) := by decide +kernel
theorem dX7_minutes_9 : decode cX7_minutes 9 = .ok (.iload_n 2, 1) := by decide +kernel
theorem dX7_minutes_10 : decode cX7_minutes 10 = .ok (.aload_n 0, 1) := by decide +kernel
theorem dX7_minutes_11 : decode cX7_minutes 11 = .ok (.invokevirtual 132, 3) := by decide +kernel
theorem dX7_minutes_14 : decode cX7_minutes 14 = .ok (.iadd, 1) := by decide +kernel
theorem dX7_minutes_15 : decode cX7_minutes 15 = .ok (.istore_n 2, 1) := by decide +kernel
theorem dX7_minutes_16 : decode cX7_minutes 16 = .ok (.iinc 3 1, 3) := by decide +kernel
theorem dX7_minutes_19 : decode cX7_minutes 19 = .ok (.goto (-15), 3) := by decide +kernel
theorem dX7_minutes_22 : decode cX7_minutes 22 = .ok (.iload_n 2, 1) := by decide +kernel
theorem dX7_minutes_23 : decode cX7_minutes 23 = .ok (.ireturn, 1) := by decide +kernel
theorem dX7_pass_0 : decode cX7_pass 0 = .ok (.iload_n 1, 1) := by decide +kernel
theorem dX7_pass_1 : decode cX7_pass 1 = .ok (.iconst 1, 1) := by decide +kernel
theorem dX7_pass_2 : decode cX7_pass 2 = .ok (.sipush 500, 3) := by decide +kernel
theorem dX7_pass_5 : decode cX7_pass 5 = .ok (.invokestatic 35, 3) := by decide +kernel
theorem dX7_pass_8 : decode cX7_pass 8 = .ok (.ifCond .ne 6, 3) := by decide +kernel
theorem dX7_pass_11 : decode cX7_pass 11 = .ok (.ldc 46, 2) := by decide +kernel
theorem dX7_pass_13 : decode cX7_pass 13 = .ok (.ireturn, 1) := by decide +kernel
theorem dX7_pass_14 : decode cX7_pass 14 = .ok (.aload_n 0, 1) := by decide +kernel
theorem dX7_pass_15 : decode cX7_pass 15 = .ok (.getfield 7, 3) := by decide +kernel
theorem dX7_pass_18 : decode cX7_pass 18 = .ok (.bipush 7, 2) := by decide +kernel
theorem dX7_pass_20 : decode cX7_pass 20 = .ok (.iaload, 1) := by decide +kernel
theorem dX7_pass_21 : decode cX7_pass 21 = .ok (.ifCond .ne 6, 3) := by decide +kernel
theorem dX7_pass_24 : decode cX7_pass 24 = .ok (.ldc 34, 2) := by decide +kernel
theorem dX7_pass_26 : decode cX7_pass 26 = .ok (.ireturn, 1) := by decide +kernel
theorem dX7_pass_27 : decode cX7_pass 27 = .ok (.aload_n 0, 1) := by decide +kernel
theorem dX7_pass_28 : decode cX7_pass 28 = .ok (.getfield 7, 3) := by decide +kernel
theorem dX7_pass_31 : decode cX7_pass 31 = .ok (.bipush 8, 2) := by decide +kernel
theorem dX7_pass_33 : decode cX7_pass 33 = .ok (.iaload, 1) := by decide +kernel
theorem dX7_pass_34 : decode cX7_pass 34 = .ok (.iload_n 1, 1) := by decide +kernel
theorem dX7_pass_35 : decode cX7_pass 35 = .ok (.iadd, 1) := by decide +kernel
theorem dX7_pass_36 : decode cX7_pass 36 = .ok (.sipush 20000, 3) := by decide +kernel
theorem dX7_pass_39 : decode cX7_pass 39 = .ok (.if_icmp .le 6, 3) := by decide +kernel
theorem dX7_pass_42 : decode cX7_pass 42 = .ok (.ldc 47, 2) := by decide +kernel
theorem dX7_pass_44 : decode cX7_pass 44 = .ok (.ireturn, 1) := by decide +kernel
theorem dX7_pass_45 : decode cX7_pass 45 = .ok (.aload_n 0, 1) := by decide +kernel
theorem dX7_pass_46 : decode cX7_pass 46 = .ok (.invokevirtual 48, 3) := by decide +kernel
theorem dX7_pass_49 : decode cX7_pass 49 = .ok (.aload_n 0, 1) := by decide +kernel
theorem dX7_pass_50 : decode cX7_pass 50 = .ok (.iload_n 1, 1) := by decide +kernel
theorem dX7_pass_51 : decode cX7_pass 51 = .ok (.invokevirtual 135, 3) := by decide +kernel
theorem dX7_pass_54 : decode cX7_pass 54 = .ok (.ireturn, 1) := by decide +kernel
theorem dX7_keeps_0 : decode cX7_keeps 0 = .ok (.iconst 0, 1) := by decide +kernel
theorem dX7_keeps_1 : decode cX7_keeps 1 = .ok (.istore_n 1, 1) := by decide +kernel
theorem dX7_keeps_2 : decode cX7_keeps 2 = .ok (.iload_n 1, 1) := by decide +kernel
theorem dX7_keeps_3 : decode cX7_keeps 3 = .ok (.sipush 196, 3) := by decide +kernel
theorem dX7_keeps_6 : decode cX7_keeps 6 = .ok (.if_icmp .ge 21, 3) := by decide +kernel
theorem dX7_keeps_9 : decode cX7_keeps 9 = .ok (.aload_n 0, 1) := by decide +kernel
theorem dX7_keeps_10 : decode cX7_keeps 10 = .ok (.getfield 20, 3) := by decide +kernel
theorem dX7_keeps_13 : decode cX7_keeps 13 = .ok (.iload_n 1, 1) := by decide +kernel
theorem dX7_keeps_14 : decode cX7_keeps 14 = .ok (.aload_n 0, 1) := by decide +kernel
theorem dX7_keeps_15 : decode cX7_keeps 15 = .ok (.getfield 7, 3) := by decide +kernel
theorem dX7_keeps_18 : decode cX7_keeps 18 = .ok (.iload_n 1, 1) := by decide +kernel
theorem dX7_keeps_19 : decode cX7_keeps 19 = .ok (.iaload, 1) := by decide +kernel
theorem dX7_keeps_20 : decode cX7_keeps 20 = .ok (.iastore, 1) := by decide +kernel
theorem dX7_keeps_21 : decode cX7_keeps 21 = .ok (.iinc 1 1, 3) := by decide +kernel
theorem dX7_keeps_24 : decode cX7_keeps 24 = .ok (.goto (-22), 3) := by decide +kernel
theorem dX7_keeps_27 : decode cX7_keeps 27 = .ok (.return_, 1) := by decide +kernel
theorem dX7_restores_0 : decode cX7_restores 0 = .ok (.iconst 0, 1) := by decide +kernel
theorem dX7_restores_1 : decode cX7_restores 1 = .ok (.istore_n 1, 1) := by decide +kernel
theorem dX7_restores_2 : decode cX7_restores 2 = .ok (.iload_n 1, 1) := by decide +kernel
theorem dX7_restores_3 : decode cX7_restores 3 = .ok (.sipush 196, 3) := by decide +kernel
theorem dX7_restores_6 : decode cX7_restores 6 = .ok (.if_icmp .ge 21, 3) := by decide +kernel
theorem dX7_restores_9 : decode cX7_restores 9 = .ok (.aload_n 0, 1) := by decide +kernel
theorem dX7_restores_10 : decode cX7_restores 10 = .ok (.getfield 7, 3) := by decide +kernel
theorem dX7_restores_13 : decode cX7_restores 13 = .ok (.iload_n 1, 1) := by decide +kernel
theorem dX7_restores_14 : decode cX7_restores 14 = .ok (.aload_n 0, 1) := by decide +kernel
theorem dX7_restores_15 : decode cX7_restores 15 = .ok (.getfield 20, 3) := by decide +kernel
theorem dX7_restores_18 : decode cX7_restores 18 = .ok (.iload_n 1, 1) := by decide +kernel
theorem dX7_restores_19 : decode cX7_restores 19 = .ok (.iaload, 1) := by decide +kernel
theorem dX7_restores_20 : decode cX7_restores 20 = .ok (.iastore, 1) := by decide +kernel
theorem dX7_restores_21 : decode cX7_restores 21 = .ok (.iinc 1 1, 3) := by decide +kernel
theorem dX7_restores_24 : decode cX7_restores 24 = .ok (.goto (-22), 3) := by decide +kernel
theorem dX7_restores_27 : decode cX7_restores 27 = .ok (.return_, 1) := by decide +kernel
theorem dX7_minutesToSuspect_0 : decode cX7_minutesToSuspect 0 = .ok (.aload_n 0, 1) := by decide +kernel
theorem dX7_minutesToSuspect_1 : decode cX7_minutesToSuspect 1 = .ok (.iload_n 1, 1) := by decide +kernel
theorem dX7_minutesToSuspect_2 : decode cX7_minutesToSuspect 2 = .ok (.invokevirtual 56, 3) := by decide +kernel
theorem dX7_minutesToSuspect_5 : decode cX7_minutesToSuspect 5 = .ok (.ifCond .ne 6, 3) := by decide +kernel
theorem dX7_minutesToSuspect_8 : decode cX7_minutesToSuspect 8 = .ok (.ldc 46, 2) := by decide +kernel
theorem dX7_minutesToSuspect_10 : decode cX7_minutesToSuspect 10 = .ok (.ireturn, 1) := by decide +kernel
theorem dX7_minutesToSuspect_11 : decode cX7_minutesToSuspect 11 = .ok (.aload_n 0, 1) := by decide +kernel
theorem dX7_minutesToSuspect_12 : decode cX7_minutesToSuspect 12 = .ok (.invokevirtual 138, 3) := by decide +kernel
theorem dX7_minutesToSuspect_15 : decode cX7_minutesToSuspect 15 = .ok (.iconst 0, 1) := by decide +kernel
theorem dX7_minutesToSuspect_16 : decode cX7_minutesToSuspect 16 = .ok (.istore_n 2, 1) := by decide +kernel
theorem dX7_minutesToSuspect_17 : decode cX7_minutesToSuspect 17 = .ok (.iconst 0, 1) := by decide +kernel
theorem dX7_minutesToSuspect_18 : decode cX7_minutesToSuspect 18 = .ok (.istore_n 3, 1) := by decide +kernel
theorem dX7_minutesToSuspect_19 : decode cX7_minutesToSuspect 19 = .ok (.iload_n 2, 1) := by decide +kernel
theorem dX7_minutesToSuspect_20 : decode cX7_minutesToSuspect 20 = .ok (.sipush 1000, 3) := by decide +kernel
theorem dX7_minutesToSuspect_23 : decode cX7_minutesToSuspect 23 = .ok (.if_icmp .ge 24, 3) := by decide +kernel
theorem dX7_minutesToSuspect_26 : decode cX7_minutesToSuspect 26 = .ok (.aload_n 0, 1) := by decide +kernel
theorem dX7_minutesToSuspect_27 : decode cX7_minutesToSuspect 27 = .ok (.iload_n 1, 1) := by decide +kernel
theorem dX7_minutesToSuspect_28 : decode cX7_minutesToSuspect 28 = .ok (.invokevirtual 87, 3) := by decide +kernel
theorem dX7_minutesToSuspect_31 : decode cX7_minutesToSuspect 31 = .ok (.ifCond .ne 16, 3) := by decide +kernel
theorem dX7_minutesToSuspect_34 : decode cX7_minutesToSuspect 34 = .ok (.iload_n 3, 1) := by decide +kernel
theorem dX7_minutesToSuspect_35 : decode cX7_minutesToSuspect 35 = .ok (.aload_n 0, 1) := by decide +kernel
theorem dX7_minutesToSuspect_36 : decode cX7_minutesToSuspect 36 = .ok (.invokevirtual 132, 3) := by decide +kernel
theorem dX7_minutesToSuspect_39 : decode cX7_minutesToSuspect 39 = .ok (.iadd, 1) := by decide +kernel
theorem dX7_minutesToSuspect_40 : decode cX7_minutesToSuspect 40 = .ok (.istore_n 3, 1) := by decide +kernel
theorem dX7_minutesToSuspect_41 : decode cX7_minutesToSuspect 41 = .ok (.iinc 2 1, 3) := by decide +kernel
theorem dX7_minutesToSuspect_44 : decode cX7_minutesToSuspect 44 = .ok (.goto (-25), 3) := by decide +kernel
theorem dX7_minutesToSuspect_47 : decode cX7_minutesToSuspect 47 = .ok (.aload_n 0, 1) := by decide +kernel
theorem dX7_minutesToSuspect_48 : decode cX7_minutesToSuspect 48 = .ok (.iload_n 1, 1) := by decide +kernel
theorem dX7_minutesToSuspect_49 : decode cX7_minutesToSuspect 49 = .ok (.invokevirtual 87, 3) := by decide +kernel
theorem dX7_minutesToSuspect_52 : decode cX7_minutesToSuspect 52 = .ok (.ifCond .eq 11, 3) := by decide +kernel
theorem dX7_minutesToSuspect_55 : decode cX7_minutesToSuspect 55 = .ok (.iload_n 3, 1) := by decide +kernel
theorem dX7_minutesToSuspect_56 : decode cX7_minutesToSuspect 56 = .ok (.ifCond .lt 7, 3) := by decide +kernel
theorem dX7_minutesToSuspect_59 : decode cX7_minutesToSuspect 59 = .ok (.iconst 1, 1) := by decide +kernel
theorem dX7_minutesToSuspect_60 : decode cX7_minutesToSuspect 60 = .ok (.goto 4, 3) := by decide +kernel
theorem dX7_minutesToSuspect_63 : decode cX7_minutesToSuspect 63 = .ok (.iconst 0, 1) := by decide +kernel
theorem dX7_minutesToSuspect_64 : decode cX7_minutesToSuspect 64 = .ok (.istore 4, 2) := by decide +kernel
theorem dX7_minutesToSuspect_66 : decode cX7_minutesToSuspect 66 = .ok (.aload_n 0, 1) := by decide +kernel
theorem dX7_minutesToSuspect_67 : decode cX7_minutesToSuspect 67 = .ok (.invokevirtual 141, 3) := by decide +kernel
theorem dX7_minutesToSuspect_70 : decode cX7_minutesToSuspect 70 = .ok (.iload 4, 2) := by decide +kernel
theorem dX7_minutesToSuspect_72 : decode cX7_minutesToSuspect 72 = .ok (.ifCond .eq 7, 3) := by decide +kernel
theorem dX7_minutesToSuspect_75 : decode cX7_minutesToSuspect 75 = .ok (.iload_n 2, 1) := by decide +kernel
theorem dX7_minutesToSuspect_76 : decode cX7_minutesToSuspect 76 = .ok (.goto 5, 3) := by decide +kernel
theorem dX7_minutesToSuspect_79 : decode cX7_minutesToSuspect 79 = .ok (.ldc 55, 2) := by decide +kernel
theorem dX7_minutesToSuspect_81 : decode cX7_minutesToSuspect 81 = .ok (.ireturn, 1) := by decide +kernel
theorem dX7_heated_0 : decode cX7_heated 0 = .ok (.iconst 0, 1) := by decide +kernel
theorem dX7_heated_1 : decode cX7_heated 1 = .ok (.istore_n 1, 1) := by decide +kernel
theorem dX7_heated_2 : decode cX7_heated 2 = .ok (.iconst 0, 1) := by decide +kernel
theorem dX7_heated_3 : decode cX7_heated 3 = .ok (.istore_n 2, 1) := by decide +kernel
theorem dX7_heated_4 : decode cX7_heated 4 = .ok (.iload_n 2, 1) := by decide +kernel
theorem dX7_heated_5 : decode cX7_heated 5 = .ok (.aload_n 0, 1) := by decide +kernel
theorem dX7_heated_6 : decode cX7_heated 6 = .ok (.getfield 7, 3) := by decide +kernel
theorem dX7_heated_9 : decode cX7_heated 9 = .ok (.bipush 7, 2) := by decide +kernel
theorem dX7_heated_11 : decode cX7_heated 11 = .ok (.iaload, 1) := by decide +kernel
theorem dX7_heated_12 : decode cX7_heated 12 = .ok (.if_icmp .ge 19, 3) := by decide +kernel
theorem dX7_heated_15 : decode cX7_heated 15 = .ok (.iload_n 1, 1) := by decide +kernel
theorem dX7_heated_16 : decode cX7_heated 16 = .ok (.aload_n 0, 1) := by decide +kernel
theorem dX7_heated_17 : decode cX7_heated 17 = .ok (.iload_n 2, 1) := by decide +kernel
theorem dX7_heated_18 : decode cX7_heated 18 = .ok (.bipush 17, 2) := by decide +kernel
theorem dX7_heated_20 : decode cX7_heated 20 = .ok (.invokevirtual 39, 3) := by decide +kernel
theorem dX7_heated_23 : decode cX7_heated 23 = .ok (.iadd, 1) := by decide +kernel
theorem dX7_heated_24 : decode cX7_heated 24 = .ok (.istore_n 1, 1) := by decide +kernel
theorem dX7_heated_25 : decode cX7_heated 25 = .ok (.iinc 2 1, 3) := by decide +kernel
theorem dX7_heated_28 : decode cX7_heated 28 = .ok (.goto (-24), 3) := by decide +kernel
theorem dX7_heated_31 : decode cX7_heated 31 = .ok (.iload_n 1, 1) := by decide +kernel
theorem dX7_heated_32 : decode cX7_heated 32 = .ok (.ireturn, 1) := by decide +kernel
theorem dX7_heatIn_0 : decode cX7_heatIn 0 = .ok (.iload_n 1, 1) := by decide +kernel
theorem dX7_heatIn_1 : decode cX7_heatIn 1 = .ok (.iconst 1, 1) := by decide +kernel
theorem dX7_heatIn_2 : decode cX7_heatIn 2 = .ok (.sipush 1000, 3) := by decide +kernel
theorem dX7_heatIn_5 : decode cX7_heatIn 5 = .ok (.invokestatic 35, 3) := by decide +kernel
theorem dX7_heatIn_8 : decode cX7_heatIn 8 = .ok (.ifCond .ne 6, 3) := by decide +kernel
theorem dX7_heatIn_11 : decode cX7_heatIn 11 = .ok (.ldc 46, 2) := by decide +kernel
theorem dX7_heatIn_13 : decode cX7_heatIn 13 = .ok (.ireturn, 1) := by decide +kernel
theorem dX7_heatIn_14 : decode cX7_heatIn 14 = .ok (.aload_n 0, 1) := by decide +kernel
theorem dX7_heatIn_15 : decode cX7_heatIn 15 = .ok (.invokevirtual 138, 3) := by decide +kernel
theorem dX7_heatIn_18 : decode cX7_heatIn 18 = .ok (.aload_n 0, 1) := by decide +kernel
theorem dX7_heatIn_19 : decode cX7_heatIn 19 = .ok (.invokevirtual 144, 3) := by decide +kernel
theorem dX7_heatIn_22 : decode cX7_heatIn 22 = .ok (.istore_n 2, 1) := by decide +kernel
theorem dX7_heatIn_23 : decode cX7_heatIn 23 = .ok (.aload_n 0, 1) := by decide +kernel
theorem dX7_heatIn_24 : decode cX7_heatIn 24 = .ok (.iload_n 1, 1) := by decide +kernel
theorem dX7_heatIn_25 : decode cX7_heatIn 25 = .ok (.invokevirtual 135, 3) := by decide +kernel
theorem dX7_heatIn_28 : decode cX7_heatIn 28 = .ok (.istore_n 3, 1) := by decide +kernel
theorem dX7_heatIn_29 : decode cX7_heatIn 29 = .ok (.iload_n 3, 1) := by decide +kernel
theorem dX7_heatIn_30 : decode cX7_heatIn 30 = .ok (.ifCond .ge 7, 3) := by decide +kernel
theorem dX7_heatIn_33 : decode cX7_heatIn 33 = .ok (.iload_n 2, 1) := by decide +kernel
theorem dX7_heatIn_34 : decode cX7_heatIn 34 = .ok (.goto 7, 3) := by decide +kernel
theorem dX7_heatIn_37 : decode cX7_heatIn 37 = .ok (.aload_n 0, 1) := by decide +kernel
theorem dX7_heatIn_38 : decode cX7_heatIn 38 = .ok (.invokevirtual 144, 3) := by decide +kernel
theorem dX7_heatIn_41 : decode cX7_heatIn 41 = .ok (.istore 4, 2) := by decide +kernel
theorem dX7_heatIn_43 : decode cX7_heatIn 43 = .ok (.aload_n 0, 1) := by decide +kernel
theorem dX7_heatIn_44 : decode cX7_heatIn 44 = .ok (.invokevirtual 141, 3) := by decide +kernel
theorem dX7_heatIn_47 : decode cX7_heatIn 47 = .ok (.iload 4, 2) := by decide +kernel
theorem dX7_heatIn_49 : decode cX7_heatIn 49 = .ok (.iload_n 2, 1) := by decide +kernel
theorem dX7_heatIn_50 : decode cX7_heatIn 50 = .ok (.isub, 1) := by decide +kernel
theorem dX7_heatIn_51 : decode cX7_heatIn 51 = .ok (.ireturn, 1) := by decide +kernel
theorem dX7_fined_0 : decode cX7_fined 0 = .ok (.aload_n 0, 1) := by decide +kernel
theorem dX7_fined_1 : decode cX7_fined 1 = .ok (.invokevirtual 138, 3) := by decide +kernel
theorem dX7_fined_4 : decode cX7_fined 4 = .ok (.aload_n 0, 1) := by decide +kernel
theorem dX7_fined_5 : decode cX7_fined 5 = .ok (.iload_n 1, 1) := by decide +kernel
theorem dX7_fined_6 : decode cX7_fined 6 = .ok (.bipush 12, 2) := by decide +kernel
theorem dX7_fined_8 : decode cX7_fined 8 = .ok (.invokevirtual 39, 3) := by decide +kernel
theorem dX7_fined_11 : decode cX7_fined 11 = .ok (.istore 4, 2) := by decide +kernel
theorem dX7_fined_13 : decode cX7_fined 13 = .ok (.aload_n 0, 1) := by decide +kernel
theorem dX7_fined_14 : decode cX7_fined 14 = .ok (.iload_n 1, 1) := by decide +kernel
theorem dX7_fined_15 : decode cX7_fined 15 = .ok (.iconst 5, 1) := by decide +kernel
theorem dX7_fined_16 : decode cX7_fined 16 = .ok (.iload_n 2, 1) := by decide +kernel
theorem dX7_fined_17 : decode cX7_fined 17 = .ok (.invokevirtual 51, 3) := by decide +kernel
theorem dX7_fined_20 : decode cX7_fined 20 = .ok (.aload_n 0, 1) := by decide +kernel
theorem dX7_fined_21 : decode cX7_fined 21 = .ok (.iload_n 3, 1) := by decide +kernel
theorem dX7_fined_22 : decode cX7_fined 22 = .ok (.invokevirtual 135, 3) := by decide +kernel
theorem dX7_fined_25 : decode cX7_fined 25 = .ok (.istore 5, 2) := by decide +kernel
theorem dX7_fined_27 : decode cX7_fined 27 = .ok (.iload 5, 2) := by decide +kernel
theorem dX7_fined_29 : decode cX7_fined 29 = .ok (.ifCond .ge 8, 3) := by decide +kernel
theorem dX7_fined_32 : decode cX7_fined 32 = .ok (.iload 4, 2) := by decide +kernel
theorem dX7_fined_34 : decode cX7_fined 34 = .ok (.goto 10, 3) := by decide +kernel
theorem dX7_fined_37 : decode cX7_fined 37 = .ok (.aload_n 0, 1) := by decide +kernel
theorem dX7_fined_38 : decode cX7_fined 38 = .ok (.iload_n 1, 1) := by decide +kernel
theorem dX7_fined_39 : decode cX7_fined 39 = .ok (.bipush 12, 2) := by decide +kernel
theorem dX7_fined_41 : decode cX7_fined 41 = .ok (.invokevirtual 39, 3) := by decide +kernel
theorem dX7_fined_44 : decode cX7_fined 44 = .ok (.istore 6, 2) := by decide +kernel
theorem dX7_fined_46 : decode cX7_fined 46 = .ok (.aload_n 0, 1) := by decide +kernel
theorem dX7_fined_47 : decode cX7_fined 47 = .ok (.invokevirtual 141, 3) := by decide +kernel
theorem dX7_fined_50 : decode cX7_fined 50 = .ok (.iload 6, 2) := by decide +kernel
theorem dX7_fined_52 : decode cX7_fined 52 = .ok (.iload 4, 2) := by decide +kernel
theorem dX7_fined_54 : decode cX7_fined 54 = .ok (.isub, 1) := by decide +kernel
theorem dX7_fined_55 : decode cX7_fined 55 = .ok (.ireturn, 1) := by decide +kernel
theorem dX7_finesWith_0 : decode cX7_finesWith 0 = .ok (.aload_n 0, 1) := by decide +kernel
theorem dX7_finesWith_1 : decode cX7_finesWith 1 = .ok (.iload_n 1, 1) := by decide +kernel
theorem dX7_finesWith_2 : decode cX7_finesWith 2 = .ok (.invokevirtual 56, 3) := by decide +kernel
theorem dX7_finesWith_5 : decode cX7_finesWith 5 = .ok (.ifCond .eq 26, 3) := by decide +kernel
theorem dX7_finesWith_8 : decode cX7_finesWith 8 = .ok (.iload_n 2, 1) := by decide +kernel
theorem dX7_finesWith_9 : decode cX7_finesWith 9 = .ok (.bipush 100, 2) := by decide +kernel
theorem dX7_finesWith_11 : decode cX7_finesWith 11 = .ok (.sipush 5000, 3) := by decide +kernel
theorem dX7_finesWith_14 : decode cX7_finesWith 14 = .ok (.invokestatic 35, 3) := by decide +kernel
theorem dX7_finesWith_17 : decode cX7_finesWith 17 = .ok (.ifCond .eq 14, 3) := by decide +kernel
theorem dX7_finesWith_20 : decode cX7_finesWith 20 = .ok (.iload_n 3, 1) := by decide +kernel
theorem dX7_finesWith_21 : decode cX7_finesWith 21 = .ok (.iconst 1, 1) := by decide +kernel
theorem dX7_finesWith_22 : decode cX7_finesWith 22 = .ok (.sipush 1000, 3) := by decide +kernel
theorem dX7_finesWith_25 : decode cX7_finesWith 25 = .ok (.invokestatic 35, 3) := by decide +kernel
theorem dX7_finesWith_28 : decode cX7_finesWith 28 = .ok (.ifCond .ne 8, 3) := by decide +kernel
theorem dX7_finesWith_31 : decode cX7_finesWith 31 = .ok (.ldc 46, 2) := by decide +kernel
theorem dX7_finesWith_33 : decode cX7_finesWith 33 = .ok (.goto 10, 3) := by decide +kernel
theorem dX7_finesWith_36 : decode cX7_finesWith 36 = .ok (.aload_n 0, 1) := by decide +kernel
theorem dX7_finesWith_37 : decode cX7_finesWith 37 = .ok (.iload_n 1, 1) := by decide +kernel
theorem dX7_finesWith_38 : decode cX7_finesWith 38 = .ok (.iload_n 2, 1) := by decide +kernel
theorem dX7_finesWith_39 : decode cX7_finesWith 39 = .ok (.iload_n 3, 1) := by decide +kernel
theorem dX7_finesWith_40 : decode cX7_finesWith 40 = .ok (.invokevirtual 147, 3) := by decide +kernel
theorem dX7_finesWith_43 : decode cX7_finesWith 43 = .ok (.ireturn, 1) := by decide +kernel
theorem dX7_quietBand_0 : decode cX7_quietBand 0 = .ok (.aload_n 0, 1) := by decide +kernel
theorem dX7_quietBand_1 : decode cX7_quietBand 1 = .ok (.iload_n 1, 1) := by decide +kernel
theorem dX7_quietBand_2 : decode cX7_quietBand 2 = .ok (.invokevirtual 56, 3) := by decide +kernel
theorem dX7_quietBand_5 : decode cX7_quietBand 5 = .ok (.ifCond .eq 14, 3) := by decide +kernel
theorem dX7_quietBand_8 : decode cX7_quietBand 8 = .ok (.iload_n 2, 1) := by decide +kernel
theorem dX7_quietBand_9 : decode cX7_quietBand 9 = .ok (.iconst 1, 1) := by decide +kernel
theorem dX7_quietBand_10 : decode cX7_quietBand 10 = .ok (.sipush 300, 3) := by decide +kernel
theorem dX7_quietBand_13 : decode cX7_quietBand 13 = .ok (.invokestatic 35, 3) := by decide +kernel
theorem dX7_quietBand_16 : decode cX7_quietBand 16 = .ok (.ifCond .ne 6, 3) := by decide +kernel
theorem dX7_quietBand_19 : decode cX7_quietBand 19 = .ok (.ldc 46, 2) := by decide +kernel
theorem dX7_quietBand_21 : decode cX7_quietBand 21 = .ok (.ireturn, 1) := by decide +kernel
theorem dX7_quietBand_22 : decode cX7_quietBand 22 = .ok (.bipush 100, 2) := by decide +kernel
theorem dX7_quietBand_24 : decode cX7_quietBand 24 = .ok (.istore_n 3, 1) := by decide +kernel
theorem dX7_quietBand_25 : decode cX7_quietBand 25 = .ok (.iload_n 3, 1) := by decide +kernel
theorem dX7_quietBand_26 : decode cX7_quietBand 26 = .ok (.sipush 5000, 3) := by decide +kernel
theorem dX7_quietBand_29 : decode cX7_quietBand 29 = .ok (.if_icmp .gt 19, 3) := by decide +kernel
theorem dX7_quietBand_32 : decode cX7_quietBand 32 = .ok (.aload_n 0, 1) := by decide +kernel
theorem dX7_quietBand_33 : decode cX7_quietBand 33 = .ok (.iload_n 1, 1) := by decide +kernel
theorem dX7_quietBand_34 : decode cX7_quietBand 34 = .ok (.iload_n 3, 1) := by decide +kernel
theorem dX7_quietBand_35 : decode cX7_quietBand 35 = .ok (.iload_n 2, 1) := by decide +kernel
theorem dX7_quietBand_36 : decode cX7_quietBand 36 = .ok (.invokevirtual 147, 3) := by decide +kernel
theorem dX7_quietBand_39 : decode cX7_quietBand 39 = .ok (.ifCond .le 9, 3) := by decide +kernel
theorem dX7_quietBand_42 : decode cX7_quietBand 42 = .ok (.iinc 3 100, 3) := by decide +kernel
theorem dX7_quietBand_45 : decode cX7_quietBand 45 = .ok (.goto (-20), 3) := by decide +kernel
theorem dX7_quietBand_48 : decode cX7_quietBand 48 = .ok (.iload_n 3, 1) := by decide +kernel
theorem dX7_quietBand_49 : decode cX7_quietBand 49 = .ok (.sipush 5000, 3) := by decide +kernel
theorem dX7_quietBand_52 : decode cX7_quietBand 52 = .ok (.if_icmp .gt 7, 3) := by decide +kernel
theorem dX7_quietBand_55 : decode cX7_quietBand 55 = .ok (.iload_n 3, 1) := by decide +kernel
theorem dX7_quietBand_56 : decode cX7_quietBand 56 = .ok (.goto 5, 3) := by decide +kernel
theorem dX7_quietBand_59 : decode cX7_quietBand 59 = .ok (.ldc 55, 2) := by decide +kernel
theorem dX7_quietBand_61 : decode cX7_quietBand 61 = .ok (.ireturn, 1) := by decide +kernel
theorem dL_law_0 : decode cL_law 0 = .ok (.new 7, 3) := by decide +kernel
theorem dL_law_3 : decode cL_law 3 = .ok (.dup, 1) := by decide +kernel
theorem dL_law_4 : decode cL_law 4 = .ok (.invokespecial 9, 3) := by decide +kernel
theorem dL_law_7 : decode cL_law 7 = .ok (.astore_n 1, 1) := by decide +kernel
theorem dL_law_8 : decode cL_law 8 = .ok (.new 10, 3) := by decide +kernel
theorem dL_law_11 : decode cL_law 11 = .ok (.dup, 1) := by decide +kernel
theorem dL_law_12 : decode cL_law 12 = .ok (.invokespecial 12, 3) := by decide +kernel
theorem dL_law_15 : decode cL_law 15 = .ok (.astore_n 2, 1) := by decide +kernel
theorem dL_law_16 : decode cL_law 16 = .ok (.iconst 0, 1) := by decide +kernel
theorem dL_law_17 : decode cL_law 17 = .ok (.istore_n 3, 1) := by decide +kernel
theorem dL_law_18 : decode cL_law 18 = .ok (.iload_n 3, 1) := by decide +kernel
theorem dL_law_19 : decode cL_law 19 = .ok (.aload_n 0, 1) := by decide +kernel
theorem dL_law_20 : decode cL_law 20 = .ok (.arraylength, 1) := by decide +kernel
theorem dL_law_21 : decode cL_law 21 = .ok (.iconst 5, 1) := by decide +kernel
theorem dL_law_22 : decode cL_law 22 = .ok (.isub, 1) := by decide +kernel
theorem dL_law_23 : decode cL_law 23 = .ok (.if_icmp .gt 718, 3) := by decide +kernel
theorem dL_law_26 : decode cL_law 26 = .ok (.aload_n 0, 1) := by decide +kernel
theorem dL_law_27 : decode cL_law 27 = .ok (.iload_n 3, 1) := by decide +kernel
theorem dL_law_28 : decode cL_law 28 = .ok (.iaload, 1) := by decide +kernel
theorem dL_law_29 : decode cL_law 29 = .ok (.bipush 31, 2) := by decide +kernel
theorem dL_law_31 : decode cL_law 31 = .ok (.iand, 1) := by decide +kernel
theorem dL_law_32 : decode cL_law 32 = .ok (.tableswitch 703 0 20 #[100, 153, 196, 239, 272, 305, 328, 351, 384, 417, 450, 473, 496, 509, 522, 545, 568, 591, 614, 657, 690], 100) := by decide +kernel
theorem dL_law_132 : decode cL_law 132 = .ok (.aload_n 1, 1) := by decide +kernel
theorem dL_law_133 : decode cL_law 133 = .ok (.aload_n 0, 1) := by decide +kernel
theorem dL_law_134 : decode cL_law 134 = .ok (.iload_n 3, 1) := by decide +kernel
theorem dL_law_135 : decode cL_law 135 = .ok (.iconst 1, 1) := by decide +kernel
theorem dL_law_136 : decode cL_law 136 = .ok (.iadd, 1) := by decide +kernel
theorem dL_law_137 : decode cL_law 137 = .ok (.iaload, 1) := by decide +kernel
theorem dL_law_138 : decode cL_law 138 = .ok (.aload_n 0, 1) := by decide +kernel
theorem dL_law_139 : decode cL_law 139 = .ok (.iload_n 3, 1) := by decide +kernel
theorem dL_law_140 : decode cL_law 140 = .ok (.iconst 2, 1) := by decide +kernel
theorem dL_law_141 : decode cL_law 141 = .ok (.iadd, 1) := by decide +kernel
theorem dL_law_142 : decode cL_law 142 = .ok (.iaload, 1) := by decide +kernel
theorem dL_law_143 : decode cL_law 143 = .ok (.aload_n 0, 1) := by decide +kernel
theorem dL_law_144 : decode cL_law 144 = .ok (.iload_n 3, 1) := by decide +kernel
theorem dL_law_145 : decode cL_law 145 = .ok (.iconst 3, 1) := by decide +kernel
theorem dL_law_146 : decode cL_law 146 = .ok (.iadd, 1) := by decide +kernel
theorem dL_law_147 : decode cL_law 147 = .ok (.iaload, 1) := by decide +kernel
theorem dL_law_148 : decode cL_law 148 = .ok (.aload_n 0, 1) := by decide +kernel
theorem dL_law_149 : decode cL_law 149 = .ok (.iload_n 3, 1) := by decide +kernel
theorem dL_law_150 : decode cL_law 150 = .ok (.iconst 4, 1) := by decide +kernel
theorem dL_law_151 : decode cL_law 151 = .ok (.iadd, 1) := by decide +kernel
theorem dL_law_152 : decode cL_law 152 = .ok (.iaload, 1) := by decide +kernel
theorem dL_law_153 : decode cL_law 153 = .ok (.invokevirtual 13, 3) := by decide +kernel
theorem dL_law_156 : decode cL_law 156 = .ok (.aload_n 2, 1) := by decide +kernel
theorem dL_law_157 : decode cL_law 157 = .ok (.aload_n 0, 1) := by decide +kernel
theorem dL_law_158 : decode cL_law 158 = .ok (.iload_n 3, 1) := by decide +kernel
theorem dL_law_159 : decode cL_law 159 = .ok (.iconst 1, 1) := by decide +kernel
theorem dL_law_160 : decode cL_law 160 = .ok (.iadd, 1) := by decide +kernel
theorem dL_law_161 : decode cL_law 161 = .ok (.iaload, 1) := by decide +kernel
theorem dL_law_162 : decode cL_law 162 = .ok (.aload_n 0, 1) := by decide +kernel
theorem dL_law_163 : decode cL_law 163 = .ok (.iload_n 3, 1) := by decide +kernel
theorem dL_law_164 : decode cL_law 164 = .ok (.iconst 2, 1) := by decide +kernel
theorem dL_law_165 : decode cL_law 165 = .ok (.iadd, 1) := by decide +kernel
theorem dL_law_166 : decode cL_law 166 = .ok (.iaload, 1) := by decide +kernel
theorem dL_law_167 : decode cL_law 167 = .ok (.aload_n 0, 1) := by decide +kernel
theorem dL_law_168 : decode cL_law 168 = .ok (.iload_n 3, 1) := by decide +kernel
theorem dL_law_169 : decode cL_law 169 = .ok (.iconst 3, 1) := by decide +kernel
theorem dL_law_170 : decode cL_law 170 = .ok (.iadd, 1) := by decide +kernel
theorem dL_law_171 : decode cL_law 171 = .ok (.iaload, 1) := by decide +kernel
theorem dL_law_172 : decode cL_law 172 = .ok (.aload_n 0, 1) := by decide +kernel
theorem dL_law_173 : decode cL_law 173 = .ok (.iload_n 3, 1) := by decide +kernel
theorem dL_law_174 : decode cL_law 174 = .ok (.iconst 4, 1) := by decide +kernel
theorem dL_law_175 : decode cL_law 175 = .ok (.iadd, 1) := by decide +kernel
theorem dL_law_176 : decode cL_law 176 = .ok (.iaload, 1) := by decide +kernel
theorem dL_law_177 : decode cL_law 177 = .ok (.invokevirtual 17, 3) := by decide +kernel
theorem dL_law_180 : decode cL_law 180 = .ok (.if_icmp .eq 555, 3) := by decide +kernel
theorem dL_law_183 : decode cL_law 183 = .ok (.iconst 0, 1) := by decide +kernel
theorem dL_law_184 : decode cL_law 184 = .ok (.ireturn, 1) := by decide +kernel
theorem dL_law_185 : decode cL_law 185 = .ok (.aload_n 1, 1) := by decide +kernel
theorem dL_law_186 : decode cL_law 186 = .ok (.aload_n 0, 1) := by decide +kernel
theorem dL_law_187 : decode cL_law 187 = .ok (.iload_n 3, 1) := by decide +kernel
theorem dL_law_188 : decode cL_law 188 = .ok (.iconst 1, 1) := by decide +kernel
theorem dL_law_189 : decode cL_law 189 = .ok (.iadd, 1) := by decide +kernel
theorem dL_law_190 : decode cL_law 190 = .ok (.iaload, 1) := by decide +kernel
theorem dL_law_191 : decode cL_law 191 = .ok (.aload_n 0, 1) := by decide +kernel
theorem dL_law_192 : decode cL_law 192 = .ok (.iload_n 3, 1) := by decide +kernel
theorem dL_law_193 : decode cL_law 193 = .ok (.iconst 2, 1) := by decide +kernel
theorem dL_law_194 : decode cL_law 194 = .ok (.iadd, 1) := by decide +kernel
theorem dL_law_195 : decode cL_law 195 = .ok (.iaload, 1) := by decide +kernel
theorem dL_law_196 : decode cL_law 196 = .ok (.aload_n 0, 1) := by decide +kernel
theorem dL_law_197 : decode cL_law 197 = .ok (.iload_n 3, 1) := by decide +kernel
theorem dL_law_198 : decode cL_law 198 = .ok (.iconst 3, 1) := by decide +kernel
theorem dL_law_199 : decode cL_law 199 = .ok (.iadd, 1) := by decide +kernel
theorem dL_law_200 : decode cL_law 200 = .ok (.iaload, 1) := by decide +kernel
theorem dL_law_201 : decode cL_law 201 = .ok (.invokevirtual 18, 3) := by decide +kernel
theorem dL_law_204 : decode cL_law 204 = .ok (.aload_n 2, 1) := by decide +kernel
theorem dL_law_205 : decode cL_law 205 = .ok (.aload_n 0, 1) := by decide +kernel
theorem dL_law_206 : decode cL_law 206 = .ok (.iload_n 3, 1) := by decide +kernel
theorem dL_law_207 : decode cL_law 207 = .ok (.iconst 1, 1) := by decide +kernel
theorem dL_law_208 : decode cL_law 208 = .ok (.iadd, 1) := by decide +kernel
theorem dL_law_209 : decode cL_law 209 = .ok (.iaload, 1) := by decide +kernel
theorem dL_law_210 : decode cL_law 210 = .ok (.aload_n 0, 1) := by decide +kernel
theorem dL_law_211 : decode cL_law 211 = .ok (.iload_n 3, 1) := by decide +kernel
theorem dL_law_212 : decode cL_law 212 = .ok (.iconst 2, 1) := by decide +kernel
theorem dL_law_213 : decode cL_law 213 = .ok (.iadd, 1) := by decide +kernel
theorem dL_law_214 : decode cL_law 214 = .ok (.iaload, 1) := by decide +kernel
theorem dL_law_215 : decode cL_law 215 = .ok (.aload_n 0, 1) := by decide +kernel
theorem dL_law_216 : decode cL_law 216 = .ok (.iload_n 3, 1) := by decide +kernel
theorem dL_law_217 : decode cL_law 217 = .ok (.iconst 3, 1) := by decide +kernel
theorem dL_law_218 : decode cL_law 218 = .ok (.iadd, 1) := by decide +kernel
theorem dL_law_219 : decode cL_law 219 = .ok (.iaload, 1) := by decide +kernel
theorem dL_law_220 : decode cL_law 220 = .ok (.invokevirtual 22, 3) := by decide +kernel
theorem dL_law_223 : decode cL_law 223 = .ok (.if_icmp .eq 512, 3) := by decide +kernel
theorem dL_law_226 : decode cL_law 226 = .ok (.iconst 0, 1) := by decide +kernel
theorem dL_law_227 : decode cL_law 227 = .ok (.ireturn, 1) := by decide +kernel
theorem dL_law_228 : decode cL_law 228 = .ok (.aload_n 1, 1) := by decide +kernel
theorem dL_law_229 : decode cL_law 229 = .ok (.aload_n 0, 1) := by decide +kernel
theorem dL_law_230 : decode cL_law 230 = .ok (.iload_n 3, 1) := by decide +kernel
theorem dL_law_231 : decode cL_law 231 = .ok (.iconst 1, 1) := by decide +kernel
theorem dL_law_232 : decode cL_law 232 = .ok (.iadd, 1) := by decide +kernel
theorem dL_law_233 : decode cL_law 233 = .ok (.iaload, 1) := by decide +kernel
theorem dL_law_234 : decode cL_law 234 = .ok (.aload_n 0, 1) := by decide +kernel
theorem dL_law_235 : decode cL_law 235 = .ok (.iload_n 3, 1) := by decide +kernel
theorem dL_law_236 : decode cL_law 236 = .ok (.iconst 2, 1) := by decide +kernel
theorem dL_law_237 : decode cL_law 237 = .ok (.iadd, 1) := by decide +kernel
theorem dL_law_238 : decode cL_law 238 = .ok (.iaload, 1) := by decide +kernel
theorem dL_law_239 : decode cL_law 239 = .ok (.aload_n 0, 1) := by decide +kernel
theorem dL_law_240 : decode cL_law 240 = .ok (.iload_n 3, 1) := by decide +kernel
theorem dL_law_241 : decode cL_law 241 = .ok (.iconst 3, 1) := by decide +kernel
theorem dL_law_242 : decode cL_law 242 = .ok (.iadd, 1) := by decide +kernel
theorem dL_law_243 : decode cL_law 243 = .ok (.iaload, 1) := by decide +kernel
theorem dL_law_244 : decode cL_law 244 = .ok (.invokevirtual 23, 3) := by decide +kernel
theorem dL_law_247 : decode cL_law 247 = .ok (.aload_n 2, 1) := by decide +kernel
theorem dL_law_248 : decode cL_law 248 = .ok (.aload_n 0, 1) := by decide +kernel
theorem dL_law_249 : decode cL_law 249 = .ok (.iload_n 3, 1) := by decide +kernel
theorem dL_law_250 : decode cL_law 250 = .ok (.iconst 1, 1) := by decide +kernel
theorem dL_law_251 : decode cL_law 251 = .ok (.iadd, 1) := by decide +kernel
theorem dL_law_252 : decode cL_law 252 = .ok (.iaload, 1) := by decide +kernel
theorem dL_law_253 : decode cL_law 253 = .ok (.aload_n 0, 1) := by decide +kernel
theorem dL_law_254 : decode cL_law 254 = .ok (.iload_n 3, 1) := by decide +kernel
theorem dL_law_255 : decode cL_law 255 = .ok (.iconst 2, 1) := by decide +kernel
theorem dL_law_256 : decode cL_law 256 = .ok (.iadd, 1) := by decide +kernel
theorem dL_law_257 : decode cL_law 257 = .ok (.iaload, 1) := by decide +kernel
theorem dL_law_258 : decode cL_law 258 = .ok (.aload_n 0, 1) := by decide +kernel
theorem dL_law_259 : decode cL_law 259 = .ok (.iload_n 3, 1) := by decide +kernel
theorem dL_law_260 : decode cL_law 260 = .ok (.iconst 3, 1) := by decide +kernel
theorem dL_law_261 : decode cL_law 261 = .ok (.iadd, 1) := by decide +kernel
theorem dL_law_262 : decode cL_law 262 = .ok (.iaload, 1) := by decide +kernel
theorem dL_law_263 : decode cL_law 263 = .ok (.invokevirtual 26, 3) := by decide +kernel
theorem dL_law_266 : decode cL_law 266 = .ok (.if_icmp .eq 469, 3) := by decide +kernel
theorem dL_law_269 : decode cL_law 269 = .ok (.iconst 0, 1) := by decide +kernel
theorem dL_law_270 : decode cL_law 270 = .ok (.ireturn, 1) := by decide +kernel
theorem dL_law_271 : decode cL_law 271 = .ok (.aload_n 1, 1) := by decide +kernel
theorem dL_law_272 : decode cL_law 272 = .ok (.aload_n 0, 1) := by decide +kernel
theorem dL_law_273 : decode cL_law 273 = .ok (.iload_n 3, 1) := by decide +kernel
theorem dL_law_274 : decode cL_law 274 = .ok (.iconst 1, 1) := by decide +kernel
theorem dL_law_275 : decode cL_law 275 = .ok (.iadd, 1) := by decide +kernel
theorem dL_law_276 : decode cL_law 276 = .ok (.iaload, 1) := by decide +kernel
theorem dL_law_277 : decode cL_law 277 = .ok (.aload_n 0, 1) := by decide +kernel
theorem dL_law_278 : decode cL_law 278 = .ok (.iload_n 3, 1) := by decide +kernel
theorem dL_law_279 : decode cL_law 279 = .ok (.iconst 2, 1) := by decide +kernel
theorem dL_law_280 : decode cL_law 280 = .ok (.iadd, 1) := by decide +kernel
theorem dL_law_281 : decode cL_law 281 = .ok (.iaload, 1) := by decide +kernel
theorem dL_law_282 : decode cL_law 282 = .ok (.invokevirtual 27, 3) := by decide +kernel
theorem dL_law_285 : decode cL_law 285 = .ok (.aload_n 2, 1) := by decide +kernel
theorem dL_law_286 : decode cL_law 286 = .ok (.aload_n 0, 1) := by decide +kernel
theorem dL_law_287 : decode cL_law 287 = .ok (.iload_n 3, 1) := by decide +kernel
theorem dL_law_288 : decode cL_law 288 = .ok (.iconst 1, 1) := by decide +kernel
theorem dL_law_289 : decode cL_law 289 = .ok (.iadd, 1) := by decide +kernel
theorem dL_law_290 : decode cL_law 290 = .ok (.iaload, 1) := by decide +kernel
theorem dL_law_291 : decode cL_law 291 = .ok (.aload_n 0, 1) := by decide +kernel
theorem dL_law_292 : decode cL_law 292 = .ok (.iload_n 3, 1) := by decide +kernel
theorem dL_law_293 : decode cL_law 293 = .ok (.iconst 2, 1) := by decide +kernel
theorem dL_law_294 : decode cL_law 294 = .ok (.iadd, 1) := by decide +kernel
theorem dL_law_295 : decode cL_law 295 = .ok (.iaload, 1) := by decide +kernel
theorem dL_law_296 : decode cL_law 296 = .ok (.invokevirtual 31, 3) := by decide +kernel
theorem dL_law_299 : decode cL_law 299 = .ok (.if_icmp .eq 436, 3) := by decide +kernel
theorem dL_law_302 : decode cL_law 302 = .ok (.iconst 0, 1) := by decide +kernel
theorem dL_law_303 : decode cL_law 303 = .ok (.ireturn, 1) := by decide +kernel
theorem dL_law_304 : decode cL_law 304 = .ok (.aload_n 1, 1) := by decide +kernel
theorem dL_law_305 : decode cL_law 305 = .ok (.aload_n 0, 1) := by decide +kernel
theorem dL_law_306 : decode cL_law 306 = .ok (.iload_n 3, 1) := by decide +kernel
theorem dL_law_307 : decode cL_law 307 = .ok (.iconst 1, 1) := by decide +kernel
theorem dL_law_308 : decode cL_law 308 = .ok (.iadd, 1) := by decide +kernel
theorem dL_law_309 : decode cL_law 309 = .ok (.iaload, 1) := by decide +kernel
theorem dL_law_310 : decode cL_law 310 = .ok (.aload_n 0, 1) := by decide +kernel
theorem dL_law_311 : decode cL_law 311 = .ok (.iload_n 3, 1) := by decide +kernel
theorem dL_law_312 : decode cL_law 312 = .ok (.iconst 2, 1) := by decide +kernel
theorem dL_law_313 : decode cL_law 313 = .ok (.iadd, 1) := by decide +kernel
theorem dL_law_314 : decode cL_law 314 = .ok (.iaload, 1) := by decide +kernel
theorem dL_law_315 : decode cL_law 315 = .ok (.invokevirtual 32, 3) := by decide +kernel
theorem dL_law_318 : decode cL_law 318 = .ok (.aload_n 2, 1) := by decide +kernel
theorem dL_law_319 : decode cL_law 319 = .ok (.aload_n 0, 1) := by decide +kernel
theorem dL_law_320 : decode cL_law 320 = .ok (.iload_n 3, 1) := by decide +kernel
theorem dL_law_321 : decode cL_law 321 = .ok (.iconst 1, 1) := by decide +kernel
theorem dL_law_322 : decode cL_law 322 = .ok (.iadd, 1) := by decide +kernel
theorem dL_law_323 : decode cL_law 323 = .ok (.iaload, 1) := by decide +kernel
theorem dL_law_324 : decode cL_law 324 = .ok (.aload_n 0, 1) := by decide +kernel
theorem dL_law_325 : decode cL_law 325 = .ok (.iload_n 3, 1) := by decide +kernel
theorem dL_law_326 : decode cL_law 326 = .ok (.iconst 2, 1) := by decide +kernel
theorem dL_law_327 : decode cL_law 327 = .ok (.iadd, 1) := by decide +kernel
theorem dL_law_328 : decode cL_law 328 = .ok (.iaload, 1) := by decide +kernel
theorem dL_law_329 : decode cL_law 329 = .ok (.invokevirtual 35, 3) := by decide +kernel
theorem dL_law_332 : decode cL_law 332 = .ok (.if_icmp .eq 403, 3) := by decide +kernel
theorem dL_law_335 : decode cL_law 335 = .ok (.iconst 0, 1) := by decide +kernel
theorem dL_law_336 : decode cL_law 336 = .ok (.ireturn, 1) := by decide +kernel
theorem dL_law_337 : decode cL_law 337 = .ok (.aload_n 1, 1) := by decide +kernel
theorem dL_law_338 : decode cL_law 338 = .ok (.aload_n 0, 1) := by decide +kernel
theorem dL_law_339 : decode cL_law 339 = .ok (.iload_n 3, 1) := by decide +kernel
theorem dL_law_340 : decode cL_law 340 = .ok (.iconst 1, 1) := by decide +kernel
theorem dL_law_341 : decode cL_law 341 = .ok (.iadd, 1) := by decide +kernel
theorem dL_law_342 : decode cL_law 342 = .ok (.iaload, 1) := by decide +kernel
theorem dL_law_343 : decode cL_law 343 = .ok (.invokevirtual 36, 3) := by decide +kernel
theorem dL_law_346 : decode cL_law 346 = .ok (.aload_n 2, 1) := by decide +kernel
theorem dL_law_347 : decode cL_law 347 = .ok (.aload_n 0, 1) := by decide +kernel
theorem dL_law_348 : decode cL_law 348 = .ok (.iload_n 3, 1) := by decide +kernel
theorem dL_law_349 : decode cL_law 349 = .ok (.iconst 1, 1) := by decide +kernel
theorem dL_law_350 : decode cL_law 350 = .ok (.iadd, 1) := by decide +kernel
theorem dL_law_351 : decode cL_law 351 = .ok (.iaload, 1) := by decide +kernel
theorem dL_law_352 : decode cL_law 352 = .ok (.invokevirtual 40, 3) := by decide +kernel
theorem dL_law_355 : decode cL_law 355 = .ok (.if_icmp .eq 380, 3) := by decide +kernel
theorem dL_law_358 : decode cL_law 358 = .ok (.iconst 0, 1) := by decide +kernel
theorem dL_law_359 : decode cL_law 359 = .ok (.ireturn, 1) := by decide +kernel
theorem dL_law_360 : decode cL_law 360 = .ok (.aload_n 1, 1) := by decide +kernel
theorem dL_law_361 : decode cL_law 361 = .ok (.aload_n 0, 1) := by decide +kernel
theorem dL_law_362 : decode cL_law 362 = .ok (.iload_n 3, 1) := by decide +kernel
theorem dL_law_363 : decode cL_law 363 = .ok (.iconst 1, 1) := by decide +kernel
theorem dL_law_364 : decode cL_law 364 = .ok (.iadd, 1) := by decide +kernel
theorem dL_law_365 : decode cL_law 365 = .ok (.iaload, 1) := by decide +kernel
theorem dL_law_366 : decode cL_law 366 = .ok (.invokevirtual 41, 3) := by decide +kernel
theorem dL_law_369 : decode cL_law 369 = .ok (.aload_n 2, 1) := by decide +kernel
theorem dL_law_370 : decode cL_law 370 = .ok (.aload_n 0, 1) := by decide +kernel
theorem dL_law_371 : decode cL_law 371 = .ok (.iload_n 3, 1) := by decide +kernel
theorem dL_law_372 : decode cL_law 372 = .ok (.iconst 1, 1) := by decide +kernel
theorem dL_law_373 : decode cL_law 373 = .ok (.iadd, 1) := by decide +kernel
theorem dL_law_374 : decode cL_law 374 = .ok (.iaload, 1) := by decide +kernel
theorem dL_law_375 : decode cL_law 375 = .ok (.invokevirtual 44, 3) := by decide +kernel
theorem dL_law_378 : decode cL_law 378 = .ok (.if_icmp .eq 357, 3) := by decide +kernel
theorem dL_law_381 : decode cL_law 381 = .ok (.iconst 0, 1) := by decide +kernel
theorem dL_law_382 : decode cL_law 382 = .ok (.ireturn, 1) := by decide +kernel
theorem dL_law_383 : decode cL_law 383 = .ok (.aload_n 1, 1) := by decide +kernel
theorem dL_law_384 : decode cL_law 384 = .ok (.aload_n 0, 1) := by decide +kernel
theorem dL_law_385 : decode cL_law 385 = .ok (.iload_n 3, 1) := by decide +kernel
theorem dL_law_386 : decode cL_law 386 = .ok (.iconst 1, 1) := by decide +kernel
theorem dL_law_387 : decode cL_law 387 = .ok (.iadd, 1) := by decide +kernel
theorem dL_law_388 : decode cL_law 388 = .ok (.iaload, 1) := by decide +kernel
theorem dL_law_389 : decode cL_law 389 = .ok (.aload_n 0, 1) := by decide +kernel
theorem dL_law_390 : decode cL_law 390 = .ok (.iload_n 3, 1) := by decide +kernel
theorem dL_law_391 : decode cL_law 391 = .ok (.iconst 2, 1) := by decide +kernel
theorem dL_law_392 : decode cL_law 392 = .ok (.iadd, 1) := by decide +kernel
theorem dL_law_393 : decode cL_law 393 = .ok (.iaload, 1) := by decide +kernel
theorem dL_law_394 : decode cL_law 394 = .ok (.invokevirtual 45, 3) := by decide +kernel
theorem dL_law_397 : decode cL_law 397 = .ok (.aload_n 2, 1) := by decide +kernel
theorem dL_law_398 : decode cL_law 398 = .ok (.aload_n 0, 1) := by decide +kernel
theorem dL_law_399 : decode cL_law 399 = .ok (.iload_n 3, 1) := by decide +kernel
theorem dL_law_400 : decode cL_law 400 = .ok (.iconst 1, 1) := by decide +kernel
theorem dL_law_401 : decode cL_law 401 = .ok (.iadd, 1) := by decide +kernel
theorem dL_law_402 : decode cL_law 402 = .ok (.iaload, 1) := by decide +kernel
theorem dL_law_403 : decode cL_law 403 = .ok (.aload_n 0, 1) := by decide +kernel
theorem dL_law_404 : decode cL_law 404 = .ok (.iload_n 3, 1) := by decide +kernel
theorem dL_law_405 : decode cL_law 405 = .ok (.iconst 2, 1) := by decide +kernel
theorem dL_law_406 : decode cL_law 406 = .ok (.iadd, 1) := by decide +kernel
theorem dL_law_407 : decode cL_law 407 = .ok (.iaload, 1) := by decide +kernel
theorem dL_law_408 : decode cL_law 408 = .ok (.invokevirtual 48, 3) := by decide +kernel
theorem dL_law_411 : decode cL_law 411 = .ok (.if_icmp .eq 324, 3) := by decide +kernel
theorem dL_law_414 : decode cL_law 414 = .ok (.iconst 0, 1) := by decide +kernel
theorem dL_law_415 : decode cL_law 415 = .ok (.ireturn, 1) := by decide +kernel
theorem dL_law_416 : decode cL_law 416 = .ok (.aload_n 1, 1) := by decide +kernel
theorem dL_law_417 : decode cL_law 417 = .ok (.aload_n 0, 1) := by decide +kernel
theorem dL_law_418 : decode cL_law 418 = .ok (.iload_n 3, 1) := by decide +kernel
theorem dL_law_419 : decode cL_law 419 = .ok (.iconst 1, 1) := by decide +kernel
theorem dL_law_420 : decode cL_law 420 = .ok (.iadd, 1) := by decide +kernel
theorem dL_law_421 : decode cL_law 421 = .ok (.iaload, 1) := by decide +kernel
theorem dL_law_422 : decode cL_law 422 = .ok (.aload_n 0, 1) := by decide +kernel
theorem dL_law_423 : decode cL_law 423 = .ok (.iload_n 3, 1) := by decide +kernel
theorem dL_law_424 : decode cL_law 424 = .ok (.iconst 2, 1) := by decide +kernel
theorem dL_law_425 : decode cL_law 425 = .ok (.iadd, 1) := by decide +kernel
theorem dL_law_426 : decode cL_law 426 = .ok (.iaload, 1) := by decide +kernel
theorem dL_law_427 : decode cL_law 427 = .ok (.invokevirtual 49, 3) := by decide +kernel
theorem dL_law_430 : decode cL_law 430 = .ok (.aload_n 2, 1) := by decide +kernel
theorem dL_law_431 : decode cL_law 431 = .ok (.aload_n 0, 1) := by decide +kernel
theorem dL_law_432 : decode cL_law 432 = .ok (.iload_n 3, 1) := by decide +kernel
theorem dL_law_433 : decode cL_law 433 = .ok (.iconst 1, 1) := by decide +kernel
theorem dL_law_434 : decode cL_law 434 = .ok (.iadd, 1) := by decide +kernel
theorem dL_law_435 : decode cL_law 435 = .ok (.iaload, 1) := by decide +kernel
theorem dL_law_436 : decode cL_law 436 = .ok (.aload_n 0, 1) := by decide +kernel
theorem dL_law_437 : decode cL_law 437 = .ok (.iload_n 3, 1) := by decide +kernel
theorem dL_law_438 : decode cL_law 438 = .ok (.iconst 2, 1) := by decide +kernel
theorem dL_law_439 : decode cL_law 439 = .ok (.iadd, 1) := by decide +kernel
theorem dL_law_440 : decode cL_law 440 = .ok (.iaload, 1) := by decide +kernel
theorem dL_law_441 : decode cL_law 441 = .ok (.invokevirtual 52, 3) := by decide +kernel
theorem dL_law_444 : decode cL_law 444 = .ok (.if_icmp .eq 291, 3) := by decide +kernel
theorem dL_law_447 : decode cL_law 447 = .ok (.iconst 0, 1) := by decide +kernel
theorem dL_law_448 : decode cL_law 448 = .ok (.ireturn, 1) := by decide +kernel
theorem dL_law_449 : decode cL_law 449 = .ok (.aload_n 1, 1) := by decide +kernel
theorem dL_law_450 : decode cL_law 450 = .ok (.aload_n 0, 1) := by decide +kernel
theorem dL_law_451 : decode cL_law 451 = .ok (.iload_n 3, 1) := by decide +kernel
theorem dL_law_452 : decode cL_law 452 = .ok (.iconst 1, 1) := by decide +kernel
theorem dL_law_453 : decode cL_law 453 = .ok (.iadd, 1) := by decide +kernel
theorem dL_law_454 : decode cL_law 454 = .ok (.iaload, 1) := by decide +kernel
theorem dL_law_455 : decode cL_law 455 = .ok (.aload_n 0, 1) := by decide +kernel
theorem dL_law_456 : decode cL_law 456 = .ok (.iload_n 3, 1) := by decide +kernel
theorem dL_law_457 : decode cL_law 457 = .ok (.iconst 2, 1) := by decide +kernel
theorem dL_law_458 : decode cL_law 458 = .ok (.iadd, 1) := by decide +kernel
theorem dL_law_459 : decode cL_law 459 = .ok (.iaload, 1) := by decide +kernel
theorem dL_law_460 : decode cL_law 460 = .ok (.invokevirtual 53, 3) := by decide +kernel
theorem dL_law_463 : decode cL_law 463 = .ok (.aload_n 2, 1) := by decide +kernel
theorem dL_law_464 : decode cL_law 464 = .ok (.aload_n 0, 1) := by decide +kernel
theorem dL_law_465 : decode cL_law 465 = .ok (.iload_n 3, 1) := by decide +kernel
theorem dL_law_466 : decode cL_law 466 = .ok (.iconst 1, 1) := by decide +kernel
theorem dL_law_467 : decode cL_law 467 = .ok (.iadd, 1) := by decide +kernel
theorem dL_law_468 : decode cL_law 468 = .ok (.iaload, 1) := by decide +kernel
theorem dL_law_469 : decode cL_law 469 = .ok (.aload_n 0, 1) := by decide +kernel
theorem dL_law_470 : decode cL_law 470 = .ok (.iload_n 3, 1) := by decide +kernel
theorem dL_law_471 : decode cL_law 471 = .ok (.iconst 2, 1) := by decide +kernel
theorem dL_law_472 : decode cL_law 472 = .ok (.iadd, 1) := by decide +kernel
theorem dL_law_473 : decode cL_law 473 = .ok (.iaload, 1) := by decide +kernel
theorem dL_law_474 : decode cL_law 474 = .ok (.invokevirtual 56, 3) := by decide +kernel
theorem dL_law_477 : decode cL_law 477 = .ok (.if_icmp .eq 258, 3) := by decide +kernel
theorem dL_law_480 : decode cL_law 480 = .ok (.iconst 0, 1) := by decide +kernel
theorem dL_law_481 : decode cL_law 481 = .ok (.ireturn, 1) := by decide +kernel
theorem dL_law_482 : decode cL_law 482 = .ok (.aload_n 1, 1) := by decide +kernel
theorem dL_law_483 : decode cL_law 483 = .ok (.aload_n 0, 1) := by decide +kernel
theorem dL_law_484 : decode cL_law 484 = .ok (.iload_n 3, 1) := by decide +kernel
theorem dL_law_485 : decode cL_law 485 = .ok (.iconst 1, 1) := by decide +kernel
theorem dL_law_486 : decode cL_law 486 = .ok (.iadd, 1) := by decide +kernel
theorem dL_law_487 : decode cL_law 487 = .ok (.iaload, 1) := by decide +kernel
theorem dL_law_488 : decode cL_law 488 = .ok (.invokevirtual 57, 3) := by decide +kernel
theorem dL_law_491 : decode cL_law 491 = .ok (.aload_n 2, 1) := by decide +kernel
theorem dL_law_492 : decode cL_law 492 = .ok (.aload_n 0, 1) := by decide +kernel
theorem dL_law_493 : decode cL_law 493 = .ok (.iload_n 3, 1) := by decide +kernel
theorem dL_law_494 : decode cL_law 494 = .ok (.iconst 1, 1) := by decide +kernel
theorem dL_law_495 : decode cL_law 495 = .ok (.iadd, 1) := by decide +kernel
theorem dL_law_496 : decode cL_law 496 = .ok (.iaload, 1) := by decide +kernel
theorem dL_law_497 : decode cL_law 497 = .ok (.invokevirtual 60, 3) := by decide +kernel
theorem dL_law_500 : decode cL_law 500 = .ok (.if_icmp .eq 235, 3) := by decide +kernel
theorem dL_law_503 : decode cL_law 503 = .ok (.iconst 0, 1) := by decide +kernel
theorem dL_law_504 : decode cL_law 504 = .ok (.ireturn, 1) := by decide +kernel
theorem dL_law_505 : decode cL_law 505 = .ok (.aload_n 1, 1) := by decide +kernel
theorem dL_law_506 : decode cL_law 506 = .ok (.aload_n 0, 1) := by decide +kernel
theorem dL_law_507 : decode cL_law 507 = .ok (.iload_n 3, 1) := by decide +kernel
theorem dL_law_508 : decode cL_law 508 = .ok (.iconst 1, 1) := by decide +kernel
theorem dL_law_509 : decode cL_law 509 = .ok (.iadd, 1) := by decide +kernel
theorem dL_law_510 : decode cL_law 510 = .ok (.iaload, 1) := by decide +kernel
theorem dL_law_511 : decode cL_law 511 = .ok (.invokevirtual 61, 3) := by decide +kernel
theorem dL_law_514 : decode cL_law 514 = .ok (.aload_n 2, 1) := by decide +kernel
theorem dL_law_515 : decode cL_law 515 = .ok (.aload_n 0, 1) := by decide +kernel
theorem dL_law_516 : decode cL_law 516 = .ok (.iload_n 3, 1) := by decide +kernel
theorem dL_law_517 : decode cL_law 517 = .ok (.iconst 1, 1) := by decide +kernel
theorem dL_law_518 : decode cL_law 518 = .ok (.iadd, 1) := by decide +kernel
theorem dL_law_519 : decode cL_law 519 = .ok (.iaload, 1) := by decide +kernel
theorem dL_law_520 : decode cL_law 520 = .ok (.invokevirtual 64, 3) := by decide +kernel
theorem dL_law_523 : decode cL_law 523 = .ok (.if_icmp .eq 212, 3) := by decide +kernel
theorem dL_law_526 : decode cL_law 526 = .ok (.iconst 0, 1) := by decide +kernel
theorem dL_law_527 : decode cL_law 527 = .ok (.ireturn, 1) := by decide +kernel
theorem dL_law_528 : decode cL_law 528 = .ok (.aload_n 1, 1) := by decide +kernel
theorem dL_law_529 : decode cL_law 529 = .ok (.invokevirtual 65, 3) := by decide +kernel
theorem dL_law_532 : decode cL_law 532 = .ok (.aload_n 2, 1) := by decide +kernel
theorem dL_law_533 : decode cL_law 533 = .ok (.invokevirtual 69, 3) := by decide +kernel
theorem dL_law_536 : decode cL_law 536 = .ok (.if_icmp .eq 199, 3) := by decide +kernel
theorem dL_law_539 : decode cL_law 539 = .ok (.iconst 0, 1) := by decide +kernel
theorem dL_law_540 : decode cL_law 540 = .ok (.ireturn, 1) := by decide +kernel
theorem dL_law_541 : decode cL_law 541 = .ok (.aload_n 1, 1) := by decide +kernel
theorem dL_law_542 : decode cL_law 542 = .ok (.invokevirtual 70, 3) := by decide +kernel
theorem dL_law_545 : decode cL_law 545 = .ok (.aload_n 2, 1) := by decide +kernel
theorem dL_law_546 : decode cL_law 546 = .ok (.invokevirtual 73, 3) := by decide +kernel
theorem dL_law_549 : decode cL_law 549 = .ok (.if_icmp .eq 186, 3) := by decide +kernel
theorem dL_law_552 : decode cL_law 552 = .ok (.iconst 0, 1) := by decide +kernel
theorem dL_law_553 : decode cL_law 553 = .ok (.ireturn, 1) := by decide +kernel
theorem dL_law_554 : decode cL_law 554 = .ok (.aload_n 1, 1) := by decide +kernel
theorem dL_law_555 : decode cL_law 555 = .ok (.aload_n 0, 1) := by decide +kernel
theorem dL_law_556 : decode cL_law 556 = .ok (.iload_n 3, 1) := by decide +kernel
theorem dL_law_557 : decode cL_law 557 = .ok (.iconst 1, 1) := by decide +kernel
theorem dL_law_558 : decode cL_law 558 = .ok (.iadd, 1) := by decide +kernel
theorem dL_law_559 : decode cL_law 559 = .ok (.iaload, 1) := by decide +kernel
theorem dL_law_560 : decode cL_law 560 = .ok (.invokevirtual 74, 3) := by decide +kernel
theorem dL_law_563 : decode cL_law 563 = .ok (.aload_n 2, 1) := by decide +kernel
theorem dL_law_564 : decode cL_law 564 = .ok (.aload_n 0, 1) := by decide +kernel
theorem dL_law_565 : decode cL_law 565 = .ok (.iload_n 3, 1) := by decide +kernel
theorem dL_law_566 : decode cL_law 566 = .ok (.iconst 1, 1) := by decide +kernel
theorem dL_law_567 : decode cL_law 567 = .ok (.iadd, 1) := by decide +kernel
theorem dL_law_568 : decode cL_law 568 = .ok (.iaload, 1) := by decide +kernel
theorem dL_law_569 : decode cL_law 569 = .ok (.invokevirtual 77, 3) := by decide +kernel
theorem dL_law_572 : decode cL_law 572 = .ok (.if_icmp .eq 163, 3) := by decide +kernel
theorem dL_law_575 : decode cL_law 575 = .ok (.iconst 0, 1) := by decide +kernel
theorem dL_law_576 : decode cL_law 576 = .ok (.ireturn, 1) := by decide +kernel
theorem dL_law_577 : decode cL_law 577 = .ok (.aload_n 1, 1) := by decide +kernel
theorem dL_law_578 : decode cL_law 578 = .ok (.aload_n 0, 1) := by decide +kernel
theorem dL_law_579 : decode cL_law 579 = .ok (.iload_n 3, 1) := by decide +kernel
theorem dL_law_580 : decode cL_law 580 = .ok (.iconst 1, 1) := by decide +kernel
theorem dL_law_581 : decode cL_law 581 = .ok (.iadd, 1) := by decide +kernel
theorem dL_law_582 : decode cL_law 582 = .ok (.iaload, 1) := by decide +kernel
theorem dL_law_583 : decode cL_law 583 = .ok (.invokevirtual 78, 3) := by decide +kernel
theorem dL_law_586 : decode cL_law 586 = .ok (.aload_n 2, 1) := by decide +kernel
theorem dL_law_587 : decode cL_law 587 = .ok (.aload_n 0, 1) := by decide +kernel
theorem dL_law_588 : decode cL_law 588 = .ok (.iload_n 3, 1) := by decide +kernel
theorem dL_law_589 : decode cL_law 589 = .ok (.iconst 1, 1) := by decide +kernel
theorem dL_law_590 : decode cL_law 590 = .ok (.iadd, 1) := by decide +kernel
theorem dL_law_591 : decode cL_law 591 = .ok (.iaload, 1) := by decide +kernel
theorem dL_law_592 : decode cL_law 592 = .ok (.invokevirtual 81, 3) := by decide +kernel
theorem dL_law_595 : decode cL_law 595 = .ok (.if_icmp .eq 140, 3) := by decide +kernel
theorem dL_law_598 : decode cL_law 598 = .ok (.iconst 0, 1) := by decide +kernel
theorem dL_law_599 : decode cL_law 599 = .ok (.ireturn, 1) := by decide +kernel
theorem dL_law_600 : decode cL_law 600 = .ok (.aload_n 1, 1) := by decide +kernel
theorem dL_law_601 : decode cL_law 601 = .ok (.aload_n 0, 1) := by decide +kernel
theorem dL_law_602 : decode cL_law 602 = .ok (.iload_n 3, 1) := by decide +kernel
theorem dL_law_603 : decode cL_law 603 = .ok (.iconst 1, 1) := by decide +kernel
theorem dL_law_604 : decode cL_law 604 = .ok (.iadd, 1) := by decide +kernel
theorem dL_law_605 : decode cL_law 605 = .ok (.iaload, 1) := by decide +kernel
theorem dL_law_606 : decode cL_law 606 = .ok (.invokevirtual 82, 3) := by decide +kernel
theorem dL_law_609 : decode cL_law 609 = .ok (.aload_n 2, 1) := by decide +kernel
theorem dL_law_610 : decode cL_law 610 = .ok (.aload_n 0, 1) := by decide +kernel
theorem dL_law_611 : decode cL_law 611 = .ok (.iload_n 3, 1) := by decide +kernel
theorem dL_law_612 : decode cL_law 612 = .ok (.iconst 1, 1) := by decide +kernel
theorem dL_law_613 : decode cL_law 613 = .ok (.iadd, 1) := by decide +kernel
theorem dL_law_614 : decode cL_law 614 = .ok (.iaload, 1) := by decide +kernel
theorem dL_law_615 : decode cL_law 615 = .ok (.invokevirtual 85, 3) := by decide +kernel
theorem dL_law_618 : decode cL_law 618 = .ok (.if_icmp .eq 117, 3) := by decide +kernel
theorem dL_law_621 : decode cL_law 621 = .ok (.iconst 0, 1) := by decide +kernel
theorem dL_law_622 : decode cL_law 622 = .ok (.ireturn, 1) := by decide +kernel
theorem dL_law_623 : decode cL_law 623 = .ok (.aload_n 1, 1) := by decide +kernel
theorem dL_law_624 : decode cL_law 624 = .ok (.aload_n 0, 1) := by decide +kernel
theorem dL_law_625 : decode cL_law 625 = .ok (.iload_n 3, 1) := by decide +kernel
theorem dL_law_626 : decode cL_law 626 = .ok (.iconst 1, 1) := by decide +kernel
theorem dL_law_627 : decode cL_law 627 = .ok (.iadd, 1) := by decide +kernel
theorem dL_law_628 : decode cL_law 628 = .ok (.iaload, 1) := by decide +kernel
theorem dL_law_629 : decode cL_law 629 = .ok (.invokevirtual 86, 3) := by decide +kernel
theorem dL_law_632 : decode cL_law 632 = .ok (.aload_n 2, 1) := by decide +kernel
theorem dL_law_633 : decode cL_law 633 = .ok (.aload_n 0, 1) := by decide +kernel
theorem dL_law_634 : decode cL_law 634 = .ok (.iload_n 3, 1) := by decide +kernel
theorem dL_law_635 : decode cL_law 635 = .ok (.iconst 1, 1) := by decide +kernel
theorem dL_law_636 : decode cL_law 636 = .ok (.iadd, 1) := by decide +kernel
theorem dL_law_637 : decode cL_law 637 = .ok (.iaload, 1) := by decide +kernel
theorem dL_law_638 : decode cL_law 638 = .ok (.invokevirtual 89, 3) := by decide +kernel
theorem dL_law_641 : decode cL_law 641 = .ok (.if_icmp .eq 94, 3) := by decide +kernel
theorem dL_law_644 : decode cL_law 644 = .ok (.iconst 0, 1) := by decide +kernel
theorem dL_law_645 : decode cL_law 645 = .ok (.ireturn, 1) := by decide +kernel
theorem dL_law_646 : decode cL_law 646 = .ok (.aload_n 1, 1) := by decide +kernel
theorem dL_law_647 : decode cL_law 647 = .ok (.aload_n 0, 1) := by decide +kernel
theorem dL_law_648 : decode cL_law 648 = .ok (.iload_n 3, 1) := by decide +kernel
theorem dL_law_649 : decode cL_law 649 = .ok (.iconst 1, 1) := by decide +kernel
theorem dL_law_650 : decode cL_law 650 = .ok (.iadd, 1) := by decide +kernel
theorem dL_law_651 : decode cL_law 651 = .ok (.iaload, 1) := by decide +kernel
theorem dL_law_652 : decode cL_law 652 = .ok (.aload_n 0, 1) := by decide +kernel
theorem dL_law_653 : decode cL_law 653 = .ok (.iload_n 3, 1) := by decide +kernel
theorem dL_law_654 : decode cL_law 654 = .ok (.iconst 2, 1) := by decide +kernel
theorem dL_law_655 : decode cL_law 655 = .ok (.iadd, 1) := by decide +kernel
theorem dL_law_656 : decode cL_law 656 = .ok (.iaload, 1) := by decide +kernel
theorem dL_law_657 : decode cL_law 657 = .ok (.aload_n 0, 1) := by decide +kernel
theorem dL_law_658 : decode cL_law 658 = .ok (.iload_n 3, 1) := by decide +kernel
theorem dL_law_659 : decode cL_law 659 = .ok (.iconst 3, 1) := by decide +kernel
theorem dL_law_660 : decode cL_law 660 = .ok (.iadd, 1) := by decide +kernel
theorem dL_law_661 : decode cL_law 661 = .ok (.iaload, 1) := by decide +kernel
theorem dL_law_662 : decode cL_law 662 = .ok (.invokevirtual 90, 3) := by decide +kernel
theorem dL_law_665 : decode cL_law 665 = .ok (.aload_n 2, 1) := by decide +kernel
theorem dL_law_666 : decode cL_law 666 = .ok (.aload_n 0, 1) := by decide +kernel
theorem dL_law_667 : decode cL_law 667 = .ok (.iload_n 3, 1) := by decide +kernel
theorem dL_law_668 : decode cL_law 668 = .ok (.iconst 1, 1) := by decide +kernel
theorem dL_law_669 : decode cL_law 669 = .ok (.iadd, 1) := by decide +kernel
theorem dL_law_670 : decode cL_law 670 = .ok (.iaload, 1) := by decide +kernel
theorem dL_law_671 : decode cL_law 671 = .ok (.aload_n 0, 1) := by decide +kernel
theorem dL_law_672 : decode cL_law 672 = .ok (.iload_n 3, 1) := by decide +kernel
theorem dL_law_673 : decode cL_law 673 = .ok (.iconst 2, 1) := by decide +kernel
theorem dL_law_674 : decode cL_law 674 = .ok (.iadd, 1) := by decide +kernel
theorem dL_law_675 : decode cL_law 675 = .ok (.iaload, 1) := by decide +kernel
theorem dL_law_676 : decode cL_law 676 = .ok (.aload_n 0, 1) := by decide +kernel
theorem dL_law_677 : decode cL_law 677 = .ok (.iload_n 3, 1) := by decide +kernel
theorem dL_law_678 : decode cL_law 678 = .ok (.iconst 3, 1) := by decide +kernel
theorem dL_law_679 : decode cL_law 679 = .ok (.iadd, 1) := by decide +kernel
theorem dL_law_680 : decode cL_law 680 = .ok (.iaload, 1) := by decide +kernel
theorem dL_law_681 : decode cL_law 681 = .ok (.invokevirtual 93, 3) := by decide +kernel
theorem dL_law_684 : decode cL_law 684 = .ok (.if_icmp .eq 51, 3) := by decide +kernel
theorem dL_law_687 : decode cL_law 687 = .ok (.iconst 0, 1) := by decide +kernel
theorem dL_law_688 : decode cL_law 688 = .ok (.ireturn, 1) := by decide +kernel
theorem dL_law_689 : decode cL_law 689 = .ok (.aload_n 1, 1) := by decide +kernel
theorem dL_law_690 : decode cL_law 690 = .ok (.aload_n 0, 1) := by decide +kernel
theorem dL_law_691 : decode cL_law 691 = .ok (.iload_n 3, 1) := by decide +kernel
theorem dL_law_692 : decode cL_law 692 = .ok (.iconst 1, 1) := by decide +kernel
theorem dL_law_693 : decode cL_law 693 = .ok (.iadd, 1) := by decide +kernel
theorem dL_law_694 : decode cL_law 694 = .ok (.iaload, 1) := by decide +kernel
theorem dL_law_695 : decode cL_law 695 = .ok (.aload_n 0, 1) := by decide +kernel
theorem dL_law_696 : decode cL_law 696 = .ok (.iload_n 3, 1) := by decide +kernel
theorem dL_law_697 : decode cL_law 697 = .ok (.iconst 2, 1) := by decide +kernel
theorem dL_law_698 : decode cL_law 698 = .ok (.iadd, 1) := by decide +kernel
theorem dL_law_699 : decode cL_law 699 = .ok (.iaload, 1) := by decide +kernel
theorem dL_law_700 : decode cL_law 700 = .ok (.invokevirtual 94, 3) := by decide +kernel
theorem dL_law_703 : decode cL_law 703 = .ok (.aload_n 2, 1) := by decide +kernel
theorem dL_law_704 : decode cL_law 704 = .ok (.aload_n 0, 1) := by decide +kernel
theorem dL_law_705 : decode cL_law 705 = .ok (.iload_n 3, 1) := by decide +kernel
theorem dL_law_706 : decode cL_law 706 = .ok (.iconst 1, 1) := by decide +kernel
theorem dL_law_707 : decode cL_law 707 = .ok (.iadd, 1) := by decide +kernel
theorem dL_law_708 : decode cL_law 708 = .ok (.iaload, 1) := by decide +kernel
theorem dL_law_709 : decode cL_law 709 = .ok (.aload_n 0, 1) := by decide +kernel
theorem dL_law_710 : decode cL_law 710 = .ok (.iload_n 3, 1) := by decide +kernel
theorem dL_law_711 : decode cL_law 711 = .ok (.iconst 2, 1) := by decide +kernel
theorem dL_law_712 : decode cL_law 712 = .ok (.iadd, 1) := by decide +kernel
theorem dL_law_713 : decode cL_law 713 = .ok (.iaload, 1) := by decide +kernel
theorem dL_law_714 : decode cL_law 714 = .ok (.invokevirtual 97, 3) := by decide +kernel
theorem dL_law_717 : decode cL_law 717 = .ok (.if_icmp .eq 18, 3) := by decide +kernel
theorem dL_law_720 : decode cL_law 720 = .ok (.iconst 0, 1) := by decide +kernel
theorem dL_law_721 : decode cL_law 721 = .ok (.ireturn, 1) := by decide +kernel
theorem dL_law_722 : decode cL_law 722 = .ok (.aload_n 1, 1) := by decide +kernel
theorem dL_law_723 : decode cL_law 723 = .ok (.invokevirtual 98, 3) := by decide +kernel
theorem dL_law_726 : decode cL_law 726 = .ok (.aload_n 2, 1) := by decide +kernel
theorem dL_law_727 : decode cL_law 727 = .ok (.invokevirtual 101, 3) := by decide +kernel
theorem dL_law_730 : decode cL_law 730 = .ok (.if_icmp .eq 5, 3) := by decide +kernel
theorem dL_law_733 : decode cL_law 733 = .ok (.iconst 0, 1) := by decide +kernel
theorem dL_law_734 : decode cL_law 734 = .ok (.ireturn, 1) := by decide +kernel
theorem dL_law_735 : decode cL_law 735 = .ok (.iinc 3 5, 3) := by decide +kernel
theorem dL_law_738 : decode cL_law 738 = .ok (.goto (-720), 3) := by decide +kernel
theorem dL_law_741 : decode cL_law 741 = .ok (.iconst 1, 1) := by decide +kernel
theorem dL_law_742 : decode cL_law 742 = .ok (.ireturn, 1) := by decide +kernel
theorem dJ9_floorDiv_7cf53_0 : decode cJ9_floorDiv_7cf53 0 = .ok (.iload_n 0, 1) := by decide +kernel
theorem dJ9_floorDiv_7cf53_1 : decode cJ9_floorDiv_7cf53 1 = .ok (.iload_n 1, 1) := by decide +kernel
theorem dJ9_floorDiv_7cf53_2 : decode cJ9_floorDiv_7cf53 2 = .ok (.idiv, 1) := by decide +kernel
theorem dJ9_floorDiv_7cf53_3 : decode cJ9_floorDiv_7cf53 3 = .ok (.istore_n 2, 1) := by decide +kernel
theorem dJ9_floorDiv_7cf53_4 : decode cJ9_floorDiv_7cf53 4 = .ok (.iload_n 0, 1) := by decide +kernel
theorem dJ9_floorDiv_7cf53_5 : decode cJ9_floorDiv_7cf53 5 = .ok (.iload_n 1, 1) := by decide +kernel
theorem dJ9_floorDiv_7cf53_6 : decode cJ9_floorDiv_7cf53 6 = .ok (.ixor, 1) := by decide +kernel
theorem dJ9_floorDiv_7cf53_7 : decode cJ9_floorDiv_7cf53 7 = .ok (.ifCond .ge 14, 3) := by decide +kernel
theorem dJ9_floorDiv_7cf53_10 : decode cJ9_floorDiv_7cf53 10 = .ok (.iload_n 2, 1) := by decide +kernel
theorem dJ9_floorDiv_7cf53_11 : decode cJ9_floorDiv_7cf53 11 = .ok (.iload_n 1, 1) := by decide +kernel
theorem dJ9_floorDiv_7cf53_12 : decode cJ9_floorDiv_7cf53 12 = .ok (.imul, 1) := by decide +kernel
theorem dJ9_floorDiv_7cf53_13 : decode cJ9_floorDiv_7cf53 13 = .ok (.iload_n 0, 1) := by decide +kernel
theorem dJ9_floorDiv_7cf53_14 : decode cJ9_floorDiv_7cf53 14 = .ok (.if_icmp .eq 7, 3) := by decide +kernel
theorem dJ9_floorDiv_7cf53_17 : decode cJ9_floorDiv_7cf53 17 = .ok (.iload_n 2, 1) := by decide +kernel
theorem dJ9_floorDiv_7cf53_18 : decode cJ9_floorDiv_7cf53 18 = .ok (.iconst 1, 1) := by decide +kernel
theorem dJ9_floorDiv_7cf53_19 : decode cJ9_floorDiv_7cf53 19 = .ok (.isub, 1) := by decide +kernel
theorem dJ9_floorDiv_7cf53_20 : decode cJ9_floorDiv_7cf53 20 = .ok (.ireturn, 1) := by decide +kernel
theorem dJ9_floorDiv_7cf53_21 : decode cJ9_floorDiv_7cf53 21 = .ok (.iload_n 2, 1) := by decide +kernel
theorem dJ9_floorDiv_7cf53_22 : decode cJ9_floorDiv_7cf53 22 = .ok (.ireturn, 1) := by decide +kernel
theorem dJ9_min_7cf53_0 : decode cJ9_min_7cf53 0 = .ok (.iload_n 0, 1) := by decide +kernel
theorem dJ9_min_7cf53_1 : decode cJ9_min_7cf53 1 = .ok (.iload_n 1, 1) := by decide +kernel
theorem dJ9_min_7cf53_2 : decode cJ9_min_7cf53 2 = .ok (.if_icmp .gt 7, 3) := by decide +kernel
theorem dJ9_min_7cf53_5 : decode cJ9_min_7cf53 5 = .ok (.iload_n 0, 1) := by decide +kernel
theorem dJ9_min_7cf53_6 : decode cJ9_min_7cf53 6 = .ok (.goto 4, 3) := by decide +kernel
theorem dJ9_min_7cf53_9 : decode cJ9_min_7cf53 9 = .ok (.iload_n 1, 1) := by decide +kernel
theorem dJ9_min_7cf53_10 : decode cJ9_min_7cf53 10 = .ok (.ireturn, 1) := by decide +kernel
end
section
/-! the words that every contract carries: all steady words of the tables -/
def AL : List Cond := lw_tbl.filter goodWord
theorem AL_mem {w : Cond} (h : w ∈ tables_1) (hg : goodWord w = true) : w ∈ AL := List.mem_filter.mpr ⟨List.mem_append_right _ h, hg⟩
theorem AL_memP {w : Cond} (h : w ∈ k2_sels lw_privs) (hg : goodWord w = true) : w ∈ AL := List.mem_filter.mpr ⟨List.mem_append_left _ h, hg⟩
theorem AL_1 {w : Cond} (h : w ∈ tables_1_1) : w ∈ tables_1 := List.mem_append_left _ h
theorem AL_2 {w : Cond} (h : w ∈ tables_1_2) : w ∈ tables_1 := List.mem_append_right _ (List.mem_append_left _ h)
theorem AL_3 {w : Cond} (h : w ∈ tables_1_3) : w ∈ tables_1 := List.mem_append_right _ (List.mem_append_right _ (List.mem_append_left _ h))
theorem AL_4 {w : Cond} (h : w ∈ tables_1_4) : w ∈ tables_1 := List.mem_append_right _ (List.mem_append_right _ (List.mem_append_right _ h))
theorem AL_good {w : Cond} (h : w ∈ AL) : goodWord w = true := (List.mem_filter.mp h).2
theorem AL_tbl {w : Cond} (h : w ∈ AL) : w ∈ lw_tbl := (List.mem_filter.mp h).1
theorem AL_all (ws : List Cond) (ps : List Nat) (hp : ws = ps.filterMap (fun i => tables_1[i]?)) (h : ws.all goodWord = true) : ∀ w ∈ ws, w ∈ AL := by
  intro w hw
  refine AL_mem ?_ (List.all_eq_true.mp h w hw)
  rw [hp] at hw
  obtain ⟨i, -, hi⟩ := List.mem_filterMap.mp hw
  exact List.mem_of_getElem? hi
theorem AL_app {x : Cond} {a b : List Cond} (ha : ∀ w ∈ a, w ∈ AL) (hb : b = AL) : ∀ w ∈ a ++ b, w ∈ AL := fun w h => (List.mem_append.mp h).elim (ha w) (fun h => hb ▸ h)
theorem AL_in {x : Cond} {ws : List Cond} (h : ∀ w ∈ ws, w ∈ AL) : ∀ w ∈ ws, w ∈ x :: AL := fun w hw => List.mem_cons_of_mem _ (h w hw)
/-- a callee's words among the caller's -/
theorem AL_gi {x : Cond} {ws : List Cond} (h : ∀ w ∈ ws, w ∈ AL) : GoodIn (x :: AL) ws := fun w hw => ⟨List.mem_cons_of_mem _ (h w hw), good_of_word (AL_good (h w hw))⟩
/-- a link to a method called by invokevirtual -/
def xLV (own : String) (idx : Nat) (y : MethodName) (b : ByteArray) (mL : Nat) (ret : Option FieldType) (n : Nat) : Prop :=
  (Cond.methodLink own idx y ∈ AL ∧ Cond.instanceMethod y ∈ AL ∧ Cond.selects y.cls y y ∈ AL ∧ Cond.initialized y.cls ∈ AL ∧ Cond.code y b mL ret ∈ AL) ∧ y.cls ≠ "java/lang/invoke/MethodHandle" ∧ y.cls ≠ "java/lang/invoke/VarHandle" ∧ (parseMethodDescriptor y.desc).map (fun d => d.parameters.length) = some n
def xLS (own : String) (idx : Nat) (y : MethodName) (b : ByteArray) (mL : Nat) (ret : Option FieldType) (n : Nat) : Prop :=
  (Cond.methodLink own idx y ∈ AL ∧ Cond.static y ∈ AL ∧ Cond.initialized y.cls ∈ AL ∧ Cond.code y b mL ret ∈ AL) ∧ y.cls ≠ "java/lang/invoke/MethodHandle" ∧ y.cls ≠ "java/lang/invoke/VarHandle" ∧ (parseMethodDescriptor y.desc).map (fun d => d.parameters.length) = some n
/-! THE STATE: cells by number, slots by number, whole numbers; a world is a list of cells from an address on -/
abbrev xM : Type := Nat → Nat → Int32
def xup (σ : xM) (k j : Nat) (x : Int32) : xM := fun k' => if k' = k then upd (σ k) j x else σ k'
def xcp (σ : xM) (k k' n : Nat) : xM := fun i => if i = k' then va_cpy (σ k) (σ k') 0 0 n else σ i
def bz (x : Int32) : Int32 := if x = 0 then 0 else 1
/-- the tables' numbers: classes and slots; the array classes (int, byte, Room, Colony); the static arrays' addresses -/
abbrev xE : Type := va_G × (Nat → ClassId) × (Nat → Nat)
def xty (E : xE) : List (ClassId × FieldType) := [(E.2.1 0, .int), (E.2.1 1, .byte), (E.2.1 2, .object "ThermostatColony$Room"), (E.2.1 3, .object "ThermostatColony$Colony")]
def wl (B : Nat) (lay : Nat → (Nat → Int32) → va_E) (n : Nat) (σ : xM) : va_W := (List.range n).map (fun k => (B + k, lay k (σ k)))
def wA (B n : Nat) : Nat → Prop := fun q => B ≤ q ∧ q < B + n
theorem wl_get {B : Nat} {lay : Nat → (Nat → Int32) → va_E} {n : Nat} {σ : xM} {k : Nat} (hk : k < n) : (wl B lay n σ)[k]? = some (B + k, lay k (σ k)) := by simp [wl, hk]
theorem wl_inv {B : Nat} {lay : Nat → (Nat → Int32) → va_E} {n : Nat} {σ : xM} {k : Nat} {q : Nat × va_E} (h : (wl B lay n σ)[k]? = some q) : k < n ∧ q = (B + k, lay k (σ k)) := by
  have hk : k < n := by
    have := (List.getElem?_eq_some_iff.mp h).1
    simpa [wl] using this
  rw [wl_get hk] at h
  exact ⟨hk, (Option.some.inj h).symm⟩
theorem wl_set {B : Nat} {lay : Nat → (Nat → Int32) → va_E} {n : Nat} {σ σ' : xM} {k : Nat} {e : va_E} (hk : k < n) (h1 : lay k (σ' k) = e) (h2 : ∀ j, j ≠ k → σ' j = σ j) : (wl B lay n σ).set k (B + k, e) = wl B lay n σ' := by
  apply List.ext_getElem?
  intro i
  by_cases hi : i = k
  · subst hi
    rw [List.getElem?_set_self (by simpa [wl] using hk), wl_get hk, h1]
  · rw [List.getElem?_set_ne (fun z => hi z.symm)]
    simp only [wl, List.getElem?_map, h2 i hi]
    by_cases hin : i < n
    · simp [hin, h2 i hi]
    · simp [hin]
theorem wl_D {B : Nat} {lay : Nat → (Nat → Int32) → va_E} {n : Nat} {σ : xM} : va_D (wA B n) (wl B lay n σ) := by
  refine ⟨fun i j p q hi hj hpq => ?_, fun k q hk => ?_⟩
  · obtain ⟨-, rfl⟩ := wl_inv hi
    obtain ⟨-, rfl⟩ := wl_inv hj
    simp only at hpq
    omega
  · obtain ⟨h, rfl⟩ := wl_inv hk
    exact ⟨Nat.le_add_right _ _, Nat.add_lt_add_left h _⟩
theorem xup_same {σ : xM} {k j : Nat} {x : Int32} : xup σ k j x k = upd (σ k) j x := by simp [xup]
theorem xup_ne {σ : xM} {k k' j : Nat} {x : Int32} (h : k' ≠ k) : xup σ k j x k' = σ k' := by simp [xup, h]
theorem xcp_same {σ : xM} {k k' n : Nat} : xcp σ k k' n k' = va_cpy (σ k) (σ k') 0 0 n := by simp [xcp]
theorem xcp_ne {σ : xM} {k k' n i : Nat} (h : i ≠ k') : xcp σ k k' n i = σ i := by simp [xcp, h]
/-! steps of a computation that may be stuck -/
def nm {α β : Type} (x : α) (K : α → Option β) : Option β := K x
theorem nm_h {α β : Type} {x y : α} {K : α → Option β} {r : β} (e : y = x) (h : nm x K = some r) : K y = some r := by subst e; exact h
theorem ck_h {β : Type} {c : Prop} {_ : Decidable c} {x : Option β} {r : β} (h : (if c then x else none) = some r) : c ∧ x = some r := by
  by_cases hc : c
  · rw [if_pos hc] at h; exact ⟨hc, h⟩
  · rw [if_neg hc] at h; cases h
theorem it_h {β : Type} {c : Prop} {_ : Decidable c} {x y : Option β} {r : β} (hc : c) (h : (if c then x else y) = some r) : x = some r := by rw [if_pos hc] at h; exact h
theorem if_h {β : Type} {c : Prop} {_ : Decidable c} {x y : Option β} {r : β} (hc : ¬ c) (h : (if c then x else y) = some r) : y = some r := by rw [if_neg hc] at h; exact h
theorem bd_h {α β : Type} {x : Option α} {K : α → Option β} {r : β} (h : x.bind K = some r) : ∃ q, x = some q ∧ K q = some r := by
  cases x with
  | none => cases h
  | some q => exact ⟨q, rfl, h⟩
theorem nz_h {β : Type} {c : Prop} {_ : Decidable c} {x : Option β} {r : β} (h : (if c then none else x) = some r) : ¬ c ∧ x = some r := by
  by_cases hc : c
  · rw [if_pos hc] at h; cases h
  · rw [if_neg hc] at h; exact ⟨hc, h⟩
def oc {β : Type} (x : Option Nat) (A : Option β) (K : Nat → Option β) : Option β := match x with
  | none => A
  | some r => K r
theorem oc_n {β : Type} {A : Option β} {K : Nat → Option β} {r : β} (h : oc none A K = some r) : A = some r := h
theorem oc_s {β : Type} {A : Option β} {K : Nat → Option β} {r : β} {a : Nat} (h : oc (some a) A K = some r) : K a = some r := h
def FU : Nat := 1300
abbrev inb (i : Int32) (n : Nat) : Prop := ¬ (i < 0 ∨ n ≤ i.toNatClampNeg)
/-! what the tables and the static arrays give, for as long as the program runs -/
def stI (t : Nat) (j : Nat) : Int32 := match t with
  | 0 => ([25, 1000, 5, 10, 7, 45000, 15] : List Int32).getD j 0
  | 1 => ([1, 1, 1, 0, 0, 20000, 1] : List Int32).getD j 0
  | _ => ([100, 9999, 50, 120, 100, 90000, 120] : List Int32).getD j 0
def stV (t : Nat) (j : Nat) : Value := .int (stI t j)
def Ev (E : xE) (A : Nat → Prop) (U : State) (H : Heap) : Prop :=
  va_K E.1 vwCl (xty E) U ∧ va_Nw (.methodLinkNest RX5 64 yX6_within "ThermostatColony") U ∧
  (va_Z "ThermostatColony" "FIRST_NUMBERS" "[I" (.ref (E.2.2 0)) A U H ∧ va_Z "ThermostatColony" "LEAST_NUMBERS" "[I" (.ref (E.2.2 1)) A U H ∧ va_Z "ThermostatColony" "MOST_NUMBERS" "[I" (.ref (E.2.2 2)) A U H) ∧
  ∀ t : Nat, t < 3 → va_T .int (E.2.2 t) 7 (stV t) A U H
theorem Ev.warm {E : xE} {A : Nat → Prop} {s U : State} {H : Heap} (h : Ev E A s H) (hW : s.WarmedH U.vm) : Ev E A U H :=
  ⟨va_K.moved hW.alike h.1, va_Nw.warmM hW h.2.1, ⟨va_Z.moved hW.alike h.2.2.1.1, va_Z.moved hW.alike h.2.2.1.2.1, va_Z.moved hW.alike h.2.2.1.2.2⟩, fun t ht => va_T.moved hW.alike (h.2.2.2 t ht)⟩
theorem Ev.kept {E : xE} {A : Nat → Prop} {U : State} {H H1 : Heap} (h : Ev E A U H) (hq : ∀ a : Nat, a < H.size → ¬ A a → H1[a]? = H[a]?) : Ev E A U H1 :=
  ⟨h.1, h.2.1, ⟨va_Z.kept h.2.2.1.1 hq, va_Z.kept h.2.2.1.2.1 hq, va_Z.kept h.2.2.1.2.2 hq⟩, fun t ht => va_T.kept (h.2.2.2 t ht) hq⟩
theorem Ev.call {E : xE} {A : Nat → Prop} {U : State} {H : Heap} {g : JFrame} {mk : MethodId} {a : Array Value} (h : Ev E A U H) : Ev E A (U.calling g mk a) H :=
  ⟨va_K.moved (u := U) (U := U.calling g mk a) (Vm.Alike.refl U.vm) h.1, va_Nw.same (u := U) (U := U.calling g mk a) rfl rfl h.2.1, ⟨va_Z.moved (u := U) (U := U.calling g mk a) (Vm.Alike.refl U.vm) h.2.2.1.1, va_Z.moved (u := U) (U := U.calling g mk a) (Vm.Alike.refl U.vm) h.2.2.1.2.1, va_Z.moved (u := U) (U := U.calling g mk a) (Vm.Alike.refl U.vm) h.2.2.1.2.2⟩, fun t ht => va_T.moved (u := U) (U := U.calling g mk a) (Vm.Alike.refl U.vm) (h.2.2.2 t ht)⟩
/-- a method's start and end -/
def xP (E : xE) (B n : Nat) (lay : Nat → (Nat → Int32) → va_E) (av : List Value) (σ : xM) : Array Value → State → Prop := va_Pc av (fun U => Ev E (wA B n) U U.heap ∧ va_P E.1 vwCl (wl B lay n σ) U.heap)
def xQ (E : xE) (B n : Nat) (lay : Nat → (Nat → Int32) → va_E) (v : Option Value) (σ : xM) : Array Value → State → Outcome → State → Prop := fun _ st oc t => (oc = .returned v ∧ va_P E.1 vwCl (wl B lay n σ) t.heap) ∧ va_F (wA B n) st t
def xS (E : xE) (B n : Nat) (lay : Nat → (Nat → Int32) → va_E) (s : State) (σ : xM) (H : Heap) (locs : List Loc) : Prop := va_P E.1 vwCl (wl B lay n σ) H ∧ va_S (wA B n) s.heap H locs
abbrev xCX (p : Program) (m : MethodId) (c : Code) (cc : ByteArray) (nL : Nat) (s : State) (args : Array Value) (x : Cond) (own : String) (E : xE) (B n : Nat) : Prop :=
  CallFix p m c cc nL s args (x :: AL) own ∧ Ev E (wA B n) s s.heap
section ROWS
variable {p : Program} {l : Launch} {e : Env} {R : Room} {s : State} {m : MethodId} {args : Array Value} {below : List Frame} {meth : Method} {c : Code} {H : Heap} {locs : List Loc} {Q : State → Prop}
variable {cc : ByteArray} {pc nL : Nat} {ls : Array Slot} {rest : List Value} {E : xE} {B n : Nat} {lay : Nat → (Nat → Int32) → va_E} {σ : xM} {x0 : Cond} {own : String}
theorem x_hts (CX : xCX p m c cc nL s args x0 own E B n) {w : Cond} (h : w ∈ AL) : w.before args s = true := CX.1.2.2.2.2 w (List.mem_cons_of_mem _ h)
/-- getfield -/
theorem x_get (CX : xCX p m c cc nL s args x0 own E B n) (hM : xS E B n lay s σ H locs) {k ci N index : Nat} {C : String} {T : u_T} {fs : List Value} {v : Value} (hk : k < n) (hlay : lay k (σ k) = .inr (ci, fs)) (hin : ∀ w ∈ u_ws C T N, w ∈ AL) (hc : vwCl[ci]? = some (C, T, N)) (j : Nat) (hj : j < N) (hlink : Cond.fieldLink own index (T j).1 (T j).2.1 (T j).2.2.1 ∈ AL) (hv : fs[j]? = some v) (hdg : decode cc pc = .ok (.getfield index, 3))
    (kk : W p l e R s m args below meth c H locs 0 0 Q (F0 m (pc + 3) ls (v :: rest))) : W p l e R s m args below meth c H locs 0 0 Q (F0 m pc ls (.ref (B + k) :: rest)) := by
  have hts := CX.1.2.2.2.2
  exact va_get (D := E.1) (cl := vwCl) (tys := xty E) (ws := wl B lay n σ) CX.1.1 CX.1.2.1 hts (AL_in hin) CX.1.2.2.2.1 CX.2.1 hM.1 k (by rw [wl_get hk, hlay]) hc j hj (x_hts CX hlink) (fun _ h => h) hv hdg kk
/-- putfield of a whole number or a boolean -/
theorem x_put (CX : xCX p m c cc nL s args x0 own E B n) (hM : xS E B n lay s σ H locs) {k ci N index : Nat} {C : String} {T : u_T} {fs : List Value} (x y : Int32) {ty : FieldType} (hk : k < n) (hlay : lay k (σ k) = .inr (ci, fs)) (hin : ∀ w ∈ u_ws C T N, w ∈ AL) (ty0 : Nat → FieldType) (hty : ∀ k, k < N → parseFieldDescriptor (T k).2.2.1 = some (ty0 k)) (hnm : ∀ a, a < N → ∀ b, b < N → a ≠ b → (T a).2.1 ≠ (T b).2.1) (hc : vwCl[ci]? = some (C, T, N)) (j : Nat) (hj : j < N) (hlink : Cond.fieldLink own index (T j).1 (T j).2.1 (T j).2.2.1 ∈ AL) (hfin : (T j).2.2.2 = false) (hd : ty0 j = ty) (hn : narrow ty (.int x) = .int x) (hfit : fits ty (.int x) = true) (hl : j < fs.length)
    (hset : lay k (upd (σ k) j y) = .inr (ci, fs.set j (.int x))) (hdg : decode cc pc = .ok (.putfield index, 3))
    (kk : ∀ (H1 : Heap) (locs1 : List Loc) (σ1 : xM), σ1 = xup σ k j y → xS E B n lay s σ1 H1 locs1 → W p l e R s m args below meth c H1 locs1 0 0 Q (F0 m (pc + 3) ls rest)) : W p l e R s m args below meth c H locs 0 0 Q (F0 m pc ls (.int x :: .ref (B + k) :: rest)) := by
  have hts := CX.1.2.2.2.2
  refine va_put (D := E.1) (cl := vwCl) (tys := xty E) (ws := wl B lay n σ) (A := wA B n) (H0 := s.heap) CX.1.1 CX.1.2.1 hts (AL_in hin) ty0 hty hnm CX.1.2.2.2.1 CX.2.1 hM.1 wl_D hM.2 k (by rw [wl_get hk, hlay]) hc j hj (x_hts CX hlink) (fun _ h => h) hfin ((hty j hj).trans (congrArg some hd)) hn hfit hl hdg (fun H1 locs1 h1 _ h3 => ?_)
  refine kk H1 locs1 _ rfl ⟨?_, h3⟩
  rw [wl_set (σ' := xup σ k j y) hk (by rw [xup_same, hset]) (fun i hi => xup_ne hi)] at h1
  exact h1
theorem x_iald (CX : xCX p m c cc nL s args x0 own E B n) (hM : xS E B n lay s σ H locs) {k N : Nat} (hk : k < n) (hlay : lay k (σ k) = .inl (E.2.1 0, N, .inl (σ k))) {i : Int32} (hin : inb i N) (hdg : decode cc pc = .ok (.iaload, 1))
    (kk : W p l e R s m args below meth c H locs 0 0 Q (F0 m (pc + 1) ls (.int (σ k i.toNatClampNeg) :: rest))) : W p l e R s m args below meth c H locs 0 0 Q (F0 m pc ls (.int i :: .ref (B + k) :: rest)) :=
  va_iald (D := E.1) (cl := vwCl) (tys := xty E) (ws := wl B lay n σ) CX.1.1 CX.1.2.1 CX.2.1 hM.1 k 0 (by rw [wl_get hk, hlay]) rfl hin hdg kk
theorem x_bald (CX : xCX p m c cc nL s args x0 own E B n) (hM : xS E B n lay s σ H locs) {k N : Nat} (hk : k < n) (hlay : lay k (σ k) = .inl (E.2.1 1, N, .inl (σ k))) {i : Int32} (hin : inb i N) (hdg : decode cc pc = .ok (.baload, 1))
    (kk : W p l e R s m args below meth c H locs 0 0 Q (F0 m (pc + 1) ls (.int (σ k i.toNatClampNeg) :: rest))) : W p l e R s m args below meth c H locs 0 0 Q (F0 m pc ls (.int i :: .ref (B + k) :: rest)) :=
  va_bald (D := E.1) (cl := vwCl) (tys := xty E) (ws := wl B lay n σ) CX.1.1 CX.1.2.1 CX.2.1 hM.1 k 1 (by rw [wl_get hk, hlay]) rfl hin hdg kk
theorem x_iast (CX : xCX p m c cc nL s args x0 own E B n) (hM : xS E B n lay s σ H locs) {k N : Nat} (hk : k < n) (hlay : ∀ f, lay k f = .inl (E.2.1 0, N, .inl f)) {i x : Int32} (hin : inb i N) (hdg : decode cc pc = .ok (.iastore, 1))
    (kk : ∀ (H1 : Heap) (locs1 : List Loc) (σ1 : xM), σ1 = xup σ k i.toNatClampNeg x → xS E B n lay s σ1 H1 locs1 → W p l e R s m args below meth c H1 locs1 0 0 Q (F0 m (pc + 1) ls rest)) : W p l e R s m args below meth c H locs 0 0 Q (F0 m pc ls (.int x :: .int i :: .ref (B + k) :: rest)) := by
  refine va_iast (D := E.1) (cl := vwCl) (tys := xty E) (ws := wl B lay n σ) (A := wA B n) (H0 := s.heap) CX.1.1 CX.1.2.1 CX.2.1 hM.1 wl_D hM.2 k 0 (by rw [wl_get hk, hlay]) rfl hin hdg (fun H1 locs1 h1 _ h3 => ?_)
  refine kk H1 locs1 _ rfl ⟨?_, h3⟩
  rw [wl_set (σ' := xup σ k i.toNatClampNeg x) hk (by rw [xup_same, hlay]) (fun i hi => xup_ne hi)] at h1
  exact h1
theorem x_bast (CX : xCX p m c cc nL s args x0 own E B n) (hM : xS E B n lay s σ H locs) {k N : Nat} (hk : k < n) (hlay : ∀ f, lay k f = .inl (E.2.1 1, N, .inl f)) {i x : Int32} (hin : inb i N) (hdg : decode cc pc = .ok (.bastore, 1))
    (kk : ∀ (H1 : Heap) (locs1 : List Loc) (σ1 : xM), σ1 = xup σ k i.toNatClampNeg (vp_nar .byte x) → xS E B n lay s σ1 H1 locs1 → W p l e R s m args below meth c H1 locs1 0 0 Q (F0 m (pc + 1) ls rest)) : W p l e R s m args below meth c H locs 0 0 Q (F0 m pc ls (.int x :: .int i :: .ref (B + k) :: rest)) := by
  refine va_bast (D := E.1) (cl := vwCl) (tys := xty E) (ws := wl B lay n σ) (A := wA B n) (H0 := s.heap) CX.1.1 CX.1.2.1 CX.2.1 hM.1 wl_D hM.2 k 1 (by rw [wl_get hk, hlay]) rfl hin hdg (fun H1 locs1 h1 _ h3 => ?_)
  refine kk H1 locs1 _ rfl ⟨?_, h3⟩
  rw [wl_set (σ' := xup σ k i.toNatClampNeg (vp_nar .byte x)) hk (by rw [xup_same, hlay]) (fun i hi => xup_ne hi)] at h1
  exact h1
theorem x_alen (CX : xCX p m c cc nL s args x0 own E B n) (hM : xS E B n lay s σ H locs) {k : Nat} (t0 : Nat) {cA : ClassId} {a : vp_A} {ty : FieldType} (hk : k < n) (hlay : lay k (σ k) = .inl (cA, a)) (ht : (xty E)[t0]? = some (cA, ty)) {v : Int32} (hv : Int32.ofNat a.1 = v) (hdg : decode cc pc = .ok (.arraylength, 1))
    (kk : W p l e R s m args below meth c H locs 0 0 Q (F0 m (pc + 1) ls (.int v :: rest))) : W p l e R s m args below meth c H locs 0 0 Q (F0 m pc ls (.ref (B + k) :: rest)) :=
  va_alen (D := E.1) (cl := vwCl) (tys := xty E) (ws := wl B lay n σ) CX.1.1 CX.1.2.1 CX.2.1 hM.1 k t0 (by rw [wl_get hk, hlay]) ht hv hdg kk
theorem x_aald (CX : xCX p m c cc nL s args x0 own E B n) (hM : xS E B n lay s σ H locs) {k N : Nat} (t0 : Nat) {cA : ClassId} {C : String} {f : Nat → Option Nat} (hk : k < n) (hlay : lay k (σ k) = .inl (cA, N, .inr (.inr (.inr (.inr f))))) (ht : (xty E)[t0]? = some (cA, .object C)) {i : Int32} (hin : inb i N) {q : Nat} (hq : f i.toNatClampNeg = some q) (hdg : decode cc pc = .ok (.aaload, 1))
    (kk : W p l e R s m args below meth c H locs 0 0 Q (F0 m (pc + 1) ls (.ref q :: rest))) : W p l e R s m args below meth c H locs 0 0 Q (F0 m pc ls (.int i :: .ref (B + k) :: rest)) := by
  refine va_aldq (D := E.1) (cl := vwCl) (tys := xty E) (ws := wl B lay n σ) CX.1.1 CX.1.2.1 CX.2.1 hM.1 k t0 (by rw [wl_get hk, hlay]) ht hin hdg ?_
  rw [hq]
  exact kk
/-- a static array, read only: its reference, its length, a place of it -/
theorem x_gets (CX : xCX p m c cc nL s args x0 own E B n) (hM : xS E B n lay s σ H locs) {index : Nat} {nm : String} {t : Nat} (hZ : va_Z "ThermostatColony" nm "[I" (.ref t) (wA B n) s s.heap) (hlink : Cond.fieldLink own index "ThermostatColony" nm "[I" ∈ AL) (hdg : decode cc pc = .ok (.getstatic index, 3))
    (kk : W p l e R s m args below meth c H locs 0 0 Q (F0 m (pc + 3) ls (.ref t :: rest))) : W p l e R s m args below meth c H locs 0 0 Q (F0 m pc ls rest) :=
  va_gets CX.1.1 CX.1.2.1 hZ hM.2 CX.1.2.2.2.1 (x_hts CX hlink) (fun _ h => h) hdg kk
theorem x_slen (CX : xCX p m c cc nL s args x0 own E B n) (hM : xS E B n lay s σ H locs) {t N : Nat} {f : Nat → Value} (hT : va_T .int t N f (wA B n) s s.heap) (hdg : decode cc pc = .ok (.arraylength, 1))
    (kk : W p l e R s m args below meth c H locs 0 0 Q (F0 m (pc + 1) ls (.int (Int32.ofNat N) :: rest))) : W p l e R s m args below meth c H locs 0 0 Q (F0 m pc ls (.ref t :: rest)) := by
  obtain ⟨cell, h1, h2, h3, h4, h5, h6, h7⟩ := hT
  have h9 : H[t]? = some cell := by rw [hM.2.2.1 t (Array.getElem?_eq_some_iff.mp h1).1 h7]; exact h1
  exact W.alen CX.1.1 CX.1.2.1 h9 h2 h5 rfl rfl hdg kk
theorem x_sald (CX : xCX p m c cc nL s args x0 own E B n) (hM : xS E B n lay s σ H locs) {t N : Nat} {f : Nat → Value} (hT : va_T .int t N f (wA B n) s s.heap) {i : Int32} (hin : inb i N) {v : Value} (hv : f i.toNatClampNeg = v) (hdg : decode cc pc = .ok (.iaload, 1))
    (kk : W p l e R s m args below meth c H locs 0 0 Q (F0 m (pc + 1) ls (v :: rest))) : W p l e R s m args below meth c H locs 0 0 Q (F0 m pc ls (.int i :: .ref t :: rest)) := by
  obtain ⟨cell, h1, h2, h3, h4, h5, h6, h7⟩ := hT
  have h9 : H[t]? = some cell := by rw [hM.2.2.1 t (Array.getElem?_eq_some_iff.mp h1).1 h7]; exact h1
  have hlt : i.toNatClampNeg < N := Nat.not_le.mp fun q => hin (Or.inr q)
  exact W.iald CX.1.1 CX.1.2.1 h9 h2 h3 (fun h => h.elim (fun q => hin (Or.inl q)) (fun q => absurd q (Nat.not_le.mpr (Nat.lt_of_lt_of_le hlt h4)))) ((h6 _ hlt).trans (congrArg some hv)) rfl rfl hdg kk
/-- what a call gives back -/
theorem x_back {v : Option Value} {σ' : xM} {st0 : List Value} {a : Array Value} (hM : xS E B n lay s σ H locs) (hr : va_Run p l e R s m args below meth c H locs 0 0 0 0 (F0 m pc ls st0) rest (xQ E B n lay v σ' a) (wA B n))
    (kk : ∀ (H1 : Heap) (locs1 : List Loc), xS E B n lay s σ' H1 locs1 → W p l e R s m args below meth c H1 locs1 0 0 Q (F0 m (pc + 3) ls (v.toList ++ rest))) : W p l e R s m args below meth c H locs 0 0 Q (F0 m pc ls st0) := by
  intro T hT X
  obtain ⟨v', st₀, t, T', L, h0, X', hL, e1, e2, ⟨⟨hv, hb⟩, hz, hk⟩, st⟩ := hr T hT X
  cases hv
  rw [h0] at hz hk
  have hS := hM.2
  obtain ⟨t2, a1, b1⟩ := kk T'.heap (locs ++ L) ⟨by rw [e1]; exact hb, Nat.le_trans hS.1 (by rw [e1]; exact hz), fun q h1 h2 => by rw [e1, hk q (Nat.lt_of_lt_of_le h1 hS.1) h2]; exact hS.2.1 q h1 h2, fun q hq => by
      rcases List.mem_append.mp hq with h | h
      · exact hS.2.2 q h
      · exact hL q h⟩ T' rfl X'
  exact ⟨t2, st t2 a1, b1⟩
theorem x_pre (CX : xCX p m c cc nL s args x0 own E B n) (hM : xS E B n lay s σ H locs) {av : List Value} : FrameBlind (xP E B n lay av σ) ∧ ∀ U : State, U.heap = H → s.WarmedH U.vm → xP E B n lay av σ av.toArray U :=
  ⟨fun a U g mk q => ⟨q.1, Ev.call q.2.1, q.2.2⟩, fun U hU hW => ⟨rfl, by rw [hU]; exact (CX.2.warm hW).kept hM.2.2.1, by rw [hU]; exact hM.1⟩⟩
variable {y : MethodName} {b : ByteArray} {mL index na : Nat} {ret : Option FieldType} {rm : Room} {As st0 : List Value} {v : Option Value} {σ' : xM}
theorem x_callV (CX : xCX p m c cc nL s args x0 own E B n) (hM : xS E B n lay s σ H locs) {k ci : Nat} {fs : List Value} {T : u_T} {N : Nat} (hk : k < n) (hlay : lay k (σ k) = .inr (ci, fs)) (hc : vwCl[ci]? = some (y.cls, T, N)) (hL : xLV own index y b mL ret na)
    (hm : Met l y (Cond.code y b mL ret :: AL) rm (xP E B n lay (.ref (B + k) :: As) σ) (xQ E B n lay v σ') 0 0 (wA B n)) (hr : rm.cells = 0 ∧ rm.slots = 0 ∧ rm.frames + 1 ≤ R.frames ∧ 8 + (mL + 11) + rm.locals ≤ R.locals) (hn : As.length = na) (hls : ls.size = nL) (hst : st0 = As.reverse ++ .ref (B + k) :: rest) (hW : (rest.map fun v => v.category).sum ≤ 8) (hdg : decode cc pc = .ok (.invokevirtual index, 3))
    (kk : ∀ (H1 : Heap) (locs1 : List Loc), xS E B n lay s σ' H1 locs1 → W p l e R s m args below meth c H1 locs1 0 0 Q (F0 m (pc + 3) ls (v.toList ++ rest))) : W p l e R s m args below meth c H locs 0 0 Q (F0 m pc ls st0) := by
  subst hst
  obtain ⟨⟨w1, w2, w3, w4, w5⟩, d1, d2, d3⟩ := hL
  have hp := x_pre CX hM (av := .ref (B + k) :: As)
  refine x_back hM (va_runV (b := B + k) (As := As) (rest := rest) (C := y.cls) CX.1 hm (cwV na CX.1.2.2.2.2 ?_ rfl hr.1 hr.2.1 ⟨rfl, d1, d2, d3⟩ hr.2.2) ⟨hp.1, va_recv CX.2.1 hM.1 hc (by rw [wl_get hk, hlay]), hp.2⟩ rfl hn hls rfl (lv_room (pc := pc) hW) hdg ⟨Nat.zero_le _, Nat.zero_le _⟩) kk
  refine AL_gi ?_
  intro w hw
  rcases List.mem_append.mp hw with hw | hw
  · simp only [List.mem_cons, List.not_mem_nil, or_false] at hw
    rcases hw with rfl | rfl | rfl | rfl <;> assumption
  · rcases List.mem_cons.mp hw with rfl | hw
    · exact w5
    · exact hw
theorem x_callS (CX : xCX p m c cc nL s args x0 own E B n) (hM : xS E B n lay s σ H locs) (hL : xLS own index y b mL ret na)
    (hm : Met l y (Cond.code y b mL ret :: AL) rm (xP E B n lay As σ) (xQ E B n lay v σ') 0 0 (wA B n)) (hr : rm.cells = 0 ∧ rm.slots = 0 ∧ rm.frames + 1 ≤ R.frames ∧ 8 + (mL + 11) + rm.locals ≤ R.locals) (hn : As.length = na) (hls : ls.size = nL) (hst : st0 = As.reverse ++ rest) (hW : (rest.map fun v => v.category).sum ≤ 8) (hdg : decode cc pc = .ok (.invokestatic index, 3))
    (kk : ∀ (H1 : Heap) (locs1 : List Loc), xS E B n lay s σ' H1 locs1 → W p l e R s m args below meth c H1 locs1 0 0 Q (F0 m (pc + 3) ls (v.toList ++ rest))) : W p l e R s m args below meth c H locs 0 0 Q (F0 m pc ls st0) := by
  subst hst
  obtain ⟨⟨w1, w2, w3, w5⟩, d1, d2, d3⟩ := hL
  have hp := x_pre CX hM (av := As)
  refine x_back hM (va_runS (As := As) (rest := rest) CX.1 hm (va_cwS na CX.1.2.2.2.2 ?_ rfl hr.1 hr.2.1 ⟨d1, d2, d3⟩ hr.2.2) hp rfl hn hls rfl (lv_room (pc := pc) hW) hdg ⟨Nat.zero_le _, Nat.zero_le _⟩) kk
  refine AL_gi ?_
  intro w hw
  rcases List.mem_append.mp hw with hw | hw
  · simp only [List.mem_cons, List.not_mem_nil, or_false] at hw
    rcases hw with rfl | rfl | rfl <;> assumption
  · rcases List.mem_cons.mp hw with rfl | hw
    · exact w5
    · exact hw
/-- a static method of a nest mate -/
theorem x_callSN (CX : xCX p m c cc nL s args x0 own E B n) (hM : xS E B n lay s σ H locs) {host : String} (hnw : va_Nw (.methodLinkNest own index y host) s) (hL : (Cond.static y ∈ AL ∧ Cond.initialized y.cls ∈ AL ∧ Cond.code y b mL ret ∈ AL) ∧ y.cls ≠ "java/lang/invoke/MethodHandle" ∧ y.cls ≠ "java/lang/invoke/VarHandle" ∧ (parseMethodDescriptor y.desc).map (fun d => d.parameters.length) = some na)
    (hm : Met l y (Cond.code y b mL ret :: AL) rm (xP E B n lay As σ) (xQ E B n lay v σ') 0 0 (wA B n)) (hr : rm.cells = 0 ∧ rm.slots = 0 ∧ rm.frames + 1 ≤ R.frames ∧ 8 + (mL + 11) + rm.locals ≤ R.locals) (hn : As.length = na) (hls : ls.size = nL) (hst : st0 = As.reverse ++ rest) (hW : (rest.map fun v => v.category).sum ≤ 8) (hdg : decode cc pc = .ok (.invokestatic index, 3))
    (kk : ∀ (H1 : Heap) (locs1 : List Loc), xS E B n lay s σ' H1 locs1 → W p l e R s m args below meth c H1 locs1 0 0 Q (F0 m (pc + 3) ls (v.toList ++ rest))) : W p l e R s m args below meth c H locs 0 0 Q (F0 m pc ls st0) := by
  subst hst
  obtain ⟨⟨w2, w3, w5⟩, d1, d2, d3⟩ := hL
  have hp := x_pre CX hM (av := As)
  refine x_back hM (va_runSN (As := As) (rest := rest) CX.1 hm ⟨va_cnB na CX.1.2.2.2.2 (AL_gi ?_) rfl hr.1 hr.2.1 hnw (x_hts CX w3) ⟨d1, d2, d3⟩ hr.2.2, x_hts CX w2, trivial⟩ hp rfl hn hls rfl (lv_room (pc := pc) hW) hdg ⟨Nat.zero_le _, Nat.zero_le _⟩) kk
  intro w hw
  rcases List.mem_cons.mp hw with rfl | hw
  · exact w5
  · exact hw
end ROWS
end
section
/-! the class's world: 160 cells -/
def kdL : List Nat :=
  [6] ++ [1, 10, 11, 12, 4, 13, 13, 3, 0, 3, 0, 3, 0, 3, 0, 3, 0, 3, 0] ++ [1, 10, 11, 12, 4, 13, 13, 3, 0, 3, 0, 3, 0, 3, 0, 3, 0, 3, 0] ++ [2, 14] ++
  [1, 10, 11, 12, 4, 13, 13, 3, 0, 3, 0, 3, 0, 3, 0, 3, 0, 3, 0] ++ [1, 10, 11, 12, 4, 13, 13, 3, 0, 3, 0, 3, 0, 3, 0, 3, 0, 3, 0] ++ [1, 10, 11, 12, 4, 13, 13, 3, 0, 3, 0, 3, 0, 3, 0, 3, 0, 3, 0] ++
  [1, 10, 11, 12, 4, 13, 13, 3, 0, 3, 0, 3, 0, 3, 0, 3, 0, 3, 0] ++ [1, 10, 11, 12, 4, 13, 13, 3, 0, 3, 0, 3, 0, 3, 0, 3, 0, 3, 0] ++ [1, 10, 11, 12, 4, 13, 13, 3, 0, 3, 0, 3, 0, 3, 0, 3, 0, 3, 0] ++
  [5, 15, 4, 13, 13]
def kd (k : Nat) : Nat := kdL.getD k 99
theorem kd_lt {k : Nat} (h : kd k < 99) : k < 160 := by
  rcases Nat.lt_or_ge k 160 with q | q
  · exact q
  · exfalso
    have : kd k = 99 := by
      unfold kd
      rw [List.getD_eq_getElem?_getD, List.getElem?_eq_none (by show kdL.length ≤ k; exact q)]
      rfl
    omega
theorem kd_all {P : Nat → Prop} [DecidablePred P] (h : ∀ k, k < 160 → P k) {k : Nat} (hk : kd k < 99) : P k := h k (kd_lt hk)
theorem kd1_f {k : Nat} (h : kd k = 1) : kd (k + 1) = 10 ∧ kd (k + 2) = 11 ∧ kd (k + 3) = 12 ∧ kd (k + 4) = 4 :=
  (by decide +kernel : ∀ k, k < 160 → kd k = 1 → kd (k + 1) = 10 ∧ kd (k + 2) = 11 ∧ kd (k + 3) = 12 ∧ kd (k + 4) = 4) k (kd_lt (by omega)) h
theorem kd2_f {k : Nat} (h : kd k = 2) : kd (k + 1) = 14 :=
  (by decide +kernel : ∀ k, k < 160 → kd k = 2 → kd (k + 1) = 14) k (kd_lt (by omega)) h
theorem kd3_f {k : Nat} (h : kd k = 3) : kd (k + 1) = 0 :=
  (by decide +kernel : ∀ k, k < 160 → kd k = 3 → kd (k + 1) = 0) k (kd_lt (by omega)) h
theorem kd4_f {k : Nat} (h : kd k = 4) : kd (k + 1) = 13 ∧ kd (k + 2) = 13 :=
  (by decide +kernel : ∀ k, k < 160 → kd k = 4 → kd (k + 1) = 13 ∧ kd (k + 2) = 13) k (kd_lt (by omega)) h
theorem kd5_f {k : Nat} (h : kd k = 5) : kd (k + 1) = 15 :=
  (by decide +kernel : ∀ k, k < 160 → kd k = 5 → kd (k + 1) = 15) k (kd_lt (by omega)) h
theorem kd6_f {k : Nat} (h : kd k = 6) : kd (k + 1) = 1 ∧ kd (k + 20) = 1 ∧ kd (k + 39) = 2 ∧ kd (k + 155) = 5 ∧ kd (k + 157) = 4 :=
  (by decide +kernel : ∀ k, k < 160 → kd k = 6 → kd (k + 1) = 1 ∧ kd (k + 20) = 1 ∧ kd (k + 39) = 2 ∧ kd (k + 155) = 5 ∧ kd (k + 157) = 4) k (kd_lt (by omega)) h
def sh0 (f : Nat → Int32) : List Value := [.int (f 0), .int (f 1), .int (f 2), .int (f 3), .int (f 4)]
def sh1 (B k : Nat) (f : Nat → Int32) : List Value := [.ref (B + (k + 1)), .ref (B + (k + 2)), .ref (B + (k + 3)), .ref (B + (k + 4)), .int (f 4), .int (f 5)]
def sh2 (B k : Nat) (f : Nat → Int32) : List Value := [.ref (B + (k + 1)), .int (f 1), .int (f 2)]
def sh3 (B k : Nat) (f : Nat → Int32) : List Value := [.ref (B + (k + 1)), .int (f 1), .int (f 2), .int (f 3), .int (f 4), .int (f 5), .int (f 6), .int (f 7), .int (bz (f 8)), .int (bz (f 9)), .int (bz (f 10)), .int (f 11), .int (f 12), .int (f 13), .int (f 14), .int (f 15), .int (f 16), .int (f 17)]
def sh4 (B k : Nat) (f : Nat → Int32) : List Value := [.ref (B + (k + 1)), .ref (B + (k + 2)), .int (f 2)]
def sh5 (B k : Nat) (f : Nat → Int32) : List Value := [.ref (B + (k + 1)), .int (f 1), .int (f 2)]
def sh6 (B k : Nat) : List Value := [.ref (B + (k + 1)), .ref (B + (k + 20)), .ref (B + (k + 39)), .ref (B + (k + 155)), .ref (B + (k + 157))]
def shX (E : xE) (B k : Nat) (f : Nat → Int32) (K : Nat) : va_E := match K with
  | 0 => .inr (0, sh0 f)
  | 1 => .inr (1, sh1 B k f)
  | 2 => .inr (2, sh2 B k f)
  | 3 => .inr (3, sh3 B k f)
  | 4 => .inr (4, sh4 B k f)
  | 5 => .inr (5, sh5 B k f)
  | 6 => .inr (6, sh6 B k)
  | 10 => .inl (E.2.1 0, 7, .inl f)
  | 11 => .inl (E.2.1 2, 6, .inr (.inr (.inr (.inr (fun j => some (B + (k + 5 + 2 * j)))))))
  | 12 => .inl (E.2.1 0, 36, .inl f)
  | 13 => .inl (E.2.1 0, 12, .inl f)
  | 14 => .inl (E.2.1 3, 6, .inr (.inr (.inr (.inr (fun j => some (B + (k + 1 + 19 * j)))))))
  | 15 => .inl (E.2.1 0, 100, .inl f)
  | _ => .inl (E.2.1 0, 0, .inl f)
def layX (E : xE) (B : Nat) (k : Nat) (f : Nat → Int32) : va_E := shX E B k f (kd k)
theorem ly0 {E : xE} {B k : Nat} (h : kd k = 0) (f : Nat → Int32) : layX E B k f = .inr (0, sh0 f) := by unfold layX; rw [h]; rfl
theorem ly1 {E : xE} {B k : Nat} (h : kd k = 1) (f : Nat → Int32) : layX E B k f = .inr (1, sh1 B k f) := by unfold layX; rw [h]; rfl
theorem ly2 {E : xE} {B k : Nat} (h : kd k = 2) (f : Nat → Int32) : layX E B k f = .inr (2, sh2 B k f) := by unfold layX; rw [h]; rfl
theorem ly3 {E : xE} {B k : Nat} (h : kd k = 3) (f : Nat → Int32) : layX E B k f = .inr (3, sh3 B k f) := by unfold layX; rw [h]; rfl
theorem ly4 {E : xE} {B k : Nat} (h : kd k = 4) (f : Nat → Int32) : layX E B k f = .inr (4, sh4 B k f) := by unfold layX; rw [h]; rfl
theorem ly5 {E : xE} {B k : Nat} (h : kd k = 5) (f : Nat → Int32) : layX E B k f = .inr (5, sh5 B k f) := by unfold layX; rw [h]; rfl
theorem ly6 {E : xE} {B k : Nat} (h : kd k = 6) (f : Nat → Int32) : layX E B k f = .inr (6, sh6 B k) := by unfold layX; rw [h]; rfl
theorem ly10 {E : xE} {B k : Nat} (h : kd k = 10) (f : Nat → Int32) : layX E B k f = .inl (E.2.1 0, 7, .inl f) := by unfold layX; rw [h]; rfl
theorem ly11 {E : xE} {B k : Nat} (h : kd k = 11) (f : Nat → Int32) : layX E B k f = .inl (E.2.1 2, 6, .inr (.inr (.inr (.inr (fun j => some (B + (k + 5 + 2 * j))))))) := by unfold layX; rw [h]; rfl
theorem ly12 {E : xE} {B k : Nat} (h : kd k = 12) (f : Nat → Int32) : layX E B k f = .inl (E.2.1 0, 36, .inl f) := by unfold layX; rw [h]; rfl
theorem ly13 {E : xE} {B k : Nat} (h : kd k = 13) (f : Nat → Int32) : layX E B k f = .inl (E.2.1 0, 12, .inl f) := by unfold layX; rw [h]; rfl
theorem ly14 {E : xE} {B k : Nat} (h : kd k = 14) (f : Nat → Int32) : layX E B k f = .inl (E.2.1 3, 6, .inr (.inr (.inr (.inr (fun j => some (B + (k + 1 + 19 * j))))))) := by unfold layX; rw [h]; rfl
theorem ly15 {E : xE} {B k : Nat} (h : kd k = 15) (f : Nat → Int32) : layX E B k f = .inl (E.2.1 0, 100, .inl f) := by unfold layX; rw [h]; rfl
theorem kdl {k K : Nat} (h : kd k = K) (hK : Nat.blt K 99 = true) : k < 160 := kd_lt (by rw [h]; exact Nat.blt_eq.mp hK)
/-! the reference's world: 7 cells -/
def kdY (k : Nat) : Nat := ([7, 20, 21, 22, 23, 24, 25] : List Nat).getD k 99
def sh7 (B k : Nat) (f : Nat → Int32) : List Value := [.ref (B + (k + 1)), .ref (B + (k + 2)), .int (f 2), .ref (B + (k + 3)), .int (f 4), .ref (B + (k + 4)), .ref (B + (k + 5)), .int (f 7), .int (f 8), .int (f 9), .ref (B + (k + 6))]
def shY (E : xE) (B k : Nat) (f : Nat → Int32) (K : Nat) : va_E := match K with
  | 7 => .inr (7, sh7 B k f)
  | 20 => .inl (E.2.1 0, 196, .inl f)
  | 21 => .inl (E.2.1 0, 1176, .inl f)
  | 22 => .inl (E.2.1 1, 100, .inl f)
  | 23 => .inl (E.2.1 0, 196, .inl f)
  | 24 => .inl (E.2.1 0, 24, .inl f)
  | 25 => .inl (E.2.1 0, 6, .inl f)
  | _ => .inl (E.2.1 0, 0, .inl f)
def layY (E : xE) (B : Nat) (k : Nat) (f : Nat → Int32) : va_E := shY E B k f (kdY k)
theorem kdY_lt {k : Nat} (h : kdY k < 99) : k < 7 := by
  rcases Nat.lt_or_ge k 7 with q | q
  · exact q
  · exfalso
    have : kdY k = 99 := by
      unfold kdY
      rw [List.getD_eq_getElem?_getD, List.getElem?_eq_none (by show 7 ≤ k; exact q)]
      rfl
    omega
theorem kdYl {k K : Nat} (h : kdY k = K) (hK : Nat.blt K 99 = true) : k < 7 := kdY_lt (by rw [h]; exact Nat.blt_eq.mp hK)
theorem kd7_f {k : Nat} (h : kdY k = 7) : kdY (k + 1) = 20 ∧ kdY (k + 2) = 21 ∧ kdY (k + 3) = 22 ∧ kdY (k + 4) = 23 ∧ kdY (k + 5) = 24 ∧ kdY (k + 6) = 25 :=
  (by decide +kernel : ∀ k, k < 7 → kdY k = 7 → kdY (k + 1) = 20 ∧ kdY (k + 2) = 21 ∧ kdY (k + 3) = 22 ∧ kdY (k + 4) = 23 ∧ kdY (k + 5) = 24 ∧ kdY (k + 6) = 25) k (kdY_lt (by omega)) h
theorem ly7 {E : xE} {B k : Nat} (h : kdY k = 7) (f : Nat → Int32) : layY E B k f = .inr (7, sh7 B k f) := by unfold layY; rw [h]; rfl
theorem ly20 {E : xE} {B k : Nat} (h : kdY k = 20) (f : Nat → Int32) : layY E B k f = .inl (E.2.1 0, 196, .inl f) := by unfold layY; rw [h]; rfl
theorem ly21 {E : xE} {B k : Nat} (h : kdY k = 21) (f : Nat → Int32) : layY E B k f = .inl (E.2.1 0, 1176, .inl f) := by unfold layY; rw [h]; rfl
theorem ly22 {E : xE} {B k : Nat} (h : kdY k = 22) (f : Nat → Int32) : layY E B k f = .inl (E.2.1 1, 100, .inl f) := by unfold layY; rw [h]; rfl
theorem ly23 {E : xE} {B k : Nat} (h : kdY k = 23) (f : Nat → Int32) : layY E B k f = .inl (E.2.1 0, 196, .inl f) := by unfold layY; rw [h]; rfl
theorem ly24 {E : xE} {B k : Nat} (h : kdY k = 24) (f : Nat → Int32) : layY E B k f = .inl (E.2.1 0, 24, .inl f) := by unfold layY; rw [h]; rfl
theorem ly25 {E : xE} {B k : Nat} (h : kdY k = 25) (f : Nat → Int32) : layY E B k f = .inl (E.2.1 0, 6, .inl f) := by unfold layY; rw [h]; rfl
theorem bz_bz (x : Int32) : bz (bz x) = bz x := by unfold bz; split <;> rfl
theorem bz_cases (x : Int32) : bz x = 0 ∨ bz x = 1 := by unfold bz; split; exact Or.inl rfl; exact Or.inr rfl
theorem bz_nar (x : Int32) : narrow .boolean (.int (bz x)) = .int (bz x) := by rcases bz_cases x with h | h <;> rw [h] <;> rfl
theorem bz_fit (x : Int32) : fits .boolean (.int (bz x)) = true := by rcases bz_cases x with h | h <;> rw [h] <;> rfl
section PRO
variable {p : Program} {l : Launch} {e : Env} {R : Room} {s : State} {m : MethodId} {args : Array Value} {below : List Frame} {meth : Method} {c : Code} {H : Heap} {locs : List Loc} {Q : State → Prop}
variable {cc : ByteArray} {pc nL : Nat} {ls : Array Slot} {rest : List Value} {E : xE} {B n : Nat} {lay : Nat → (Nat → Int32) → va_E} {σ : xM} {x0 : Cond} {own : String}
/-- a method, from its entry -/
theorem x_met {y : MethodName} {b : ByteArray} {mL : Nat} {ret : Option FieldType} {rm : Room} {av : List Value} {lv : List (Nat × Value)} {v : Option Value} {σ' : xM} (hy : plainFor y = true) (hlen : (lg_sl av).length ≤ mL) (hlv : lv_args 0 av = lv)
    (body : ∀ (p : Program) (e : Env) (s : State) (m : MethodId) (below : List Frame) (meth : Method) (c : Code) (ls : Array Slot), xCX p m c b mL s av.toArray (Cond.code y b mL ret) y.cls E B n → meth.sig.returnType = ret → meth.locks = false → xS E B n lay s σ s.heap [] → lv_has ls mL lv →
      W p l e rm s m av.toArray below meth c s.heap [] 0 0 (MQ below (xQ E B n lay v σ') av.toArray s 0 0 (wA B n)) (F0 m 0 ls [])) :
    Met l y (Cond.code y b mL ret :: AL) rm (xP E B n lay av σ) (xQ E B n lay v σ') 0 0 (wA B n) := by
  refine va_MetF (cc := b) (maxL := mL) (ret := ret) hy rfl ?_
  intro p e s m args below meth c s₁ BB hml hv
  obtain ⟨rfl, hE, hP⟩ := hv
  have hown : s.vm.findClass y.cls = some m.cls := findClass_of_methodNamed BB.named
  rw [lg_entry_eq]
  exact body p e s m below meth c _ ⟨⟨BB.exec, BB.bytes, hml, hown, atoms_spec (ws := Cond.code y b mL ret :: AL) BB.pre⟩, hE⟩ BB.returns BB.notSynchronized ⟨hP, va_S.rf⟩ (hlv ▸ lv_entry av hlen)
variable {σ' : xM} {x : Int32} {v : Option Value}
theorem x_iret (CX : xCX p m c cc nL s args x0 own E B n) (hr : meth.sig.returnType = some .int) (hlk : meth.locks = false) (hM : xS E B n lay s σ H locs) (hv : v = some (.int x)) (hdg : decode cc pc = .ok (.ireturn, 1)) :
    W p l e R s m args below meth c H locs 0 0 (MQ below (xQ E B n lay v σ) args s 0 0 (wA B n)) (F0 m pc ls [.int x]) := by
  subst hv
  exact W.iret CX.1.1 CX.1.2.1 hr (fun t ht _ => ⟨⟨rfl, by rw [ht]; exact hM.1⟩, hM.2.F ht⟩) hM.2.2.2 hdg hlk
theorem x_zret (CX : xCX p m c cc nL s args x0 own E B n) (hr : meth.sig.returnType = some .boolean) (hlk : meth.locks = false) (hM : xS E B n lay s σ H locs) {y : Int32} (hy : x = bz y) (hv : v = some (.int (bz y))) (hdg : decode cc pc = .ok (.ireturn, 1)) :
    W p l e R s m args below meth c H locs 0 0 (MQ below (xQ E B n lay v σ) args s 0 0 (wA B n)) (F0 m pc ls [.int x]) := by
  subst hv
  subst hy
  exact W.zret CX.1.1 CX.1.2.1 hr (bz_nar y) (fun t ht _ => ⟨⟨rfl, by rw [ht]; exact hM.1⟩, hM.2.F ht⟩) hM.2.2.2 hdg hlk
theorem x_vret (CX : xCX p m c cc nL s args x0 own E B n) (hr : meth.sig.returnType = none) (hlk : meth.locks = false) (hM : xS E B n lay s σ H locs) (hv : v = none) (hdg : decode cc pc = .ok (.return_, 1)) :
    W p l e R s m args below meth c H locs 0 0 (MQ below (xQ E B n lay v σ) args s 0 0 (wA B n)) (F0 m pc ls []) := by
  subst hv
  exact W.vret CX.1.1 CX.1.2.1 hr (fun t ht _ => ⟨⟨rfl, by rw [ht]; exact hM.1⟩, hM.2.F ht⟩) hM.2.2.2 hdg hlk
theorem x_aret (CX : xCX p m c cc nL s args x0 own E B n) {C : String} (hr : meth.sig.returnType = some (.object C)) (hlk : meth.locks = false) (hM : xS E B n lay s σ H locs) {w : Value} (hw : w = .null ∨ ∃ a, w = .ref a) (hv : v = some w) (hdg : decode cc pc = .ok (.areturn, 1)) :
    W p l e R s m args below meth c H locs 0 0 (MQ below (xQ E B n lay v σ) args s 0 0 (wA B n)) (F0 m pc ls [w]) := by
  subst hv
  exact W.aret CX.1.1 CX.1.2.1 hr (Or.inl ⟨_, rfl⟩) hw (fun t ht _ => ⟨⟨rfl, by rw [ht]; exact hM.1⟩, hM.2.F ht⟩) hM.2.2.2 hdg hlk
/-- System.arraycopy between two whole-number arrays, from 0 to 0 -/
theorem x_acopy (CX : xCX p m c cc nL s args x0 own E B n) (hM : xS E B n lay s σ H locs) {k k' N0 N1 nn index : Nat} {z : Int32} (hk : k < n) (hk' : k' < n) (hlay : lay k (σ k) = .inl (E.2.1 0, N0, .inl (σ k))) (hlay' : ∀ f, lay k' f = .inl (E.2.1 0, N1, .inl f)) (hz : z.toNatClampNeg = nn) (h3 : ¬ z < 0) (h4 : nn ≤ N0) (h5 : nn ≤ N1) (hls : ls.size = nL)
    (hL : Cond.methodLink own index arraycopyName ∈ AL ∧ Cond.native arraycopyName ∈ AL ∧ Cond.static arraycopyName ∈ AL ∧ Cond.initialized "java/lang/System" ∈ AL)
    (hfr : 1 ≤ R.frames) (hlo : (rest.map fun v => v.category).sum + (nativeFrameWords "java/lang/System" "arraycopy" 5 + 11) ≤ R.locals) (hdg : decode cc pc = .ok (.invokestatic index, 3))
    (kk : ∀ (H1 : Heap) (locs1 : List Loc) (σ1 : xM), σ1 = xcp σ k k' nn → xS E B n lay s σ1 H1 locs1 → W p l e R s m args below meth c H1 locs1 0 0 Q (F0 m (pc + 3) ls rest)) : W p l e R s m args below meth c H locs 0 0 Q (F0 m pc ls (.int z :: .int 0 :: .ref (B + k') :: .int 0 :: .ref (B + k) :: rest)) := by
  obtain ⟨w1, w2, w3, w4⟩ := hL
  subst hz
  have z0 : ((0 : Int32)).toNatClampNeg = 0 := by decide
  refine va_copyi (D := E.1) (cl := vwCl) (tys := xty E) (ws := wl B lay n σ) (A := wA B n) (H0 := s.heap) CX.1.1 CX.1.2.1 (CX.1.2.2.1.trans hls.symm) CX.1.2.2.2.1 (x_hts CX w1) (x_hts CX w2) (x_hts CX w3) (x_hts CX w4) CX.2.1 hM.1 wl_D hM.2 k k' 0 0 (by rw [wl_get hk, hlay]) (by rw [wl_get hk', hlay']) rfl rfl rfl (by decide) (by decide) h3 (by rw [z0]; omega) (by rw [z0]; omega) (fun _ _ => rfl) hfr hlo hdg (fun H1 locs1 h1 _ h3 => ?_)
  refine kk H1 locs1 _ rfl ⟨?_, h3⟩
  rw [z0, wl_set (σ' := xcp σ k k' z.toNatClampNeg) hk' (by rw [xcp_same, hlay']) (fun i hi => xcp_ne hi)] at h1
  exact h1
end PRO
theorem tsw_out {x : Int32} {lo hi : Int} (cs : List Int32) (hcs : cs.map Int32.toInt = (List.range cs.length).map (fun i : Nat => lo + (i : Int))) (hhi : lo + (cs.length : Int) = hi + 1) (h : ∀ c ∈ cs, ¬ x = c) : x.toInt < lo ∨ hi < x.toInt := by
  rcases Int.lt_or_le x.toInt lo with h1 | h1
  · exact Or.inl h1
  rcases Int.lt_or_le hi x.toInt with h2 | h2
  · exact Or.inr h2
  exfalso
  have hl : (x.toInt - lo).toNat < cs.length := by omega
  have e1 : (cs.map Int32.toInt)[(x.toInt - lo).toNat]? = some x.toInt := by
    rw [hcs, List.getElem?_map, List.getElem?_range hl]
    simp only [Option.map_some]
    congr 1
    omega
  rw [List.getElem?_map] at e1
  cases hc : cs[(x.toInt - lo).toNat]? with
  | none => rw [hc] at e1; cases e1
  | some c =>
    rw [hc] at e1
    exact h c (List.mem_of_getElem? hc) (Int32.toInt_inj.mp (Option.some.inj e1)).symm
end
section
/-! the words that the contracts use, by their places in the tables -/
theorem wk_X1_passMinute : Cond.code yX1_passMinute cX1_passMinute 4 (some .int) ∈ AL := AL_mem (AL_3 (List.mem_of_getElem? (i := 19) rfl)) rfl
theorem wi_X1 : Cond.initialized RX1 ∈ AL := AL_mem (AL_1 (List.mem_of_getElem? (i := 2) rfl)) rfl
theorem ws_X1_passMinute : Cond.instanceMethod yX1_passMinute ∈ AL := AL_mem (AL_3 (List.mem_of_getElem? (i := 17) rfl)) rfl
theorem wv_X1_passMinute : Cond.selects yX1_passMinute.cls yX1_passMinute yX1_passMinute ∈ AL := AL_mem (AL_3 (List.mem_of_getElem? (i := 18) rfl)) rfl
theorem lk_X1_103 : xLV RX1 103 yX1_passMinute cX1_passMinute 4 (some .int) 0 := ⟨⟨AL_mem (AL_3 (List.mem_of_getElem? (i := 16) rfl)) rfl, ws_X1_passMinute, wv_X1_passMinute, wi_X1, wk_X1_passMinute⟩, by decide, by decide, by decide +kernel⟩
theorem wk_X1_heatRooms : Cond.code yX1_heatRooms cX1_heatRooms 4 none ∈ AL := AL_mem (AL_3 (List.mem_of_getElem? (i := 23) rfl)) rfl
theorem ws_X1_heatRooms : Cond.instanceMethod yX1_heatRooms ∈ AL := AL_mem (AL_3 (List.mem_of_getElem? (i := 22) rfl)) rfl
theorem wv_X1_heatRooms : Cond.selects yX1_heatRooms.cls yX1_heatRooms yX1_heatRooms ∈ AL := AL_memP (List.mem_of_getElem? (i := 9) rfl) rfl
theorem lk_X1_107 : xLV RX1 107 yX1_heatRooms cX1_heatRooms 4 none 0 := ⟨⟨AL_mem (AL_3 (List.mem_of_getElem? (i := 20) rfl)) rfl, ws_X1_heatRooms, wv_X1_heatRooms, wi_X1, wk_X1_heatRooms⟩, by decide, by decide, by decide +kernel⟩
theorem wk_X1_exchangeHeat : Cond.code yX1_exchangeHeat cX1_exchangeHeat 7 none ∈ AL := AL_mem (AL_3 (List.mem_of_getElem? (i := 32) rfl)) rfl
theorem ws_X1_exchangeHeat : Cond.instanceMethod yX1_exchangeHeat ∈ AL := AL_mem (AL_3 (List.mem_of_getElem? (i := 31) rfl)) rfl
theorem wv_X1_exchangeHeat : Cond.selects yX1_exchangeHeat.cls yX1_exchangeHeat yX1_exchangeHeat ∈ AL := AL_memP (List.mem_of_getElem? (i := 10) rfl) rfl
theorem lk_X1_110 : xLV RX1 110 yX1_exchangeHeat cX1_exchangeHeat 7 none 0 := ⟨⟨AL_mem (AL_3 (List.mem_of_getElem? (i := 29) rfl)) rfl, ws_X1_exchangeHeat, wv_X1_exchangeHeat, wi_X1, wk_X1_exchangeHeat⟩, by decide, by decide, by decide +kernel⟩
theorem wk_X1_settle : Cond.code yX1_settle cX1_settle 4 (some .boolean) ∈ AL := AL_mem (AL_3 (List.mem_of_getElem? (i := 40) rfl)) rfl
theorem ws_X1_settle : Cond.instanceMethod yX1_settle ∈ AL := AL_mem (AL_3 (List.mem_of_getElem? (i := 39) rfl)) rfl
theorem wv_X1_settle : Cond.selects yX1_settle.cls yX1_settle yX1_settle ∈ AL := AL_memP (List.mem_of_getElem? (i := 11) rfl) rfl
theorem lk_X1_113 : xLV RX1 113 yX1_settle cX1_settle 4 (some .boolean) 1 := ⟨⟨AL_mem (AL_3 (List.mem_of_getElem? (i := 37) rfl)) rfl, ws_X1_settle, wv_X1_settle, wi_X1, wk_X1_settle⟩, by decide, by decide, by decide +kernel⟩
theorem wk_X4_temperatureAt : Cond.code yX4_temperatureAt cX4_temperatureAt 4 (some .int) ∈ AL := AL_mem (AL_3 (List.mem_of_getElem? (i := 3) rfl)) rfl
theorem wi_X4 : Cond.initialized RX4 ∈ AL := AL_mem (AL_1 (List.mem_of_getElem? (i := 3) rfl)) rfl
theorem ws_X4_temperatureAt : Cond.instanceMethod yX4_temperatureAt ∈ AL := AL_mem (AL_3 (List.mem_of_getElem? (i := 1) rfl)) rfl
theorem wv_X4_temperatureAt : Cond.selects yX4_temperatureAt.cls yX4_temperatureAt yX4_temperatureAt ∈ AL := AL_mem (AL_3 (List.mem_of_getElem? (i := 2) rfl)) rfl
theorem lk_X1_116 : xLV RX1 116 yX4_temperatureAt cX4_temperatureAt 4 (some .int) 1 := ⟨⟨AL_mem (AL_3 (List.mem_of_getElem? (i := 24) rfl)) rfl, ws_X4_temperatureAt, wv_X4_temperatureAt, wi_X4, wk_X4_temperatureAt⟩, by decide, by decide, by decide +kernel⟩
theorem wk_X3_beginMinute : Cond.code yX3_beginMinute cX3_beginMinute 3 none ∈ AL := AL_mem (AL_3 (List.mem_of_getElem? (i := 28) rfl)) rfl
theorem wi_X3 : Cond.initialized RX3 ∈ AL := AL_mem (AL_1 (List.mem_of_getElem? (i := 4) rfl)) rfl
theorem ws_X3_beginMinute : Cond.instanceMethod yX3_beginMinute ∈ AL := AL_mem (AL_3 (List.mem_of_getElem? (i := 26) rfl)) rfl
theorem wv_X3_beginMinute : Cond.selects yX3_beginMinute.cls yX3_beginMinute yX3_beginMinute ∈ AL := AL_mem (AL_3 (List.mem_of_getElem? (i := 27) rfl)) rfl
theorem lk_X1_119 : xLV RX1 119 yX3_beginMinute cX3_beginMinute 3 none 1 := ⟨⟨AL_mem (AL_3 (List.mem_of_getElem? (i := 25) rfl)) rfl, ws_X3_beginMinute, wv_X3_beginMinute, wi_X3, wk_X3_beginMinute⟩, by decide, by decide, by decide +kernel⟩
theorem wk_X3_giveToOthers : Cond.code yX3_giveToOthers cX3_giveToOthers 2 none ∈ AL := AL_mem (AL_3 (List.mem_of_getElem? (i := 36) rfl)) rfl
theorem ws_X3_giveToOthers : Cond.instanceMethod yX3_giveToOthers ∈ AL := AL_mem (AL_3 (List.mem_of_getElem? (i := 34) rfl)) rfl
theorem wv_X3_giveToOthers : Cond.selects yX3_giveToOthers.cls yX3_giveToOthers yX3_giveToOthers ∈ AL := AL_mem (AL_3 (List.mem_of_getElem? (i := 35) rfl)) rfl
theorem lk_X1_126 : xLV RX1 126 yX3_giveToOthers cX3_giveToOthers 2 none 1 := ⟨⟨AL_mem (AL_3 (List.mem_of_getElem? (i := 33) rfl)) rfl, ws_X3_giveToOthers, wv_X3_giveToOthers, wi_X3, wk_X3_giveToOthers⟩, by decide, by decide, by decide +kernel⟩
theorem wk_X3_temperature : Cond.code yX3_temperature cX3_temperature 1 (some .int) ∈ AL := AL_mem (AL_2 (List.mem_of_getElem? (i := 48) rfl)) rfl
theorem ws_X3_temperature : Cond.instanceMethod yX3_temperature ∈ AL := AL_mem (AL_2 (List.mem_of_getElem? (i := 46) rfl)) rfl
theorem wv_X3_temperature : Cond.selects yX3_temperature.cls yX3_temperature yX3_temperature ∈ AL := AL_mem (AL_2 (List.mem_of_getElem? (i := 47) rfl)) rfl
theorem lk_X1_133 : xLV RX1 133 yX3_temperature cX3_temperature 1 (some .int) 0 := ⟨⟨AL_mem (AL_3 (List.mem_of_getElem? (i := 41) rfl)) rfl, ws_X3_temperature, wv_X3_temperature, wi_X3, wk_X3_temperature⟩, by decide, by decide, by decide +kernel⟩
theorem wk_X3_isBladeCold : Cond.code yX3_isBladeCold cX3_isBladeCold 1 (some .boolean) ∈ AL := AL_mem (AL_3 (List.mem_of_getElem? (i := 45) rfl)) rfl
theorem ws_X3_isBladeCold : Cond.instanceMethod yX3_isBladeCold ∈ AL := AL_mem (AL_3 (List.mem_of_getElem? (i := 43) rfl)) rfl
theorem wv_X3_isBladeCold : Cond.selects yX3_isBladeCold.cls yX3_isBladeCold yX3_isBladeCold ∈ AL := AL_mem (AL_3 (List.mem_of_getElem? (i := 44) rfl)) rfl
theorem lk_X1_142 : xLV RX1 142 yX3_isBladeCold cX3_isBladeCold 1 (some .boolean) 0 := ⟨⟨AL_mem (AL_3 (List.mem_of_getElem? (i := 42) rfl)) rfl, ws_X3_isBladeCold, wv_X3_isBladeCold, wi_X3, wk_X3_isBladeCold⟩, by decide, by decide, by decide +kernel⟩
theorem wk_X1_close : Cond.code yX1_close cX1_close 2 none ∈ AL := AL_mem (AL_3 (List.mem_of_getElem? (i := 49) rfl)) rfl
theorem ws_X1_close : Cond.instanceMethod yX1_close ∈ AL := AL_mem (AL_3 (List.mem_of_getElem? (i := 48) rfl)) rfl
theorem wv_X1_close : Cond.selects yX1_close.cls yX1_close yX1_close ∈ AL := AL_memP (List.mem_of_getElem? (i := 12) rfl) rfl
theorem lk_X1_146 : xLV RX1 146 yX1_close cX1_close 2 none 1 := ⟨⟨AL_mem (AL_3 (List.mem_of_getElem? (i := 46) rfl)) rfl, ws_X1_close, wv_X1_close, wi_X1, wk_X1_close⟩, by decide, by decide, by decide +kernel⟩
theorem wk_X3_isBladeHot : Cond.code yX3_isBladeHot cX3_isBladeHot 1 (some .boolean) ∈ AL := AL_mem (AL_3 (List.mem_of_getElem? (i := 53) rfl)) rfl
theorem ws_X3_isBladeHot : Cond.instanceMethod yX3_isBladeHot ∈ AL := AL_mem (AL_3 (List.mem_of_getElem? (i := 51) rfl)) rfl
theorem wv_X3_isBladeHot : Cond.selects yX3_isBladeHot.cls yX3_isBladeHot yX3_isBladeHot ∈ AL := AL_mem (AL_3 (List.mem_of_getElem? (i := 52) rfl)) rfl
theorem lk_X1_149 : xLV RX1 149 yX3_isBladeHot cX3_isBladeHot 1 (some .boolean) 0 := ⟨⟨AL_mem (AL_3 (List.mem_of_getElem? (i := 50) rfl)) rfl, ws_X3_isBladeHot, wv_X3_isBladeHot, wi_X3, wk_X3_isBladeHot⟩, by decide, by decide, by decide +kernel⟩
theorem wk_X3_tryToOpen : Cond.code yX3_tryToOpen cX3_tryToOpen 2 none ∈ AL := AL_mem (AL_3 (List.mem_of_getElem? (i := 57) rfl)) rfl
theorem ws_X3_tryToOpen : Cond.instanceMethod yX3_tryToOpen ∈ AL := AL_mem (AL_3 (List.mem_of_getElem? (i := 55) rfl)) rfl
theorem wv_X3_tryToOpen : Cond.selects yX3_tryToOpen.cls yX3_tryToOpen yX3_tryToOpen ∈ AL := AL_mem (AL_3 (List.mem_of_getElem? (i := 56) rfl)) rfl
theorem lk_X1_152 : xLV RX1 152 yX3_tryToOpen cX3_tryToOpen 2 none 1 := ⟨⟨AL_mem (AL_3 (List.mem_of_getElem? (i := 54) rfl)) rfl, ws_X3_tryToOpen, wv_X3_tryToOpen, wi_X3, wk_X3_tryToOpen⟩, by decide, by decide, by decide +kernel⟩
theorem lk_X1_35 : Cond.methodLink RX1 35 arraycopyName ∈ AL ∧ Cond.native arraycopyName ∈ AL ∧ Cond.static arraycopyName ∈ AL ∧ Cond.initialized "java/lang/System" ∈ AL := ⟨AL_mem (AL_2 (List.mem_of_getElem? (i := 14) rfl)) rfl, AL_mem (AL_2 (List.mem_of_getElem? (i := 16) rfl)) rfl, AL_mem (AL_2 (List.mem_of_getElem? (i := 15) rfl)) rfl, AL_mem (AL_1 (List.mem_of_getElem? (i := 9) rfl)) rfl⟩
theorem wk_X4_copyFrom : Cond.code yX4_copyFrom cX4_copyFrom 2 none ∈ AL := AL_mem (AL_2 (List.mem_of_getElem? (i := 20) rfl)) rfl
theorem ws_X4_copyFrom : Cond.instanceMethod yX4_copyFrom ∈ AL := AL_mem (AL_2 (List.mem_of_getElem? (i := 18) rfl)) rfl
theorem wv_X4_copyFrom : Cond.selects yX4_copyFrom.cls yX4_copyFrom yX4_copyFrom ∈ AL := AL_mem (AL_2 (List.mem_of_getElem? (i := 19) rfl)) rfl
theorem lk_X1_41 : xLV RX1 41 yX4_copyFrom cX4_copyFrom 2 none 1 := ⟨⟨AL_mem (AL_2 (List.mem_of_getElem? (i := 17) rfl)) rfl, ws_X4_copyFrom, wv_X4_copyFrom, wi_X4, wk_X4_copyFrom⟩, by decide, by decide, by decide +kernel⟩
theorem wk_X1_roomAt : Cond.code yX1_roomAt cX1_roomAt 2 (some (.object "ThermostatColony$Room")) ∈ AL := AL_mem (AL_2 (List.mem_of_getElem? (i := 25) rfl)) rfl
theorem ws_X1_roomAt : Cond.instanceMethod yX1_roomAt ∈ AL := AL_mem (AL_2 (List.mem_of_getElem? (i := 23) rfl)) rfl
theorem wv_X1_roomAt : Cond.selects yX1_roomAt.cls yX1_roomAt yX1_roomAt ∈ AL := AL_mem (AL_2 (List.mem_of_getElem? (i := 24) rfl)) rfl
theorem lk_X1_52 : xLV RX1 52 yX1_roomAt cX1_roomAt 2 (some (.object "ThermostatColony$Room")) 1 := ⟨⟨AL_mem (AL_2 (List.mem_of_getElem? (i := 22) rfl)) rfl, ws_X1_roomAt, wv_X1_roomAt, wi_X1, wk_X1_roomAt⟩, by decide, by decide, by decide +kernel⟩
theorem wk_X3_copyFrom : Cond.code yX3_copyFrom cX3_copyFrom 2 none ∈ AL := AL_mem (AL_2 (List.mem_of_getElem? (i := 29) rfl)) rfl
theorem ws_X3_copyFrom : Cond.instanceMethod yX3_copyFrom ∈ AL := AL_mem (AL_2 (List.mem_of_getElem? (i := 27) rfl)) rfl
theorem wv_X3_copyFrom : Cond.selects yX3_copyFrom.cls yX3_copyFrom yX3_copyFrom ∈ AL := AL_mem (AL_2 (List.mem_of_getElem? (i := 28) rfl)) rfl
theorem lk_X1_56 : xLV RX1 56 yX3_copyFrom cX3_copyFrom 2 none 1 := ⟨⟨AL_mem (AL_2 (List.mem_of_getElem? (i := 26) rfl)) rfl, ws_X3_copyFrom, wv_X3_copyFrom, wi_X3, wk_X3_copyFrom⟩, by decide, by decide, by decide +kernel⟩
theorem wk_X3_begin : Cond.code yX3_begin cX3_begin 5 none ∈ AL := AL_mem (AL_2 (List.mem_of_getElem? (i := 44) rfl)) rfl
theorem ws_X3_begin : Cond.instanceMethod yX3_begin ∈ AL := AL_mem (AL_2 (List.mem_of_getElem? (i := 42) rfl)) rfl
theorem wv_X3_begin : Cond.selects yX3_begin.cls yX3_begin yX3_begin ∈ AL := AL_mem (AL_2 (List.mem_of_getElem? (i := 43) rfl)) rfl
theorem lk_X1_59 : xLV RX1 59 yX3_begin cX3_begin 5 none 4 := ⟨⟨AL_mem (AL_2 (List.mem_of_getElem? (i := 41) rfl)) rfl, ws_X3_begin, wv_X3_begin, wi_X3, wk_X3_begin⟩, by decide, by decide, by decide +kernel⟩
theorem wk_X1_linkPlace : Cond.code yX1_linkPlace cX1_linkPlace 2 (some .int) ∈ AL := AL_mem (AL_2 (List.mem_of_getElem? (i := 75) rfl)) rfl
theorem ws_X1_linkPlace : Cond.static yX1_linkPlace ∈ AL := AL_mem (AL_2 (List.mem_of_getElem? (i := 74) rfl)) rfl
theorem lk_X1_63 : xLS RX1 63 yX1_linkPlace cX1_linkPlace 2 (some .int) 2 := ⟨⟨AL_mem (AL_2 (List.mem_of_getElem? (i := 73) rfl)) rfl, ws_X1_linkPlace, wi_X1, wk_X1_linkPlace⟩, by decide, by decide, by decide +kernel⟩
theorem wk_X1_putLinkAt : Cond.code yX1_putLinkAt cX1_putLinkAt 3 none ∈ AL := AL_mem (AL_2 (List.mem_of_getElem? (i := 89) rfl)) rfl
theorem ws_X1_putLinkAt : Cond.instanceMethod yX1_putLinkAt ∈ AL := AL_mem (AL_2 (List.mem_of_getElem? (i := 88) rfl)) rfl
theorem wv_X1_putLinkAt : Cond.selects yX1_putLinkAt.cls yX1_putLinkAt yX1_putLinkAt ∈ AL := AL_memP (List.mem_of_getElem? (i := 1) rfl) rfl
theorem lk_X1_67 : xLV RX1 67 yX1_putLinkAt cX1_putLinkAt 3 none 2 := ⟨⟨AL_mem (AL_2 (List.mem_of_getElem? (i := 86) rfl)) rfl, ws_X1_putLinkAt, wv_X1_putLinkAt, wi_X1, wk_X1_putLinkAt⟩, by decide, by decide, by decide +kernel⟩
theorem wk_X1_linkOf : Cond.code yX1_linkOf cX1_linkOf 4 (some .int) ∈ AL := AL_mem (AL_2 (List.mem_of_getElem? (i := 72) rfl)) rfl
theorem ws_X1_linkOf : Cond.instanceMethod yX1_linkOf ∈ AL := AL_mem (AL_2 (List.mem_of_getElem? (i := 70) rfl)) rfl
theorem wv_X1_linkOf : Cond.selects yX1_linkOf.cls yX1_linkOf yX1_linkOf ∈ AL := AL_mem (AL_2 (List.mem_of_getElem? (i := 71) rfl)) rfl
theorem lk_X1_74 : xLV RX1 74 yX1_linkOf cX1_linkOf 4 (some .int) 2 := ⟨⟨AL_mem (AL_2 (List.mem_of_getElem? (i := 80) rfl)) rfl, ws_X1_linkOf, wv_X1_linkOf, wi_X1, wk_X1_linkOf⟩, by decide, by decide, by decide +kernel⟩
theorem wk_X1_number : Cond.code yX1_number cX1_number 2 (some .int) ∈ AL := AL_mem (AL_2 (List.mem_of_getElem? (i := 110) rfl)) rfl
theorem ws_X1_number : Cond.instanceMethod yX1_number ∈ AL := AL_mem (AL_2 (List.mem_of_getElem? (i := 108) rfl)) rfl
theorem wv_X1_number : Cond.selects yX1_number.cls yX1_number yX1_number ∈ AL := AL_mem (AL_2 (List.mem_of_getElem? (i := 109) rfl)) rfl
theorem lk_X1_83 : xLV RX1 83 yX1_number cX1_number 2 (some .int) 1 := ⟨⟨AL_mem (AL_2 (List.mem_of_getElem? (i := 175) rfl)) rfl, ws_X1_number, wv_X1_number, wi_X1, wk_X1_number⟩, by decide, by decide, by decide +kernel⟩
theorem wk_X1_isSuspect : Cond.code yX1_isSuspect cX1_isSuspect 2 (some .boolean) ∈ AL := AL_mem (AL_2 (List.mem_of_getElem? (i := 174) rfl)) rfl
theorem ws_X1_isSuspect : Cond.instanceMethod yX1_isSuspect ∈ AL := AL_mem (AL_2 (List.mem_of_getElem? (i := 172) rfl)) rfl
theorem wv_X1_isSuspect : Cond.selects yX1_isSuspect.cls yX1_isSuspect yX1_isSuspect ∈ AL := AL_mem (AL_2 (List.mem_of_getElem? (i := 173) rfl)) rfl
theorem lk_X1_87 : xLV RX1 87 yX1_isSuspect cX1_isSuspect 2 (some .boolean) 1 := ⟨⟨AL_mem (AL_2 (List.mem_of_getElem? (i := 171) rfl)) rfl, ws_X1_isSuspect, wv_X1_isSuspect, wi_X1, wk_X1_isSuspect⟩, by decide, by decide, by decide +kernel⟩
theorem wk_X2_stateAt : Cond.code yX2_stateAt cX2_stateAt 2 (some (.object "ThermostatColony$Colony")) ∈ AL := AL_mem (AL_2 (List.mem_of_getElem? (i := 9) rfl)) rfl
theorem wi_X2 : Cond.initialized RX2 ∈ AL := AL_mem (AL_1 (List.mem_of_getElem? (i := 6) rfl)) rfl
theorem ws_X2_stateAt : Cond.instanceMethod yX2_stateAt ∈ AL := AL_mem (AL_2 (List.mem_of_getElem? (i := 8) rfl)) rfl
theorem wv_X2_stateAt : Cond.selects yX2_stateAt.cls yX2_stateAt yX2_stateAt ∈ AL := AL_memP (List.mem_of_getElem? (i := 0) rfl) rfl
theorem lk_X2_22 : xLV RX2 22 yX2_stateAt cX2_stateAt 2 (some (.object "ThermostatColony$Colony")) 1 := ⟨⟨AL_mem (AL_2 (List.mem_of_getElem? (i := 6) rfl)) rfl, ws_X2_stateAt, wv_X2_stateAt, wi_X2, wk_X2_stateAt⟩, by decide, by decide, by decide +kernel⟩
theorem wk_X1_copyFrom : Cond.code yX1_copyFrom cX1_copyFrom 5 none ∈ AL := AL_mem (AL_2 (List.mem_of_getElem? (i := 13) rfl)) rfl
theorem ws_X1_copyFrom : Cond.instanceMethod yX1_copyFrom ∈ AL := AL_mem (AL_2 (List.mem_of_getElem? (i := 11) rfl)) rfl
theorem wv_X1_copyFrom : Cond.selects yX1_copyFrom.cls yX1_copyFrom yX1_copyFrom ∈ AL := AL_mem (AL_2 (List.mem_of_getElem? (i := 12) rfl)) rfl
theorem lk_X2_26 : xLV RX2 26 yX1_copyFrom cX1_copyFrom 5 none 1 := ⟨⟨AL_mem (AL_2 (List.mem_of_getElem? (i := 10) rfl)) rfl, ws_X1_copyFrom, wv_X1_copyFrom, wi_X1, wk_X1_copyFrom⟩, by decide, by decide, by decide +kernel⟩
theorem wk_J9_min_7cf53 : Cond.code yJ9_min_7cf53 cJ9_min_7cf53 2 (some .int) ∈ AL := AL_mem (AL_2 (List.mem_of_getElem? (i := 36) rfl)) rfl
theorem wi_J9 : Cond.initialized RJ9 ∈ AL := AL_mem (AL_1 (List.mem_of_getElem? (i := 10) rfl)) rfl
theorem ws_J9_min_7cf53 : Cond.static yJ9_min_7cf53 ∈ AL := AL_mem (AL_2 (List.mem_of_getElem? (i := 35) rfl)) rfl
theorem lk_X2_33 : xLS RX2 33 yJ9_min_7cf53 cJ9_min_7cf53 2 (some .int) 2 := ⟨⟨AL_mem (AL_2 (List.mem_of_getElem? (i := 34) rfl)) rfl, ws_J9_min_7cf53, wi_J9, wk_J9_min_7cf53⟩, by decide, by decide, by decide +kernel⟩
theorem lk_X3_37 : xLV RX3 37 yX3_temperature cX3_temperature 1 (some .int) 0 := ⟨⟨AL_mem (AL_2 (List.mem_of_getElem? (i := 45) rfl)) rfl, ws_X3_temperature, wv_X3_temperature, wi_X3, wk_X3_temperature⟩, by decide, by decide, by decide +kernel⟩
theorem wk_X0_begin : Cond.code yX0_begin cX0_begin 2 none ∈ AL := AL_mem (AL_2 (List.mem_of_getElem? (i := 60) rfl)) rfl
theorem wi_X0 : Cond.initialized RX0 ∈ AL := AL_mem (AL_1 (List.mem_of_getElem? (i := 5) rfl)) rfl
theorem ws_X0_begin : Cond.instanceMethod yX0_begin ∈ AL := AL_mem (AL_2 (List.mem_of_getElem? (i := 58) rfl)) rfl
theorem wv_X0_begin : Cond.selects yX0_begin.cls yX0_begin yX0_begin ∈ AL := AL_mem (AL_2 (List.mem_of_getElem? (i := 59) rfl)) rfl
theorem lk_X3_76 : xLV RX3 76 yX0_begin cX0_begin 2 none 1 := ⟨⟨AL_mem (AL_2 (List.mem_of_getElem? (i := 57) rfl)) rfl, ws_X0_begin, wv_X0_begin, wi_X0, wk_X0_begin⟩, by decide, by decide, by decide +kernel⟩
theorem wk_X0_copyFrom : Cond.code yX0_copyFrom cX0_copyFrom 2 none ∈ AL := AL_mem (AL_2 (List.mem_of_getElem? (i := 33) rfl)) rfl
theorem ws_X0_copyFrom : Cond.instanceMethod yX0_copyFrom ∈ AL := AL_mem (AL_2 (List.mem_of_getElem? (i := 31) rfl)) rfl
theorem wv_X0_copyFrom : Cond.selects yX0_copyFrom.cls yX0_copyFrom yX0_copyFrom ∈ AL := AL_mem (AL_2 (List.mem_of_getElem? (i := 32) rfl)) rfl
theorem lk_X3_80 : xLV RX3 80 yX0_copyFrom cX0_copyFrom 2 none 1 := ⟨⟨AL_mem (AL_2 (List.mem_of_getElem? (i := 30) rfl)) rfl, ws_X0_copyFrom, wv_X0_copyFrom, wi_X0, wk_X0_copyFrom⟩, by decide, by decide, by decide +kernel⟩
theorem wk_X3_temperatureWith : Cond.code yX3_temperatureWith cX3_temperatureWith 2 (some .int) ∈ AL := AL_mem (AL_2 (List.mem_of_getElem? (i := 52) rfl)) rfl
theorem ws_X3_temperatureWith : Cond.instanceMethod yX3_temperatureWith ∈ AL := AL_mem (AL_2 (List.mem_of_getElem? (i := 50) rfl)) rfl
theorem wv_X3_temperatureWith : Cond.selects yX3_temperatureWith.cls yX3_temperatureWith yX3_temperatureWith ∈ AL := AL_mem (AL_2 (List.mem_of_getElem? (i := 51) rfl)) rfl
theorem lk_X3_84 : xLV RX3 84 yX3_temperatureWith cX3_temperatureWith 2 (some .int) 1 := ⟨⟨AL_mem (AL_2 (List.mem_of_getElem? (i := 49) rfl)) rfl, ws_X3_temperatureWith, wv_X3_temperatureWith, wi_X3, wk_X3_temperatureWith⟩, by decide, by decide, by decide +kernel⟩
theorem wk_J9_floorDiv_7cf53 : Cond.code yJ9_floorDiv_7cf53 cJ9_floorDiv_7cf53 3 (some .int) ∈ AL := AL_mem (AL_2 (List.mem_of_getElem? (i := 55) rfl)) rfl
theorem ws_J9_floorDiv_7cf53 : Cond.static yJ9_floorDiv_7cf53 ∈ AL := AL_mem (AL_2 (List.mem_of_getElem? (i := 54) rfl)) rfl
theorem lk_X3_88 : xLS RX3 88 yJ9_floorDiv_7cf53 cJ9_floorDiv_7cf53 3 (some .int) 2 := ⟨⟨AL_mem (AL_2 (List.mem_of_getElem? (i := 53) rfl)) rfl, ws_J9_floorDiv_7cf53, wi_J9, wk_J9_floorDiv_7cf53⟩, by decide, by decide, by decide +kernel⟩
theorem lk_X4_18 : Cond.methodLink RX4 18 arraycopyName ∈ AL ∧ Cond.native arraycopyName ∈ AL ∧ Cond.static arraycopyName ∈ AL ∧ Cond.initialized "java/lang/System" ∈ AL := ⟨AL_mem (AL_2 (List.mem_of_getElem? (i := 21) rfl)) rfl, AL_mem (AL_2 (List.mem_of_getElem? (i := 16) rfl)) rfl, AL_mem (AL_2 (List.mem_of_getElem? (i := 15) rfl)) rfl, AL_mem (AL_1 (List.mem_of_getElem? (i := 9) rfl)) rfl⟩
theorem wk_X4_temperatureBefore : Cond.code yX4_temperatureBefore cX4_temperatureBefore 6 (some .int) ∈ AL := AL_mem (AL_3 (List.mem_of_getElem? (i := 7) rfl)) rfl
theorem ws_X4_temperatureBefore : Cond.instanceMethod yX4_temperatureBefore ∈ AL := AL_mem (AL_3 (List.mem_of_getElem? (i := 6) rfl)) rfl
theorem wv_X4_temperatureBefore : Cond.selects yX4_temperatureBefore.cls yX4_temperatureBefore yX4_temperatureBefore ∈ AL := AL_memP (List.mem_of_getElem? (i := 8) rfl) rfl
theorem lk_X4_28 : xLV RX4 28 yX4_temperatureBefore cX4_temperatureBefore 6 (some .int) 2 := ⟨⟨AL_mem (AL_3 (List.mem_of_getElem? (i := 4) rfl)) rfl, ws_X4_temperatureBefore, wv_X4_temperatureBefore, wi_X4, wk_X4_temperatureBefore⟩, by decide, by decide, by decide +kernel⟩
theorem wk_X5_skipSpaces : Cond.code yX5_skipSpaces cX5_skipSpaces 1 none ∈ AL := AL_mem (AL_2 (List.mem_of_getElem? (i := 203) rfl)) rfl
theorem wi_X5 : Cond.initialized RX5 ∈ AL := AL_mem (AL_1 (List.mem_of_getElem? (i := 7) rfl)) rfl
theorem ws_X5_skipSpaces : Cond.instanceMethod yX5_skipSpaces ∈ AL := AL_mem (AL_2 (List.mem_of_getElem? (i := 202) rfl)) rfl
theorem wv_X5_skipSpaces : Cond.selects yX5_skipSpaces.cls yX5_skipSpaces yX5_skipSpaces ∈ AL := AL_memP (List.mem_of_getElem? (i := 2) rfl) rfl
theorem lk_X5_27 : xLV RX5 27 yX5_skipSpaces cX5_skipSpaces 1 none 0 := ⟨⟨AL_mem (AL_2 (List.mem_of_getElem? (i := 200) rfl)) rfl, ws_X5_skipSpaces, wv_X5_skipSpaces, wi_X5, wk_X5_skipSpaces⟩, by decide, by decide, by decide +kernel⟩
theorem wk_X5_here : Cond.code yX5_here cX5_here 1 (some .int) ∈ AL := AL_mem (AL_2 (List.mem_of_getElem? (i := 207) rfl)) rfl
theorem ws_X5_here : Cond.instanceMethod yX5_here ∈ AL := AL_mem (AL_2 (List.mem_of_getElem? (i := 206) rfl)) rfl
theorem wv_X5_here : Cond.selects yX5_here.cls yX5_here yX5_here ∈ AL := AL_memP (List.mem_of_getElem? (i := 3) rfl) rfl
theorem lk_X5_30 : xLV RX5 30 yX5_here cX5_here 1 (some .int) 0 := ⟨⟨AL_mem (AL_2 (List.mem_of_getElem? (i := 204) rfl)) rfl, ws_X5_here, wv_X5_here, wi_X5, wk_X5_here⟩, by decide, by decide, by decide +kernel⟩
theorem wk_X5_readPoint : Cond.code yX5_readPoint cX5_readPoint 4 (some .int) ∈ AL := AL_mem (AL_2 (List.mem_of_getElem? (i := 211) rfl)) rfl
theorem ws_X5_readPoint : Cond.instanceMethod yX5_readPoint ∈ AL := AL_mem (AL_2 (List.mem_of_getElem? (i := 210) rfl)) rfl
theorem wv_X5_readPoint : Cond.selects yX5_readPoint.cls yX5_readPoint yX5_readPoint ∈ AL := AL_memP (List.mem_of_getElem? (i := 4) rfl) rfl
theorem lk_X5_34 : xLV RX5 34 yX5_readPoint cX5_readPoint 4 (some .int) 1 := ⟨⟨AL_mem (AL_2 (List.mem_of_getElem? (i := 208) rfl)) rfl, ws_X5_readPoint, wv_X5_readPoint, wi_X5, wk_X5_readPoint⟩, by decide, by decide, by decide +kernel⟩
theorem wk_X5_isDigitHere : Cond.code yX5_isDigitHere cX5_isDigitHere 1 (some .boolean) ∈ AL := AL_mem (AL_2 (List.mem_of_getElem? (i := 215) rfl)) rfl
theorem ws_X5_isDigitHere : Cond.instanceMethod yX5_isDigitHere ∈ AL := AL_mem (AL_2 (List.mem_of_getElem? (i := 214) rfl)) rfl
theorem wv_X5_isDigitHere : Cond.selects yX5_isDigitHere.cls yX5_isDigitHere yX5_isDigitHere ∈ AL := AL_memP (List.mem_of_getElem? (i := 5) rfl) rfl
theorem lk_X5_38 : xLV RX5 38 yX5_isDigitHere cX5_isDigitHere 1 (some .boolean) 0 := ⟨⟨AL_mem (AL_2 (List.mem_of_getElem? (i := 212) rfl)) rfl, ws_X5_isDigitHere, wv_X5_isDigitHere, wi_X5, wk_X5_isDigitHere⟩, by decide, by decide, by decide +kernel⟩
theorem wk_X5_readNumber : Cond.code yX5_readNumber cX5_readNumber 4 (some .int) ∈ AL := AL_mem (AL_2 (List.mem_of_getElem? (i := 220) rfl)) rfl
theorem ws_X5_readNumber : Cond.instanceMethod yX5_readNumber ∈ AL := AL_mem (AL_2 (List.mem_of_getElem? (i := 219) rfl)) rfl
theorem wv_X5_readNumber : Cond.selects yX5_readNumber.cls yX5_readNumber yX5_readNumber ∈ AL := AL_memP (List.mem_of_getElem? (i := 6) rfl) rfl
theorem lk_X5_42 : xLV RX5 42 yX5_readNumber cX5_readNumber 4 (some .int) 0 := ⟨⟨AL_mem (AL_2 (List.mem_of_getElem? (i := 217) rfl)) rfl, ws_X5_readNumber, wv_X5_readNumber, wi_X5, wk_X5_readNumber⟩, by decide, by decide, by decide +kernel⟩
theorem wk_X4_canTake : Cond.code yX4_canTake cX4_canTake 2 (some .boolean) ∈ AL := AL_mem (AL_2 (List.mem_of_getElem? (i := 226) rfl)) rfl
theorem ws_X4_canTake : Cond.instanceMethod yX4_canTake ∈ AL := AL_mem (AL_2 (List.mem_of_getElem? (i := 224) rfl)) rfl
theorem wv_X4_canTake : Cond.selects yX4_canTake.cls yX4_canTake yX4_canTake ∈ AL := AL_mem (AL_2 (List.mem_of_getElem? (i := 225) rfl)) rfl
theorem lk_X5_45 : xLV RX5 45 yX4_canTake cX4_canTake 2 (some .boolean) 1 := ⟨⟨AL_mem (AL_2 (List.mem_of_getElem? (i := 223) rfl)) rfl, ws_X4_canTake, wv_X4_canTake, wi_X4, wk_X4_canTake⟩, by decide, by decide, by decide +kernel⟩
theorem wk_X5_readTemperature : Cond.code yX5_readTemperature cX5_readTemperature 6 (some .int) ∈ AL := AL_mem (AL_2 (List.mem_of_getElem? (i := 230) rfl)) rfl
theorem ws_X5_readTemperature : Cond.instanceMethod yX5_readTemperature ∈ AL := AL_mem (AL_2 (List.mem_of_getElem? (i := 229) rfl)) rfl
theorem wv_X5_readTemperature : Cond.selects yX5_readTemperature.cls yX5_readTemperature yX5_readTemperature ∈ AL := AL_memP (List.mem_of_getElem? (i := 7) rfl) rfl
theorem lk_X5_49 : xLV RX5 49 yX5_readTemperature cX5_readTemperature 6 (some .int) 2 := ⟨⟨AL_mem (AL_2 (List.mem_of_getElem? (i := 227) rfl)) rfl, ws_X5_readTemperature, wv_X5_readTemperature, wi_X5, wk_X5_readTemperature⟩, by decide, by decide, by decide +kernel⟩
theorem wk_X4_add : Cond.code yX4_add cX4_add 3 none ∈ AL := AL_mem (AL_2 (List.mem_of_getElem? (i := 234) rfl)) rfl
theorem ws_X4_add : Cond.instanceMethod yX4_add ∈ AL := AL_mem (AL_2 (List.mem_of_getElem? (i := 232) rfl)) rfl
theorem wv_X4_add : Cond.selects yX4_add.cls yX4_add yX4_add ∈ AL := AL_mem (AL_2 (List.mem_of_getElem? (i := 233) rfl)) rfl
theorem lk_X5_53 : xLV RX5 53 yX4_add cX4_add 3 none 2 := ⟨⟨AL_mem (AL_2 (List.mem_of_getElem? (i := 231) rfl)) rfl, ws_X4_add, wv_X4_add, wi_X4, wk_X4_add⟩, by decide, by decide, by decide +kernel⟩
theorem lk_X5_58 : xLS RX5 58 yJ9_min_7cf53 cJ9_min_7cf53 2 (some .int) 2 := ⟨⟨AL_mem (AL_2 (List.mem_of_getElem? (i := 222) rfl)) rfl, ws_J9_min_7cf53, wi_J9, wk_J9_min_7cf53⟩, by decide, by decide, by decide +kernel⟩
theorem lk_X6_103 : xLV RX6 103 yX3_temperatureWith cX3_temperatureWith 2 (some .int) 1 := ⟨⟨AL_mem (AL_2 (List.mem_of_getElem? (i := 121) rfl)) rfl, ws_X3_temperatureWith, wv_X3_temperatureWith, wi_X3, wk_X3_temperatureWith⟩, by decide, by decide, by decide +kernel⟩
theorem wk_X3_bringIn : Cond.code yX3_bringIn cX3_bringIn 2 none ∈ AL := AL_mem (AL_2 (List.mem_of_getElem? (i := 127) rfl)) rfl
theorem ws_X3_bringIn : Cond.instanceMethod yX3_bringIn ∈ AL := AL_mem (AL_2 (List.mem_of_getElem? (i := 125) rfl)) rfl
theorem wv_X3_bringIn : Cond.selects yX3_bringIn.cls yX3_bringIn yX3_bringIn ∈ AL := AL_mem (AL_2 (List.mem_of_getElem? (i := 126) rfl)) rfl
theorem lk_X6_108 : xLV RX6 108 yX3_bringIn cX3_bringIn 2 none 1 := ⟨⟨AL_mem (AL_2 (List.mem_of_getElem? (i := 124) rfl)) rfl, ws_X3_bringIn, wv_X3_bringIn, wi_X3, wk_X3_bringIn⟩, by decide, by decide, by decide +kernel⟩
theorem wk_X3_renewContact : Cond.code yX3_renewContact cX3_renewContact 1 none ∈ AL := AL_mem (AL_2 (List.mem_of_getElem? (i := 135) rfl)) rfl
theorem ws_X3_renewContact : Cond.instanceMethod yX3_renewContact ∈ AL := AL_mem (AL_2 (List.mem_of_getElem? (i := 133) rfl)) rfl
theorem wv_X3_renewContact : Cond.selects yX3_renewContact.cls yX3_renewContact yX3_renewContact ∈ AL := AL_mem (AL_2 (List.mem_of_getElem? (i := 134) rfl)) rfl
theorem lk_X6_115 : xLV RX6 115 yX3_renewContact cX3_renewContact 1 none 0 := ⟨⟨AL_mem (AL_2 (List.mem_of_getElem? (i := 132) rfl)) rfl, ws_X3_renewContact, wv_X3_renewContact, wi_X3, wk_X3_renewContact⟩, by decide, by decide, by decide +kernel⟩
theorem lk_X6_118 : xLV RX6 118 yX3_temperature cX3_temperature 1 (some .int) 0 := ⟨⟨AL_mem (AL_2 (List.mem_of_getElem? (i := 140) rfl)) rfl, ws_X3_temperature, wv_X3_temperature, wi_X3, wk_X3_temperature⟩, by decide, by decide, by decide +kernel⟩
theorem wk_X3_property : Cond.code yX3_property cX3_property 2 (some .int) ∈ AL := AL_mem (AL_2 (List.mem_of_getElem? (i := 148) rfl)) rfl
theorem ws_X3_property : Cond.instanceMethod yX3_property ∈ AL := AL_mem (AL_2 (List.mem_of_getElem? (i := 146) rfl)) rfl
theorem wv_X3_property : Cond.selects yX3_property.cls yX3_property yX3_property ∈ AL := AL_mem (AL_2 (List.mem_of_getElem? (i := 147) rfl)) rfl
theorem lk_X6_126 : xLV RX6 126 yX3_property cX3_property 2 (some .int) 1 := ⟨⟨AL_mem (AL_2 (List.mem_of_getElem? (i := 145) rfl)) rfl, ws_X3_property, wv_X3_property, wi_X3, wk_X3_property⟩, by decide, by decide, by decide +kernel⟩
theorem wk_X0_sum : Cond.code yX0_sum cX0_sum 2 (some .int) ∈ AL := AL_mem (AL_2 (List.mem_of_getElem? (i := 157) rfl)) rfl
theorem ws_X0_sum : Cond.instanceMethod yX0_sum ∈ AL := AL_mem (AL_2 (List.mem_of_getElem? (i := 155) rfl)) rfl
theorem wv_X0_sum : Cond.selects yX0_sum.cls yX0_sum yX0_sum ∈ AL := AL_mem (AL_2 (List.mem_of_getElem? (i := 156) rfl)) rfl
theorem lk_X6_133 : xLV RX6 133 yX0_sum cX0_sum 2 (some .int) 1 := ⟨⟨AL_mem (AL_2 (List.mem_of_getElem? (i := 154) rfl)) rfl, ws_X0_sum, wv_X0_sum, wi_X0, wk_X0_sum⟩, by decide, by decide, by decide +kernel⟩
theorem wk_X1_suspectRooms : Cond.code yX1_suspectRooms cX1_suspectRooms 4 (some .int) ∈ AL := AL_mem (AL_2 (List.mem_of_getElem? (i := 170) rfl)) rfl
theorem ws_X1_suspectRooms : Cond.instanceMethod yX1_suspectRooms ∈ AL := AL_mem (AL_2 (List.mem_of_getElem? (i := 168) rfl)) rfl
theorem wv_X1_suspectRooms : Cond.selects yX1_suspectRooms.cls yX1_suspectRooms yX1_suspectRooms ∈ AL := AL_mem (AL_2 (List.mem_of_getElem? (i := 169) rfl)) rfl
theorem lk_X6_147 : xLV RX6 147 yX1_suspectRooms cX1_suspectRooms 4 (some .int) 0 := ⟨⟨AL_mem (AL_2 (List.mem_of_getElem? (i := 167) rfl)) rfl, ws_X1_suspectRooms, wv_X1_suspectRooms, wi_X1, wk_X1_suspectRooms⟩, by decide, by decide, by decide +kernel⟩
theorem wk_X1_allFines : Cond.code yX1_allFines cX1_allFines 4 (some .int) ∈ AL := AL_mem (AL_2 (List.mem_of_getElem? (i := 179) rfl)) rfl
theorem ws_X1_allFines : Cond.instanceMethod yX1_allFines ∈ AL := AL_mem (AL_2 (List.mem_of_getElem? (i := 177) rfl)) rfl
theorem wv_X1_allFines : Cond.selects yX1_allFines.cls yX1_allFines yX1_allFines ∈ AL := AL_mem (AL_2 (List.mem_of_getElem? (i := 178) rfl)) rfl
theorem lk_X6_150 : xLV RX6 150 yX1_allFines cX1_allFines 4 (some .int) 0 := ⟨⟨AL_mem (AL_2 (List.mem_of_getElem? (i := 176) rfl)) rfl, ws_X1_allFines, wv_X1_allFines, wi_X1, wk_X1_allFines⟩, by decide, by decide, by decide +kernel⟩
theorem wk_X5_append : Cond.code yX5_append cX5_append 2 (some .boolean) ∈ AL := AL_mem (AL_2 (List.mem_of_getElem? (i := 187) rfl)) rfl
theorem ws_X5_append : Cond.instanceMethod yX5_append ∈ AL := AL_mem (AL_2 (List.mem_of_getElem? (i := 185) rfl)) rfl
theorem wv_X5_append : Cond.selects yX5_append.cls yX5_append yX5_append ∈ AL := AL_mem (AL_2 (List.mem_of_getElem? (i := 186) rfl)) rfl
theorem lk_X6_157 : xLV RX6 157 yX5_append cX5_append 2 (some .boolean) 1 := ⟨⟨AL_mem (AL_2 (List.mem_of_getElem? (i := 184) rfl)) rfl, ws_X5_append, wv_X5_append, wi_X5, wk_X5_append⟩, by decide, by decide, by decide +kernel⟩
theorem wk_X5_readInto : Cond.code yX5_readInto cX5_readInto 3 (some .int) ∈ AL := AL_mem (AL_2 (List.mem_of_getElem? (i := 199) rfl)) rfl
theorem ws_X5_readInto : Cond.instanceMethod yX5_readInto ∈ AL := AL_mem (AL_2 (List.mem_of_getElem? (i := 197) rfl)) rfl
theorem wv_X5_readInto : Cond.selects yX5_readInto.cls yX5_readInto yX5_readInto ∈ AL := AL_mem (AL_2 (List.mem_of_getElem? (i := 198) rfl)) rfl
theorem lk_X6_161 : xLV RX6 161 yX5_readInto cX5_readInto 3 (some .int) 1 := ⟨⟨AL_mem (AL_2 (List.mem_of_getElem? (i := 196) rfl)) rfl, ws_X5_readInto, wv_X5_readInto, wi_X5, wk_X5_readInto⟩, by decide, by decide, by decide +kernel⟩
theorem lk_X6_165 : xLV RX6 165 yX4_copyFrom cX4_copyFrom 2 none 1 := ⟨⟨AL_mem (AL_2 (List.mem_of_getElem? (i := 235) rfl)) rfl, ws_X4_copyFrom, wv_X4_copyFrom, wi_X4, wk_X4_copyFrom⟩, by decide, by decide, by decide +kernel⟩
theorem lk_X6_169 : xLV RX6 169 yX4_temperatureAt cX4_temperatureAt 4 (some .int) 1 := ⟨⟨AL_mem (AL_3 (List.mem_of_getElem? (i := 0) rfl)) rfl, ws_X4_temperatureAt, wv_X4_temperatureAt, wi_X4, wk_X4_temperatureAt⟩, by decide, by decide, by decide +kernel⟩
theorem wk_X1_passMinutes : Cond.code yX1_passMinutes cX1_passMinutes 4 (some .int) ∈ AL := AL_mem (AL_3 (List.mem_of_getElem? (i := 15) rfl)) rfl
theorem ws_X1_passMinutes : Cond.instanceMethod yX1_passMinutes ∈ AL := AL_mem (AL_3 (List.mem_of_getElem? (i := 13) rfl)) rfl
theorem wv_X1_passMinutes : Cond.selects yX1_passMinutes.cls yX1_passMinutes yX1_passMinutes ∈ AL := AL_mem (AL_3 (List.mem_of_getElem? (i := 14) rfl)) rfl
theorem lk_X6_172 : xLV RX6 172 yX1_passMinutes cX1_passMinutes 4 (some .int) 1 := ⟨⟨AL_mem (AL_3 (List.mem_of_getElem? (i := 12) rfl)) rfl, ws_X1_passMinutes, wv_X1_passMinutes, wi_X1, wk_X1_passMinutes⟩, by decide, by decide, by decide +kernel⟩
theorem lk_X6_175 : xLV RX6 175 yX1_copyFrom cX1_copyFrom 5 none 1 := ⟨⟨AL_mem (AL_3 (List.mem_of_getElem? (i := 62) rfl)) rfl, ws_X1_copyFrom, wv_X1_copyFrom, wi_X1, wk_X1_copyFrom⟩, by decide, by decide, by decide +kernel⟩
theorem lk_X6_177 : xLV RX6 177 yX1_isSuspect cX1_isSuspect 2 (some .boolean) 1 := ⟨⟨AL_mem (AL_3 (List.mem_of_getElem? (i := 63) rfl)) rfl, ws_X1_isSuspect, wv_X1_isSuspect, wi_X1, wk_X1_isSuspect⟩, by decide, by decide, by decide +kernel⟩
theorem lk_X6_181 : xLV RX6 181 yX1_passMinute cX1_passMinute 4 (some .int) 0 := ⟨⟨AL_mem (AL_3 (List.mem_of_getElem? (i := 64) rfl)) rfl, ws_X1_passMinute, wv_X1_passMinute, wi_X1, wk_X1_passMinute⟩, by decide, by decide, by decide +kernel⟩
theorem wk_X1_heatFromHeaters : Cond.code yX1_heatFromHeaters cX1_heatFromHeaters 4 (some .int) ∈ AL := AL_mem (AL_3 (List.mem_of_getElem? (i := 73) rfl)) rfl
theorem ws_X1_heatFromHeaters : Cond.instanceMethod yX1_heatFromHeaters ∈ AL := AL_mem (AL_3 (List.mem_of_getElem? (i := 71) rfl)) rfl
theorem wv_X1_heatFromHeaters : Cond.selects yX1_heatFromHeaters.cls yX1_heatFromHeaters yX1_heatFromHeaters ∈ AL := AL_mem (AL_3 (List.mem_of_getElem? (i := 72) rfl)) rfl
theorem lk_X6_185 : xLV RX6 185 yX1_heatFromHeaters cX1_heatFromHeaters 4 (some .int) 0 := ⟨⟨AL_mem (AL_3 (List.mem_of_getElem? (i := 70) rfl)) rfl, ws_X1_heatFromHeaters, wv_X1_heatFromHeaters, wi_X1, wk_X1_heatFromHeaters⟩, by decide, by decide, by decide +kernel⟩
theorem wk_X6_forecastWithBand : Cond.code yX6_forecastWithBand cX6_forecastWithBand 4 (some (.object "ThermostatColony$Room")) ∈ AL := AL_mem (AL_3 (List.mem_of_getElem? (i := 81) rfl)) rfl
theorem wi_X6 : Cond.initialized RX6 ∈ AL := AL_mem (AL_1 (List.mem_of_getElem? (i := 1) rfl)) rfl
theorem ws_X6_forecastWithBand : Cond.instanceMethod yX6_forecastWithBand ∈ AL := AL_mem (AL_3 (List.mem_of_getElem? (i := 80) rfl)) rfl
theorem wv_X6_forecastWithBand : Cond.selects yX6_forecastWithBand.cls yX6_forecastWithBand yX6_forecastWithBand ∈ AL := AL_memP (List.mem_of_getElem? (i := 13) rfl) rfl
theorem lk_X6_188 : xLV RX6 188 yX6_forecastWithBand cX6_forecastWithBand 4 (some (.object "ThermostatColony$Room")) 2 := ⟨⟨AL_mem (AL_3 (List.mem_of_getElem? (i := 78) rfl)) rfl, ws_X6_forecastWithBand, wv_X6_forecastWithBand, wi_X6, wk_X6_forecastWithBand⟩, by decide, by decide, by decide +kernel⟩
theorem wk_X6_isQuiet : Cond.code yX6_isQuiet cX6_isQuiet 5 (some .boolean) ∈ AL := AL_mem (AL_3 (List.mem_of_getElem? (i := 89) rfl)) rfl
theorem ws_X6_isQuiet : Cond.instanceMethod yX6_isQuiet ∈ AL := AL_mem (AL_3 (List.mem_of_getElem? (i := 88) rfl)) rfl
theorem wv_X6_isQuiet : Cond.selects yX6_isQuiet.cls yX6_isQuiet yX6_isQuiet ∈ AL := AL_memP (List.mem_of_getElem? (i := 14) rfl) rfl
theorem lk_X6_195 : xLV RX6 195 yX6_isQuiet cX6_isQuiet 5 (some .boolean) 2 := ⟨⟨AL_mem (AL_3 (List.mem_of_getElem? (i := 86) rfl)) rfl, ws_X6_isQuiet, wv_X6_isQuiet, wi_X6, wk_X6_isQuiet⟩, by decide, by decide, by decide +kernel⟩
theorem wk_X2_restore : Cond.code yX2_restore cX2_restore 4 none ∈ AL := AL_mem (AL_3 (List.mem_of_getElem? (i := 97) rfl)) rfl
theorem ws_X2_restore : Cond.instanceMethod yX2_restore ∈ AL := AL_mem (AL_3 (List.mem_of_getElem? (i := 95) rfl)) rfl
theorem wv_X2_restore : Cond.selects yX2_restore.cls yX2_restore yX2_restore ∈ AL := AL_mem (AL_3 (List.mem_of_getElem? (i := 96) rfl)) rfl
theorem lk_X6_199 : xLV RX6 199 yX2_restore cX2_restore 4 none 1 := ⟨⟨AL_mem (AL_3 (List.mem_of_getElem? (i := 94) rfl)) rfl, ws_X2_restore, wv_X2_restore, wi_X2, wk_X2_restore⟩, by decide, by decide, by decide +kernel⟩
theorem wk_X6_within : Cond.code yX6_within cX6_within 3 (some .boolean) ∈ AL := AL_mem (AL_1 (List.mem_of_getElem? (i := 239) rfl)) rfl
theorem ws_X6_within : Cond.static yX6_within ∈ AL := AL_mem (AL_1 (List.mem_of_getElem? (i := 238) rfl)) rfl
theorem lk_X6_40 : xLS RX6 40 yX6_within cX6_within 3 (some .boolean) 3 := ⟨⟨AL_mem (AL_1 (List.mem_of_getElem? (i := 237) rfl)) rfl, ws_X6_within, wi_X6, wk_X6_within⟩, by decide, by decide, by decide +kernel⟩
theorem wk_X2_save : Cond.code yX2_save cX2_save 3 none ∈ AL := AL_mem (AL_2 (List.mem_of_getElem? (i := 5) rfl)) rfl
theorem ws_X2_save : Cond.instanceMethod yX2_save ∈ AL := AL_mem (AL_2 (List.mem_of_getElem? (i := 3) rfl)) rfl
theorem wv_X2_save : Cond.selects yX2_save.cls yX2_save yX2_save ∈ AL := AL_mem (AL_2 (List.mem_of_getElem? (i := 4) rfl)) rfl
theorem lk_X6_50 : xLV RX6 50 yX2_save cX2_save 3 none 1 := ⟨⟨AL_mem (AL_2 (List.mem_of_getElem? (i := 2) rfl)) rfl, ws_X2_save, wv_X2_save, wi_X2, wk_X2_save⟩, by decide, by decide, by decide +kernel⟩
theorem wk_X1_beginRoom : Cond.code yX1_beginRoom cX1_beginRoom 7 (some .int) ∈ AL := AL_mem (AL_2 (List.mem_of_getElem? (i := 40) rfl)) rfl
theorem ws_X1_beginRoom : Cond.instanceMethod yX1_beginRoom ∈ AL := AL_mem (AL_2 (List.mem_of_getElem? (i := 38) rfl)) rfl
theorem wv_X1_beginRoom : Cond.selects yX1_beginRoom.cls yX1_beginRoom yX1_beginRoom ∈ AL := AL_mem (AL_2 (List.mem_of_getElem? (i := 39) rfl)) rfl
theorem lk_X6_54 : xLV RX6 54 yX1_beginRoom cX1_beginRoom 7 (some .int) 4 := ⟨⟨AL_mem (AL_2 (List.mem_of_getElem? (i := 37) rfl)) rfl, ws_X1_beginRoom, wv_X1_beginRoom, wi_X1, wk_X1_beginRoom⟩, by decide, by decide, by decide +kernel⟩
theorem wk_X1_hasPair : Cond.code yX1_hasPair cX1_hasPair 3 (some .boolean) ∈ AL := AL_mem (AL_2 (List.mem_of_getElem? (i := 68) rfl)) rfl
theorem ws_X1_hasPair : Cond.instanceMethod yX1_hasPair ∈ AL := AL_mem (AL_2 (List.mem_of_getElem? (i := 66) rfl)) rfl
theorem wv_X1_hasPair : Cond.selects yX1_hasPair.cls yX1_hasPair yX1_hasPair ∈ AL := AL_mem (AL_2 (List.mem_of_getElem? (i := 67) rfl)) rfl
theorem lk_X6_58 : xLV RX6 58 yX1_hasPair cX1_hasPair 3 (some .boolean) 2 := ⟨⟨AL_mem (AL_2 (List.mem_of_getElem? (i := 65) rfl)) rfl, ws_X1_hasPair, wv_X1_hasPair, wi_X1, wk_X1_hasPair⟩, by decide, by decide, by decide +kernel⟩
theorem lk_X6_62 : xLV RX6 62 yX1_linkOf cX1_linkOf 4 (some .int) 2 := ⟨⟨AL_mem (AL_2 (List.mem_of_getElem? (i := 69) rfl)) rfl, ws_X1_linkOf, wv_X1_linkOf, wi_X1, wk_X1_linkOf⟩, by decide, by decide, by decide +kernel⟩
theorem wk_X1_canCarry : Cond.code yX1_canCarry cX1_canCarry 6 (some .boolean) ∈ AL := AL_mem (AL_2 (List.mem_of_getElem? (i := 79) rfl)) rfl
theorem ws_X1_canCarry : Cond.instanceMethod yX1_canCarry ∈ AL := AL_mem (AL_2 (List.mem_of_getElem? (i := 77) rfl)) rfl
theorem wv_X1_canCarry : Cond.selects yX1_canCarry.cls yX1_canCarry yX1_canCarry ∈ AL := AL_mem (AL_2 (List.mem_of_getElem? (i := 78) rfl)) rfl
theorem lk_X6_66 : xLV RX6 66 yX1_canCarry cX1_canCarry 6 (some .boolean) 2 := ⟨⟨AL_mem (AL_2 (List.mem_of_getElem? (i := 76) rfl)) rfl, ws_X1_canCarry, wv_X1_canCarry, wi_X1, wk_X1_canCarry⟩, by decide, by decide, by decide +kernel⟩
theorem wk_X1_putLink : Cond.code yX1_putLink cX1_putLink 4 none ∈ AL := AL_mem (AL_2 (List.mem_of_getElem? (i := 85) rfl)) rfl
theorem ws_X1_putLink : Cond.instanceMethod yX1_putLink ∈ AL := AL_mem (AL_2 (List.mem_of_getElem? (i := 83) rfl)) rfl
theorem wv_X1_putLink : Cond.selects yX1_putLink.cls yX1_putLink yX1_putLink ∈ AL := AL_mem (AL_2 (List.mem_of_getElem? (i := 84) rfl)) rfl
theorem lk_X6_70 : xLV RX6 70 yX1_putLink cX1_putLink 4 none 3 := ⟨⟨AL_mem (AL_2 (List.mem_of_getElem? (i := 82) rfl)) rfl, ws_X1_putLink, wv_X1_putLink, wi_X1, wk_X1_putLink⟩, by decide, by decide, by decide +kernel⟩
theorem lk_X6_74 : xLV RX6 74 yX1_roomAt cX1_roomAt 2 (some (.object "ThermostatColony$Room")) 1 := ⟨⟨AL_mem (AL_2 (List.mem_of_getElem? (i := 94) rfl)) rfl, ws_X1_roomAt, wv_X1_roomAt, wi_X1, wk_X1_roomAt⟩, by decide, by decide, by decide +kernel⟩
theorem wk_X6_isNumberInRange : Cond.code yX6_isNumberInRange cX6_isNumberInRange 2 (some .boolean) ∈ AL := AL_mem (AL_2 (List.mem_of_getElem? (i := 102) rfl)) rfl
theorem ws_X6_isNumberInRange : Cond.static yX6_isNumberInRange ∈ AL := AL_mem (AL_2 (List.mem_of_getElem? (i := 101) rfl)) rfl
theorem lk_X6_87 : xLS RX6 87 yX6_isNumberInRange cX6_isNumberInRange 2 (some .boolean) 2 := ⟨⟨AL_mem (AL_2 (List.mem_of_getElem? (i := 100) rfl)) rfl, ws_X6_isNumberInRange, wi_X6, wk_X6_isNumberInRange⟩, by decide, by decide, by decide +kernel⟩
theorem lk_X6_90 : xLV RX6 90 yX1_number cX1_number 2 (some .int) 1 := ⟨⟨AL_mem (AL_2 (List.mem_of_getElem? (i := 107) rfl)) rfl, ws_X1_number, wv_X1_number, wi_X1, wk_X1_number⟩, by decide, by decide, by decide +kernel⟩
theorem wk_X1_putNumber : Cond.code yX1_putNumber cX1_putNumber 3 none ∈ AL := AL_mem (AL_2 (List.mem_of_getElem? (i := 114) rfl)) rfl
theorem ws_X1_putNumber : Cond.instanceMethod yX1_putNumber ∈ AL := AL_mem (AL_2 (List.mem_of_getElem? (i := 112) rfl)) rfl
theorem wv_X1_putNumber : Cond.selects yX1_putNumber.cls yX1_putNumber yX1_putNumber ∈ AL := AL_mem (AL_2 (List.mem_of_getElem? (i := 113) rfl)) rfl
theorem lk_X6_94 : xLV RX6 94 yX1_putNumber cX1_putNumber 3 none 2 := ⟨⟨AL_mem (AL_2 (List.mem_of_getElem? (i := 111) rfl)) rfl, ws_X1_putNumber, wv_X1_putNumber, wi_X1, wk_X1_putNumber⟩, by decide, by decide, by decide +kernel⟩
theorem wk_X7_reads : Cond.code yX7_reads cX7_reads 10 (some .boolean) ∈ AL := AL_mem (AL_4 (List.mem_of_getElem? (i := 31) rfl)) rfl
theorem wi_X7 : Cond.initialized RX7 ∈ AL := AL_mem (AL_1 (List.mem_of_getElem? (i := 8) rfl)) rfl
theorem ws_X7_reads : Cond.instanceMethod yX7_reads ∈ AL := AL_mem (AL_4 (List.mem_of_getElem? (i := 30) rfl)) rfl
theorem wv_X7_reads : Cond.selects yX7_reads.cls yX7_reads yX7_reads ∈ AL := AL_memP (List.mem_of_getElem? (i := 27) rfl) rfl
theorem lk_X7_107 : xLV RX7 107 yX7_reads cX7_reads 10 (some .boolean) 3 := ⟨⟨AL_mem (AL_4 (List.mem_of_getElem? (i := 28) rfl)) rfl, ws_X7_reads, wv_X7_reads, wi_X7, wk_X7_reads⟩, by decide, by decide, by decide +kernel⟩
theorem wk_X7_readsAll : Cond.code yX7_readsAll cX7_readsAll 4 (some .boolean) ∈ AL := AL_mem (AL_4 (List.mem_of_getElem? (i := 22) rfl)) rfl
theorem ws_X7_readsAll : Cond.instanceMethod yX7_readsAll ∈ AL := AL_mem (AL_4 (List.mem_of_getElem? (i := 21) rfl)) rfl
theorem wv_X7_readsAll : Cond.selects yX7_readsAll.cls yX7_readsAll yX7_readsAll ∈ AL := AL_memP (List.mem_of_getElem? (i := 25) rfl) rfl
theorem lk_X7_111 : xLV RX7 111 yX7_readsAll cX7_readsAll 4 (some .boolean) 0 := ⟨⟨AL_mem (AL_4 (List.mem_of_getElem? (i := 19) rfl)) rfl, ws_X7_readsAll, wv_X7_readsAll, wi_X7, wk_X7_readsAll⟩, by decide, by decide, by decide +kernel⟩
theorem wk_X7_air : Cond.code yX7_air cX7_air 5 (some .int) ∈ AL := AL_mem (AL_4 (List.mem_of_getElem? (i := 39) rfl)) rfl
theorem ws_X7_air : Cond.instanceMethod yX7_air ∈ AL := AL_mem (AL_4 (List.mem_of_getElem? (i := 38) rfl)) rfl
theorem wv_X7_air : Cond.selects yX7_air.cls yX7_air yX7_air ∈ AL := AL_memP (List.mem_of_getElem? (i := 28) rfl) rfl
theorem lk_X7_115 : xLV RX7 115 yX7_air cX7_air 5 (some .int) 1 := ⟨⟨AL_mem (AL_4 (List.mem_of_getElem? (i := 36) rfl)) rfl, ws_X7_air, wv_X7_air, wi_X7, wk_X7_air⟩, by decide, by decide, by decide +kernel⟩
theorem wk_X7_closes : Cond.code yX7_closes cX7_closes 3 none ∈ AL := AL_mem (AL_4 (List.mem_of_getElem? (i := 63) rfl)) rfl
theorem ws_X7_closes : Cond.instanceMethod yX7_closes ∈ AL := AL_mem (AL_4 (List.mem_of_getElem? (i := 62) rfl)) rfl
theorem wv_X7_closes : Cond.selects yX7_closes.cls yX7_closes yX7_closes ∈ AL := AL_memP (List.mem_of_getElem? (i := 33) rfl) rfl
theorem lk_X7_118 : xLV RX7 118 yX7_closes cX7_closes 3 none 1 := ⟨⟨AL_mem (AL_4 (List.mem_of_getElem? (i := 60) rfl)) rfl, ws_X7_closes, wv_X7_closes, wi_X7, wk_X7_closes⟩, by decide, by decide, by decide +kernel⟩
theorem wk_X7_opens : Cond.code yX7_opens cX7_opens 2 (some .int) ∈ AL := AL_mem (AL_4 (List.mem_of_getElem? (i := 67) rfl)) rfl
theorem ws_X7_opens : Cond.instanceMethod yX7_opens ∈ AL := AL_mem (AL_4 (List.mem_of_getElem? (i := 66) rfl)) rfl
theorem wv_X7_opens : Cond.selects yX7_opens.cls yX7_opens yX7_opens ∈ AL := AL_memP (List.mem_of_getElem? (i := 34) rfl) rfl
theorem lk_X7_122 : xLV RX7 122 yX7_opens cX7_opens 2 (some .int) 1 := ⟨⟨AL_mem (AL_4 (List.mem_of_getElem? (i := 64) rfl)) rfl, ws_X7_opens, wv_X7_opens, wi_X7, wk_X7_opens⟩, by decide, by decide, by decide +kernel⟩
theorem wk_X7_flows : Cond.code yX7_flows cX7_flows 7 none ∈ AL := AL_mem (AL_4 (List.mem_of_getElem? (i := 55) rfl)) rfl
theorem ws_X7_flows : Cond.instanceMethod yX7_flows ∈ AL := AL_mem (AL_4 (List.mem_of_getElem? (i := 54) rfl)) rfl
theorem wv_X7_flows : Cond.selects yX7_flows.cls yX7_flows yX7_flows ∈ AL := AL_memP (List.mem_of_getElem? (i := 31) rfl) rfl
theorem lk_X7_125 : xLV RX7 125 yX7_flows cX7_flows 7 none 2 := ⟨⟨AL_mem (AL_4 (List.mem_of_getElem? (i := 52) rfl)) rfl, ws_X7_flows, wv_X7_flows, wi_X7, wk_X7_flows⟩, by decide, by decide, by decide +kernel⟩
theorem wk_X7_turns : Cond.code yX7_turns cX7_turns 6 (some .int) ∈ AL := AL_mem (AL_4 (List.mem_of_getElem? (i := 59) rfl)) rfl
theorem ws_X7_turns : Cond.instanceMethod yX7_turns ∈ AL := AL_mem (AL_4 (List.mem_of_getElem? (i := 58) rfl)) rfl
theorem wv_X7_turns : Cond.selects yX7_turns.cls yX7_turns yX7_turns ∈ AL := AL_memP (List.mem_of_getElem? (i := 32) rfl) rfl
theorem lk_X7_129 : xLV RX7 129 yX7_turns cX7_turns 6 (some .int) 1 := ⟨⟨AL_mem (AL_4 (List.mem_of_getElem? (i := 56) rfl)) rfl, ws_X7_turns, wv_X7_turns, wi_X7, wk_X7_turns⟩, by decide, by decide, by decide +kernel⟩
theorem wk_X7_minute : Cond.code yX7_minute cX7_minute 4 (some .int) ∈ AL := AL_mem (AL_4 (List.mem_of_getElem? (i := 51) rfl)) rfl
theorem ws_X7_minute : Cond.instanceMethod yX7_minute ∈ AL := AL_mem (AL_4 (List.mem_of_getElem? (i := 50) rfl)) rfl
theorem wv_X7_minute : Cond.selects yX7_minute.cls yX7_minute yX7_minute ∈ AL := AL_memP (List.mem_of_getElem? (i := 30) rfl) rfl
theorem lk_X7_132 : xLV RX7 132 yX7_minute cX7_minute 4 (some .int) 0 := ⟨⟨AL_mem (AL_4 (List.mem_of_getElem? (i := 48) rfl)) rfl, ws_X7_minute, wv_X7_minute, wi_X7, wk_X7_minute⟩, by decide, by decide, by decide +kernel⟩
theorem wk_X7_minutes : Cond.code yX7_minutes cX7_minutes 4 (some .int) ∈ AL := AL_mem (AL_4 (List.mem_of_getElem? (i := 47) rfl)) rfl
theorem ws_X7_minutes : Cond.instanceMethod yX7_minutes ∈ AL := AL_mem (AL_4 (List.mem_of_getElem? (i := 46) rfl)) rfl
theorem wv_X7_minutes : Cond.selects yX7_minutes.cls yX7_minutes yX7_minutes ∈ AL := AL_memP (List.mem_of_getElem? (i := 29) rfl) rfl
theorem lk_X7_135 : xLV RX7 135 yX7_minutes cX7_minutes 4 (some .int) 1 := ⟨⟨AL_mem (AL_4 (List.mem_of_getElem? (i := 44) rfl)) rfl, ws_X7_minutes, wv_X7_minutes, wi_X7, wk_X7_minutes⟩, by decide, by decide, by decide +kernel⟩
theorem wk_X7_keeps : Cond.code yX7_keeps cX7_keeps 2 none ∈ AL := AL_mem (AL_4 (List.mem_of_getElem? (i := 75) rfl)) rfl
theorem ws_X7_keeps : Cond.instanceMethod yX7_keeps ∈ AL := AL_mem (AL_4 (List.mem_of_getElem? (i := 74) rfl)) rfl
theorem wv_X7_keeps : Cond.selects yX7_keeps.cls yX7_keeps yX7_keeps ∈ AL := AL_memP (List.mem_of_getElem? (i := 35) rfl) rfl
theorem lk_X7_138 : xLV RX7 138 yX7_keeps cX7_keeps 2 none 0 := ⟨⟨AL_mem (AL_4 (List.mem_of_getElem? (i := 72) rfl)) rfl, ws_X7_keeps, wv_X7_keeps, wi_X7, wk_X7_keeps⟩, by decide, by decide, by decide +kernel⟩
theorem wk_X7_restores : Cond.code yX7_restores cX7_restores 2 none ∈ AL := AL_mem (AL_4 (List.mem_of_getElem? (i := 79) rfl)) rfl
theorem ws_X7_restores : Cond.instanceMethod yX7_restores ∈ AL := AL_mem (AL_4 (List.mem_of_getElem? (i := 78) rfl)) rfl
theorem wv_X7_restores : Cond.selects yX7_restores.cls yX7_restores yX7_restores ∈ AL := AL_memP (List.mem_of_getElem? (i := 36) rfl) rfl
theorem lk_X7_141 : xLV RX7 141 yX7_restores cX7_restores 2 none 0 := ⟨⟨AL_mem (AL_4 (List.mem_of_getElem? (i := 76) rfl)) rfl, ws_X7_restores, wv_X7_restores, wi_X7, wk_X7_restores⟩, by decide, by decide, by decide +kernel⟩
theorem wk_X7_heated : Cond.code yX7_heated cX7_heated 3 (some .int) ∈ AL := AL_mem (AL_4 (List.mem_of_getElem? (i := 87) rfl)) rfl
theorem ws_X7_heated : Cond.instanceMethod yX7_heated ∈ AL := AL_mem (AL_4 (List.mem_of_getElem? (i := 86) rfl)) rfl
theorem wv_X7_heated : Cond.selects yX7_heated.cls yX7_heated yX7_heated ∈ AL := AL_memP (List.mem_of_getElem? (i := 37) rfl) rfl
theorem lk_X7_144 : xLV RX7 144 yX7_heated cX7_heated 3 (some .int) 0 := ⟨⟨AL_mem (AL_4 (List.mem_of_getElem? (i := 84) rfl)) rfl, ws_X7_heated, wv_X7_heated, wi_X7, wk_X7_heated⟩, by decide, by decide, by decide +kernel⟩
theorem wk_X7_fined : Cond.code yX7_fined cX7_fined 7 (some .int) ∈ AL := AL_mem (AL_4 (List.mem_of_getElem? (i := 95) rfl)) rfl
theorem ws_X7_fined : Cond.instanceMethod yX7_fined ∈ AL := AL_mem (AL_4 (List.mem_of_getElem? (i := 94) rfl)) rfl
theorem wv_X7_fined : Cond.selects yX7_fined.cls yX7_fined yX7_fined ∈ AL := AL_memP (List.mem_of_getElem? (i := 38) rfl) rfl
theorem lk_X7_147 : xLV RX7 147 yX7_fined cX7_fined 7 (some .int) 3 := ⟨⟨AL_mem (AL_4 (List.mem_of_getElem? (i := 92) rfl)) rfl, ws_X7_fined, wv_X7_fined, wi_X7, wk_X7_fined⟩, by decide, by decide, by decide +kernel⟩
theorem wk_X7_in : Cond.code yX7_in cX7_in 3 (some .boolean) ∈ AL := AL_mem (AL_3 (List.mem_of_getElem? (i := 151) rfl)) rfl
theorem ws_X7_in : Cond.static yX7_in ∈ AL := AL_mem (AL_3 (List.mem_of_getElem? (i := 150) rfl)) rfl
theorem lk_X7_35 : xLS RX7 35 yX7_in cX7_in 3 (some .boolean) 3 := ⟨⟨AL_mem (AL_3 (List.mem_of_getElem? (i := 149) rfl)) rfl, ws_X7_in, wi_X7, wk_X7_in⟩, by decide, by decide, by decide +kernel⟩
theorem wk_X7_of : Cond.code yX7_of cX7_of 3 (some .int) ∈ AL := AL_mem (AL_3 (List.mem_of_getElem? (i := 186) rfl)) rfl
theorem ws_X7_of : Cond.instanceMethod yX7_of ∈ AL := AL_mem (AL_3 (List.mem_of_getElem? (i := 185) rfl)) rfl
theorem wv_X7_of : Cond.selects yX7_of.cls yX7_of yX7_of ∈ AL := AL_memP (List.mem_of_getElem? (i := 21) rfl) rfl
theorem lk_X7_39 : xLV RX7 39 yX7_of cX7_of 3 (some .int) 2 := ⟨⟨AL_mem (AL_3 (List.mem_of_getElem? (i := 183) rfl)) rfl, ws_X7_of, wv_X7_of, wi_X7, wk_X7_of⟩, by decide, by decide, by decide +kernel⟩
theorem wk_X7_degrees : Cond.code yX7_degrees cX7_degrees 3 (some .int) ∈ AL := AL_mem (AL_3 (List.mem_of_getElem? (i := 213) rfl)) rfl
theorem ws_X7_degrees : Cond.static yX7_degrees ∈ AL := AL_mem (AL_3 (List.mem_of_getElem? (i := 212) rfl)) rfl
theorem lk_X7_43 : xLS RX7 43 yX7_degrees cX7_degrees 3 (some .int) 2 := ⟨⟨AL_mem (AL_3 (List.mem_of_getElem? (i := 211) rfl)) rfl, ws_X7_degrees, wi_X7, wk_X7_degrees⟩, by decide, by decide, by decide +kernel⟩
theorem wk_X7_notes : Cond.code yX7_notes cX7_notes 2 none ∈ AL := AL_mem (AL_3 (List.mem_of_getElem? (i := 157) rfl)) rfl
theorem ws_X7_notes : Cond.instanceMethod yX7_notes ∈ AL := AL_mem (AL_3 (List.mem_of_getElem? (i := 156) rfl)) rfl
theorem wv_X7_notes : Cond.selects yX7_notes.cls yX7_notes yX7_notes ∈ AL := AL_memP (List.mem_of_getElem? (i := 15) rfl) rfl
theorem lk_X7_48 : xLV RX7 48 yX7_notes cX7_notes 2 none 0 := ⟨⟨AL_mem (AL_3 (List.mem_of_getElem? (i := 154) rfl)) rfl, ws_X7_notes, wv_X7_notes, wi_X7, wk_X7_notes⟩, by decide, by decide, by decide +kernel⟩
theorem wk_X7_puts : Cond.code yX7_puts cX7_puts 4 none ∈ AL := AL_mem (AL_3 (List.mem_of_getElem? (i := 161) rfl)) rfl
theorem ws_X7_puts : Cond.instanceMethod yX7_puts ∈ AL := AL_mem (AL_3 (List.mem_of_getElem? (i := 160) rfl)) rfl
theorem wv_X7_puts : Cond.selects yX7_puts.cls yX7_puts yX7_puts ∈ AL := AL_memP (List.mem_of_getElem? (i := 16) rfl) rfl
theorem lk_X7_51 : xLV RX7 51 yX7_puts cX7_puts 4 none 3 := ⟨⟨AL_mem (AL_3 (List.mem_of_getElem? (i := 158) rfl)) rfl, ws_X7_puts, wv_X7_puts, wi_X7, wk_X7_puts⟩, by decide, by decide, by decide +kernel⟩
theorem wk_X7_isRoom : Cond.code yX7_isRoom cX7_isRoom 2 (some .boolean) ∈ AL := AL_mem (AL_3 (List.mem_of_getElem? (i := 174) rfl)) rfl
theorem ws_X7_isRoom : Cond.instanceMethod yX7_isRoom ∈ AL := AL_mem (AL_3 (List.mem_of_getElem? (i := 173) rfl)) rfl
theorem wv_X7_isRoom : Cond.selects yX7_isRoom.cls yX7_isRoom yX7_isRoom ∈ AL := AL_memP (List.mem_of_getElem? (i := 18) rfl) rfl
theorem lk_X7_56 : xLV RX7 56 yX7_isRoom cX7_isRoom 2 (some .boolean) 1 := ⟨⟨AL_mem (AL_3 (List.mem_of_getElem? (i := 171) rfl)) rfl, ws_X7_isRoom, wv_X7_isRoom, wi_X7, wk_X7_isRoom⟩, by decide, by decide, by decide +kernel⟩
theorem wk_X7_drain : Cond.code yX7_drain cX7_drain 4 (some .int) ∈ AL := AL_mem (AL_3 (List.mem_of_getElem? (i := 182) rfl)) rfl
theorem ws_X7_drain : Cond.instanceMethod yX7_drain ∈ AL := AL_mem (AL_3 (List.mem_of_getElem? (i := 181) rfl)) rfl
theorem wv_X7_drain : Cond.selects yX7_drain.cls yX7_drain yX7_drain ∈ AL := AL_memP (List.mem_of_getElem? (i := 20) rfl) rfl
theorem lk_X7_60 : xLV RX7 60 yX7_drain cX7_drain 4 (some .int) 1 := ⟨⟨AL_mem (AL_3 (List.mem_of_getElem? (i := 179) rfl)) rfl, ws_X7_drain, wv_X7_drain, wi_X7, wk_X7_drain⟩, by decide, by decide, by decide +kernel⟩
theorem wk_X7_areRooms : Cond.code yX7_areRooms cX7_areRooms 3 (some .boolean) ∈ AL := AL_mem (AL_3 (List.mem_of_getElem? (i := 170) rfl)) rfl
theorem ws_X7_areRooms : Cond.instanceMethod yX7_areRooms ∈ AL := AL_mem (AL_3 (List.mem_of_getElem? (i := 169) rfl)) rfl
theorem wv_X7_areRooms : Cond.selects yX7_areRooms.cls yX7_areRooms yX7_areRooms ∈ AL := AL_memP (List.mem_of_getElem? (i := 17) rfl) rfl
theorem lk_X7_64 : xLV RX7 64 yX7_areRooms cX7_areRooms 3 (some .boolean) 2 := ⟨⟨AL_mem (AL_3 (List.mem_of_getElem? (i := 167) rfl)) rfl, ws_X7_areRooms, wv_X7_areRooms, wi_X7, wk_X7_areRooms⟩, by decide, by decide, by decide +kernel⟩
theorem wk_X7_isTooMuch : Cond.code yX7_isTooMuch cX7_isTooMuch 3 (some .boolean) ∈ AL := AL_mem (AL_3 (List.mem_of_getElem? (i := 178) rfl)) rfl
theorem ws_X7_isTooMuch : Cond.instanceMethod yX7_isTooMuch ∈ AL := AL_mem (AL_3 (List.mem_of_getElem? (i := 177) rfl)) rfl
theorem wv_X7_isTooMuch : Cond.selects yX7_isTooMuch.cls yX7_isTooMuch yX7_isTooMuch ∈ AL := AL_memP (List.mem_of_getElem? (i := 19) rfl) rfl
theorem lk_X7_68 : xLV RX7 68 yX7_isTooMuch cX7_isTooMuch 3 (some .boolean) 2 := ⟨⟨AL_mem (AL_3 (List.mem_of_getElem? (i := 175) rfl)) rfl, ws_X7_isTooMuch, wv_X7_isTooMuch, wi_X7, wk_X7_isTooMuch⟩, by decide, by decide, by decide +kernel⟩
theorem wk_X7_isNumber : Cond.code yX7_isNumber cX7_isNumber 2 (some .boolean) ∈ AL := AL_mem (AL_3 (List.mem_of_getElem? (i := 202) rfl)) rfl
theorem ws_X7_isNumber : Cond.static yX7_isNumber ∈ AL := AL_mem (AL_3 (List.mem_of_getElem? (i := 201) rfl)) rfl
theorem lk_X7_73 : xLS RX7 73 yX7_isNumber cX7_isNumber 2 (some .boolean) 2 := ⟨⟨AL_mem (AL_3 (List.mem_of_getElem? (i := 200) rfl)) rfl, ws_X7_isNumber, wi_X7, wk_X7_isNumber⟩, by decide, by decide, by decide +kernel⟩
theorem wk_X7_grows : Cond.code yX7_grows cX7_grows 4 none ∈ AL := AL_mem (AL_3 (List.mem_of_getElem? (i := 218) rfl)) rfl
theorem ws_X7_grows : Cond.instanceMethod yX7_grows ∈ AL := AL_mem (AL_3 (List.mem_of_getElem? (i := 217) rfl)) rfl
theorem wv_X7_grows : Cond.selects yX7_grows.cls yX7_grows yX7_grows ∈ AL := AL_memP (List.mem_of_getElem? (i := 22) rfl) rfl
theorem lk_X7_81 : xLV RX7 81 yX7_grows cX7_grows 4 none 3 := ⟨⟨AL_mem (AL_3 (List.mem_of_getElem? (i := 215) rfl)) rfl, ws_X7_grows, wv_X7_grows, wi_X7, wk_X7_grows⟩, by decide, by decide, by decide +kernel⟩
theorem wk_X7_temperature : Cond.code yX7_temperature cX7_temperature 2 (some .int) ∈ AL := AL_mem (AL_3 (List.mem_of_getElem? (i := 222) rfl)) rfl
theorem ws_X7_temperature : Cond.instanceMethod yX7_temperature ∈ AL := AL_mem (AL_3 (List.mem_of_getElem? (i := 221) rfl)) rfl
theorem wv_X7_temperature : Cond.selects yX7_temperature.cls yX7_temperature yX7_temperature ∈ AL := AL_memP (List.mem_of_getElem? (i := 23) rfl) rfl
theorem lk_X7_84 : xLV RX7 84 yX7_temperature cX7_temperature 2 (some .int) 1 := ⟨⟨AL_mem (AL_3 (List.mem_of_getElem? (i := 219) rfl)) rfl, ws_X7_temperature, wv_X7_temperature, wi_X7, wk_X7_temperature⟩, by decide, by decide, by decide +kernel⟩
theorem wk_X7_isSuspect : Cond.code yX7_isSuspect cX7_isSuspect 2 (some .boolean) ∈ AL := AL_mem (AL_4 (List.mem_of_getElem? (i := 6) rfl)) rfl
theorem ws_X7_isSuspect : Cond.instanceMethod yX7_isSuspect ∈ AL := AL_mem (AL_4 (List.mem_of_getElem? (i := 5) rfl)) rfl
theorem wv_X7_isSuspect : Cond.selects yX7_isSuspect.cls yX7_isSuspect yX7_isSuspect ∈ AL := AL_memP (List.mem_of_getElem? (i := 24) rfl) rfl
theorem lk_X7_87 : xLV RX7 87 yX7_isSuspect cX7_isSuspect 2 (some .boolean) 1 := ⟨⟨AL_mem (AL_4 (List.mem_of_getElem? (i := 3) rfl)) rfl, ws_X7_isSuspect, wv_X7_isSuspect, wi_X7, wk_X7_isSuspect⟩, by decide, by decide, by decide +kernel⟩
theorem wk_X7_here : Cond.code yX7_here cX7_here 1 (some .int) ∈ AL := AL_mem (AL_4 (List.mem_of_getElem? (i := 26) rfl)) rfl
theorem ws_X7_here : Cond.instanceMethod yX7_here ∈ AL := AL_mem (AL_4 (List.mem_of_getElem? (i := 25) rfl)) rfl
theorem wv_X7_here : Cond.selects yX7_here.cls yX7_here yX7_here ∈ AL := AL_memP (List.mem_of_getElem? (i := 26) rfl) rfl
theorem lk_X7_96 : xLV RX7 96 yX7_here cX7_here 1 (some .int) 0 := ⟨⟨AL_mem (AL_4 (List.mem_of_getElem? (i := 23) rfl)) rfl, ws_X7_here, wv_X7_here, wi_X7, wk_X7_here⟩, by decide, by decide, by decide +kernel⟩
theorem wc_X0_27 : Jvm.Cond.constant RX0 27 (-1000001) ∈ AL := AL_mem (AL_2 (List.mem_of_getElem? (i := 158) rfl)) rfl
theorem wc_X3_106 : Jvm.Cond.constant RX3 106 (-1000001) ∈ AL := AL_mem (AL_2 (List.mem_of_getElem? (i := 149) rfl)) rfl
theorem wc_X3_63 : Jvm.Cond.constant RX3 63 (-1000009) ∈ AL := AL_mem (AL_2 (List.mem_of_getElem? (i := 56) rfl)) rfl
theorem wc_X5_57 : Jvm.Cond.constant RX5 57 (1000000) ∈ AL := AL_mem (AL_2 (List.mem_of_getElem? (i := 221) rfl)) rfl
theorem wc_X6_106 : Jvm.Cond.constant RX6 106 (-200000) ∈ AL := AL_mem (AL_2 (List.mem_of_getElem? (i := 122) rfl)) rfl
theorem wc_X6_107 : Jvm.Cond.constant RX6 107 (200000) ∈ AL := AL_mem (AL_2 (List.mem_of_getElem? (i := 123) rfl)) rfl
theorem wc_X6_184 : Jvm.Cond.constant RX6 184 (-1000009) ∈ AL := AL_mem (AL_3 (List.mem_of_getElem? (i := 65) rfl)) rfl
theorem wc_X6_44 : Jvm.Cond.constant RX6 44 (-1000001) ∈ AL := AL_mem (AL_2 (List.mem_of_getElem? (i := 0) rfl)) rfl
theorem wc_X6_49 : Jvm.Cond.constant RX6 49 (-1000003) ∈ AL := AL_mem (AL_2 (List.mem_of_getElem? (i := 1) rfl)) rfl
theorem wc_X6_69 : Jvm.Cond.constant RX6 69 (-1000002) ∈ AL := AL_mem (AL_2 (List.mem_of_getElem? (i := 81) rfl)) rfl
theorem wc_X6_78 : Jvm.Cond.constant RX6 78 (35000) ∈ AL := AL_mem (AL_2 (List.mem_of_getElem? (i := 95) rfl)) rfl
theorem wc_X6_98 : Jvm.Cond.constant RX6 98 (-50000) ∈ AL := AL_mem (AL_2 (List.mem_of_getElem? (i := 119) rfl)) rfl
theorem wc_X6_99 : Jvm.Cond.constant RX6 99 (50000) ∈ AL := AL_mem (AL_2 (List.mem_of_getElem? (i := 120) rfl)) rfl
theorem wc_X7_100 : Jvm.Cond.constant RX7 100 (100000) ∈ AL := AL_mem (AL_4 (List.mem_of_getElem? (i := 27) rfl)) rfl
theorem wc_X7_34 : Jvm.Cond.constant RX7 34 (-1000002) ∈ AL := AL_mem (AL_3 (List.mem_of_getElem? (i := 144) rfl)) rfl
theorem wc_X7_46 : Jvm.Cond.constant RX7 46 (-1000001) ∈ AL := AL_mem (AL_3 (List.mem_of_getElem? (i := 152) rfl)) rfl
theorem wc_X7_47 : Jvm.Cond.constant RX7 47 (-1000003) ∈ AL := AL_mem (AL_3 (List.mem_of_getElem? (i := 153) rfl)) rfl
theorem wc_X7_55 : Jvm.Cond.constant RX7 55 (-1000009) ∈ AL := AL_mem (AL_3 (List.mem_of_getElem? (i := 162) rfl)) rfl
theorem wc_X7_71 : Jvm.Cond.constant RX7 71 (35000) ∈ AL := AL_mem (AL_3 (List.mem_of_getElem? (i := 195) rfl)) rfl
theorem wc_X7_72 : Jvm.Cond.constant RX7 72 (90000) ∈ AL := AL_mem (AL_3 (List.mem_of_getElem? (i := 203) rfl)) rfl
theorem wc_X7_76 : Jvm.Cond.constant RX7 76 (-50000) ∈ AL := AL_mem (AL_3 (List.mem_of_getElem? (i := 208) rfl)) rfl
theorem wc_X7_77 : Jvm.Cond.constant RX7 77 (50000) ∈ AL := AL_mem (AL_3 (List.mem_of_getElem? (i := 209) rfl)) rfl
theorem wc_X7_78 : Jvm.Cond.constantLong RX7 78 (200) ∈ AL := AL_mem (AL_3 (List.mem_of_getElem? (i := 210) rfl)) rfl
theorem wc_X7_80 : Jvm.Cond.constant RX7 80 (200000) ∈ AL := AL_mem (AL_3 (List.mem_of_getElem? (i := 214) rfl)) rfl
theorem wf_X0_15 : Cond.fieldLink RX0 15 "ThermostatColony$Books" "fromHeater" "I" ∈ AL := AL_mem (AL_1 (List.mem_of_getElem? (i := 60) rfl)) rfl
theorem wf_X0_18 : Cond.fieldLink RX0 18 "ThermostatColony$Books" "toOutside" "I" ∈ AL := AL_mem (AL_1 (List.mem_of_getElem? (i := 63) rfl)) rfl
theorem wf_X0_21 : Cond.fieldLink RX0 21 "ThermostatColony$Books" "toOthers" "I" ∈ AL := AL_mem (AL_1 (List.mem_of_getElem? (i := 65) rfl)) rfl
theorem wf_X0_24 : Cond.fieldLink RX0 24 "ThermostatColony$Books" "byWarm" "I" ∈ AL := AL_mem (AL_1 (List.mem_of_getElem? (i := 67) rfl)) rfl
theorem wf_X0_9 : Cond.fieldLink RX0 9 "ThermostatColony$Books" "firstHeat" "I" ∈ AL := AL_mem (AL_1 (List.mem_of_getElem? (i := 59) rfl)) rfl
theorem wf_X1_123 : Cond.fieldLink RX1 123 "ThermostatColony$Room" "minuteTemperature" "I" ∈ AL := AL_mem (AL_1 (List.mem_of_getElem? (i := 118) rfl)) rfl
theorem wf_X1_129 : Cond.fieldLink RX1 129 "ThermostatColony$Room" "closed" "Z" ∈ AL := AL_mem (AL_1 (List.mem_of_getElem? (i := 98) rfl)) rfl
theorem wf_X1_136 : Cond.fieldLink RX1 136 "ThermostatColony$Room" "tripped" "Z" ∈ AL := AL_mem (AL_1 (List.mem_of_getElem? (i := 103) rfl)) rfl
theorem wf_X1_139 : Cond.fieldLink RX1 139 "ThermostatColony$Room" "blade" "I" ∈ AL := AL_mem (AL_1 (List.mem_of_getElem? (i := 96) rfl)) rfl
theorem wf_X1_155 : Cond.fieldLink RX1 155 "ThermostatColony$Room" "closings" "I" ∈ AL := AL_mem (AL_1 (List.mem_of_getElem? (i := 109) rfl)) rfl
theorem wf_X1_158 : Cond.fieldLink RX1 158 "ThermostatColony$Room" "latestClosing" "I" ∈ AL := AL_mem (AL_1 (List.mem_of_getElem? (i := 111) rfl)) rfl
theorem wf_X1_161 : Cond.fieldLink RX1 161 "ThermostatColony$Room" "wear" "I" ∈ AL := AL_mem (AL_1 (List.mem_of_getElem? (i := 106) rfl)) rfl
theorem wf_X1_164 : Cond.fieldLink RX1 164 "ThermostatColony$Room" "power" "I" ∈ AL := AL_mem (AL_1 (List.mem_of_getElem? (i := 86) rfl)) rfl
theorem wf_X1_167 : Cond.fieldLink RX1 167 "ThermostatColony$Room" "welded" "Z" ∈ AL := AL_mem (AL_1 (List.mem_of_getElem? (i := 100) rfl)) rfl
theorem wf_X1_17 : Cond.fieldLink RX1 17 "ThermostatColony$Colony" "rooms" "[LThermostatColony$Room;" ∈ AL := AL_mem (AL_1 (List.mem_of_getElem? (i := 157) rfl)) rfl
theorem wf_X1_21 : Cond.fieldLink RX1 21 "ThermostatColony$Colony" "links" "[I" ∈ AL := AL_mem (AL_1 (List.mem_of_getElem? (i := 158) rfl)) rfl
theorem wf_X1_27 : Cond.fieldLink RX1 27 "ThermostatColony$Colony" "weather" "LThermostatColony$Weather;" ∈ AL := AL_mem (AL_1 (List.mem_of_getElem? (i := 159) rfl)) rfl
theorem wf_X1_45 : Cond.fieldLink RX1 45 "ThermostatColony$Colony" "roomCount" "I" ∈ AL := AL_mem (AL_1 (List.mem_of_getElem? (i := 161) rfl)) rfl
theorem wf_X1_49 : Cond.fieldLink RX1 49 "ThermostatColony$Colony" "time" "I" ∈ AL := AL_mem (AL_1 (List.mem_of_getElem? (i := 163) rfl)) rfl
theorem wf_X1_71 : Cond.fieldLink RX1 71 "ThermostatColony$Room" "leak" "I" ∈ AL := AL_mem (AL_1 (List.mem_of_getElem? (i := 88) rfl)) rfl
theorem wf_X1_77 : Cond.fieldLink RX1 77 "ThermostatColony$Room" "capacity" "I" ∈ AL := AL_mem (AL_1 (List.mem_of_getElem? (i := 84) rfl)) rfl
theorem wf_X1_80 : Cond.fieldLink RX1 80 "ThermostatColony$Room" "suspectMinutes" "I" ∈ AL := AL_mem (AL_1 (List.mem_of_getElem? (i := 116) rfl)) rfl
theorem wf_X1_9 : Cond.fieldLink RX1 9 "ThermostatColony$Colony" "numbers" "[I" ∈ AL := AL_mem (AL_1 (List.mem_of_getElem? (i := 156) rfl)) rfl
theorem wf_X1_91 : Cond.fieldLink RX1 91 "ThermostatColony$Room" "fines" "I" ∈ AL := AL_mem (AL_1 (List.mem_of_getElem? (i := 113) rfl)) rfl
theorem wf_X1_94 : Cond.fieldLink RX1 94 "ThermostatColony$Room" "books" "LThermostatColony$Books;" ∈ AL := AL_mem (AL_1 (List.mem_of_getElem? (i := 82) rfl)) rfl
theorem wf_X1_98 : Cond.fieldLink RX1 98 "ThermostatColony$Books" "fromHeater" "I" ∈ AL := AL_mem (AL_1 (List.mem_of_getElem? (i := 62) rfl)) rfl
theorem wf_X2_11 : Cond.fieldLink RX2 11 "ThermostatColony$History" "states" "[LThermostatColony$Colony;" ∈ AL := AL_mem (AL_1 (List.mem_of_getElem? (i := 187) rfl)) rfl
theorem wf_X2_18 : Cond.fieldLink RX2 18 "ThermostatColony$History" "next" "I" ∈ AL := AL_mem (AL_1 (List.mem_of_getElem? (i := 188) rfl)) rfl
theorem wf_X2_30 : Cond.fieldLink RX2 30 "ThermostatColony$History" "size" "I" ∈ AL := AL_mem (AL_1 (List.mem_of_getElem? (i := 189) rfl)) rfl
theorem wf_X3_100 : Cond.fieldLink RX3 100 "ThermostatColony$Books" "toOutside" "I" ∈ AL := AL_mem (AL_1 (List.mem_of_getElem? (i := 64) rfl)) rfl
theorem wf_X3_103 : Cond.fieldLink RX3 103 "ThermostatColony$Books" "toOthers" "I" ∈ AL := AL_mem (AL_1 (List.mem_of_getElem? (i := 66) rfl)) rfl
theorem wf_X3_12 : Cond.fieldLink RX3 12 "ThermostatColony$Room" "books" "LThermostatColony$Books;" ∈ AL := AL_mem (AL_1 (List.mem_of_getElem? (i := 80) rfl)) rfl
theorem wf_X3_18 : Cond.fieldLink RX3 18 "ThermostatColony$Room" "capacity" "I" ∈ AL := AL_mem (AL_1 (List.mem_of_getElem? (i := 83) rfl)) rfl
theorem wf_X3_22 : Cond.fieldLink RX3 22 "ThermostatColony$Room" "power" "I" ∈ AL := AL_mem (AL_1 (List.mem_of_getElem? (i := 85) rfl)) rfl
theorem wf_X3_25 : Cond.fieldLink RX3 25 "ThermostatColony$Room" "leak" "I" ∈ AL := AL_mem (AL_1 (List.mem_of_getElem? (i := 87) rfl)) rfl
theorem wf_X3_28 : Cond.fieldLink RX3 28 "ThermostatColony$Room" "heat" "I" ∈ AL := AL_mem (AL_1 (List.mem_of_getElem? (i := 89) rfl)) rfl
theorem wf_X3_31 : Cond.fieldLink RX3 31 "ThermostatColony$Room" "point" "I" ∈ AL := AL_mem (AL_1 (List.mem_of_getElem? (i := 91) rfl)) rfl
theorem wf_X3_34 : Cond.fieldLink RX3 34 "ThermostatColony$Room" "band" "I" ∈ AL := AL_mem (AL_1 (List.mem_of_getElem? (i := 93) rfl)) rfl
theorem wf_X3_41 : Cond.fieldLink RX3 41 "ThermostatColony$Room" "blade" "I" ∈ AL := AL_mem (AL_1 (List.mem_of_getElem? (i := 95) rfl)) rfl
theorem wf_X3_44 : Cond.fieldLink RX3 44 "ThermostatColony$Room" "closed" "Z" ∈ AL := AL_mem (AL_1 (List.mem_of_getElem? (i := 97) rfl)) rfl
theorem wf_X3_48 : Cond.fieldLink RX3 48 "ThermostatColony$Room" "welded" "Z" ∈ AL := AL_mem (AL_1 (List.mem_of_getElem? (i := 99) rfl)) rfl
theorem wf_X3_51 : Cond.fieldLink RX3 51 "ThermostatColony$Room" "tripped" "Z" ∈ AL := AL_mem (AL_1 (List.mem_of_getElem? (i := 101) rfl)) rfl
theorem wf_X3_54 : Cond.fieldLink RX3 54 "ThermostatColony$Room" "wear" "I" ∈ AL := AL_mem (AL_1 (List.mem_of_getElem? (i := 104) rfl)) rfl
theorem wf_X3_57 : Cond.fieldLink RX3 57 "ThermostatColony$Room" "attempts" "I" ∈ AL := AL_mem (AL_1 (List.mem_of_getElem? (i := 107) rfl)) rfl
theorem wf_X3_60 : Cond.fieldLink RX3 60 "ThermostatColony$Room" "closings" "I" ∈ AL := AL_mem (AL_1 (List.mem_of_getElem? (i := 108) rfl)) rfl
theorem wf_X3_64 : Cond.fieldLink RX3 64 "ThermostatColony$Room" "latestClosing" "I" ∈ AL := AL_mem (AL_1 (List.mem_of_getElem? (i := 110) rfl)) rfl
theorem wf_X3_67 : Cond.fieldLink RX3 67 "ThermostatColony$Room" "fines" "I" ∈ AL := AL_mem (AL_1 (List.mem_of_getElem? (i := 112) rfl)) rfl
theorem wf_X3_70 : Cond.fieldLink RX3 70 "ThermostatColony$Room" "suspectMinutes" "I" ∈ AL := AL_mem (AL_1 (List.mem_of_getElem? (i := 115) rfl)) rfl
theorem wf_X3_73 : Cond.fieldLink RX3 73 "ThermostatColony$Room" "minuteTemperature" "I" ∈ AL := AL_mem (AL_1 (List.mem_of_getElem? (i := 117) rfl)) rfl
theorem wf_X3_94 : Cond.fieldLink RX3 94 "ThermostatColony$Books" "byWarm" "I" ∈ AL := AL_mem (AL_1 (List.mem_of_getElem? (i := 68) rfl)) rfl
theorem wf_X3_97 : Cond.fieldLink RX3 97 "ThermostatColony$Books" "fromHeater" "I" ∈ AL := AL_mem (AL_1 (List.mem_of_getElem? (i := 61) rfl)) rfl
theorem wf_X4_15 : Cond.fieldLink RX4 15 "ThermostatColony$Weather" "degrees" "[I" ∈ AL := AL_mem (AL_1 (List.mem_of_getElem? (i := 34) rfl)) rfl
theorem wf_X4_24 : Cond.fieldLink RX4 24 "ThermostatColony$Weather" "size" "I" ∈ AL := AL_mem (AL_1 (List.mem_of_getElem? (i := 35) rfl)) rfl
theorem wf_X4_9 : Cond.fieldLink RX4 9 "ThermostatColony$Weather" "minutes" "[I" ∈ AL := AL_mem (AL_1 (List.mem_of_getElem? (i := 33) rfl)) rfl
theorem wf_X5_15 : Cond.fieldLink RX5 15 "ThermostatColony$WeatherText" "length" "I" ∈ AL := AL_mem (AL_1 (List.mem_of_getElem? (i := 205) rfl)) rfl
theorem wf_X5_19 : Cond.fieldLink RX5 19 "ThermostatColony$Weather" "size" "I" ∈ AL := AL_mem (AL_1 (List.mem_of_getElem? (i := 36) rfl)) rfl
theorem wf_X5_24 : Cond.fieldLink RX5 24 "ThermostatColony$WeatherText" "position" "I" ∈ AL := AL_mem (AL_1 (List.mem_of_getElem? (i := 207) rfl)) rfl
theorem wf_X5_9 : Cond.fieldLink RX5 9 "ThermostatColony$WeatherText" "characters" "[I" ∈ AL := AL_mem (AL_1 (List.mem_of_getElem? (i := 204) rfl)) rfl
theorem wf_X6_10 : Cond.fieldLink RX6 10 "ThermostatColony" "now" "LThermostatColony$Colony;" ∈ AL := AL_mem (AL_1 (List.mem_of_getElem? (i := 217) rfl)) rfl
theorem wf_X6_100 : Cond.fieldLink RX6 100 "ThermostatColony$Room" "heat" "I" ∈ AL := AL_mem (AL_1 (List.mem_of_getElem? (i := 90) rfl)) rfl
theorem wf_X6_112 : Cond.fieldLink RX6 112 "ThermostatColony$Room" "wear" "I" ∈ AL := AL_mem (AL_1 (List.mem_of_getElem? (i := 105) rfl)) rfl
theorem wf_X6_122 : Cond.fieldLink RX6 122 "ThermostatColony$Room" "tripped" "Z" ∈ AL := AL_mem (AL_1 (List.mem_of_getElem? (i := 102) rfl)) rfl
theorem wf_X6_129 : Cond.fieldLink RX6 129 "ThermostatColony$Room" "books" "LThermostatColony$Books;" ∈ AL := AL_mem (AL_1 (List.mem_of_getElem? (i := 81) rfl)) rfl
theorem wf_X6_138 : Cond.fieldLink RX6 138 "ThermostatColony$Colony" "time" "I" ∈ AL := AL_mem (AL_1 (List.mem_of_getElem? (i := 164) rfl)) rfl
theorem wf_X6_141 : Cond.fieldLink RX6 141 "ThermostatColony$Colony" "weather" "LThermostatColony$Weather;" ∈ AL := AL_mem (AL_1 (List.mem_of_getElem? (i := 160) rfl)) rfl
theorem wf_X6_144 : Cond.fieldLink RX6 144 "ThermostatColony$Weather" "size" "I" ∈ AL := AL_mem (AL_1 (List.mem_of_getElem? (i := 37) rfl)) rfl
theorem wf_X6_153 : Cond.fieldLink RX6 153 "ThermostatColony$WeatherText" "length" "I" ∈ AL := AL_mem (AL_1 (List.mem_of_getElem? (i := 206) rfl)) rfl
theorem wf_X6_156 : Cond.fieldLink RX6 156 "ThermostatColony$History" "size" "I" ∈ AL := AL_mem (AL_1 (List.mem_of_getElem? (i := 190) rfl)) rfl
theorem wf_X6_16 : Cond.fieldLink RX6 16 "ThermostatColony" "forecast" "LThermostatColony$Colony;" ∈ AL := AL_mem (AL_1 (List.mem_of_getElem? (i := 218) rfl)) rfl
theorem wf_X6_192 : Cond.fieldLink RX6 192 "ThermostatColony$Room" "fines" "I" ∈ AL := AL_mem (AL_1 (List.mem_of_getElem? (i := 114) rfl)) rfl
theorem wf_X6_202 : Cond.fieldLink RX6 202 "ThermostatColony" "LEAST_NUMBERS" "[I" ∈ AL := AL_mem (AL_2 (List.mem_of_getElem? (i := 103) rfl)) rfl
theorem wf_X6_206 : Cond.fieldLink RX6 206 "ThermostatColony" "MOST_NUMBERS" "[I" ∈ AL := AL_mem (AL_2 (List.mem_of_getElem? (i := 105) rfl)) rfl
theorem wf_X6_22 : Cond.fieldLink RX6 22 "ThermostatColony" "history" "LThermostatColony$History;" ∈ AL := AL_mem (AL_1 (List.mem_of_getElem? (i := 219) rfl)) rfl
theorem wf_X6_29 : Cond.fieldLink RX6 29 "ThermostatColony" "text" "LThermostatColony$WeatherText;" ∈ AL := AL_mem (AL_1 (List.mem_of_getElem? (i := 220) rfl)) rfl
theorem wf_X6_36 : Cond.fieldLink RX6 36 "ThermostatColony" "weatherRead" "LThermostatColony$Weather;" ∈ AL := AL_mem (AL_1 (List.mem_of_getElem? (i := 221) rfl)) rfl
theorem wf_X6_45 : Cond.fieldLink RX6 45 "ThermostatColony$Colony" "roomCount" "I" ∈ AL := AL_mem (AL_1 (List.mem_of_getElem? (i := 162) rfl)) rfl
theorem wf_X6_79 : Cond.fieldLink RX6 79 "ThermostatColony$Room" "point" "I" ∈ AL := AL_mem (AL_1 (List.mem_of_getElem? (i := 92) rfl)) rfl
theorem wf_X6_84 : Cond.fieldLink RX6 84 "ThermostatColony$Room" "band" "I" ∈ AL := AL_mem (AL_1 (List.mem_of_getElem? (i := 94) rfl)) rfl
theorem wf_X7_101 : Cond.fieldLink RX7 101 "ThermostatColonyModel" "number" "I" ∈ AL := AL_mem (AL_3 (List.mem_of_getElem? (i := 114) rfl)) rfl
theorem wf_X7_104 : Cond.fieldLink RX7 104 "ThermostatColonyModel" "points" "I" ∈ AL := AL_mem (AL_3 (List.mem_of_getElem? (i := 112) rfl)) rfl
theorem wf_X7_13 : Cond.fieldLink RX7 13 "ThermostatColonyModel" "past" "[I" ∈ AL := AL_mem (AL_3 (List.mem_of_getElem? (i := 106) rfl)) rfl
theorem wf_X7_16 : Cond.fieldLink RX7 16 "ThermostatColonyModel" "text" "[B" ∈ AL := AL_mem (AL_3 (List.mem_of_getElem? (i := 108) rfl)) rfl
theorem wf_X7_20 : Cond.fieldLink RX7 20 "ThermostatColonyModel" "kept" "[I" ∈ AL := AL_mem (AL_3 (List.mem_of_getElem? (i := 110) rfl)) rfl
theorem wf_X7_23 : Cond.fieldLink RX7 23 "ThermostatColonyModel" "told" "[I" ∈ AL := AL_mem (AL_3 (List.mem_of_getElem? (i := 111) rfl)) rfl
theorem wf_X7_26 : Cond.fieldLink RX7 26 "ThermostatColonyModel" "warmth" "[I" ∈ AL := AL_mem (AL_3 (List.mem_of_getElem? (i := 115) rfl)) rfl
theorem wf_X7_30 : Cond.fieldLink RX7 30 "ThermostatColonyModel" "pasts" "I" ∈ AL := AL_mem (AL_3 (List.mem_of_getElem? (i := 107) rfl)) rfl
theorem wf_X7_7 : Cond.fieldLink RX7 7 "ThermostatColonyModel" "s" "[I" ∈ AL := AL_mem (AL_3 (List.mem_of_getElem? (i := 105) rfl)) rfl
theorem wf_X7_90 : Cond.fieldLink RX7 90 "ThermostatColonyModel" "typed" "I" ∈ AL := AL_mem (AL_3 (List.mem_of_getElem? (i := 109) rfl)) rfl
theorem wf_X7_93 : Cond.fieldLink RX7 93 "ThermostatColonyModel" "next" "I" ∈ AL := AL_mem (AL_3 (List.mem_of_getElem? (i := 113) rfl)) rfl
theorem in_X0 : ∀ w ∈ u_ws RX0 TX0 5, w ∈ AL := AL_all _ [69, 71, 73, 75, 77] (by decide +kernel) (by decide +kernel)
theorem in_X1 : ∀ w ∈ u_ws RX1 TX1 6, w ∈ AL := AL_all _ [165, 167, 169, 171, 173, 175] (by decide +kernel) (by decide +kernel)
theorem in_X2 : ∀ w ∈ u_ws RX2 TX2 3, w ∈ AL := AL_all _ [191, 193, 195] (by decide +kernel) (by decide +kernel)
theorem in_X3 : ∀ w ∈ u_ws RX3 TX3 18, w ∈ AL := AL_all _ [119, 121, 123, 125, 127, 129, 131, 133, 135, 137, 139, 141, 143, 145, 147, 149, 151, 153] (by decide +kernel) (by decide +kernel)
theorem in_X4 : ∀ w ∈ u_ws RX4 TX4 3, w ∈ AL := AL_all _ [38, 40, 42] (by decide +kernel) (by decide +kernel)
theorem in_X5 : ∀ w ∈ u_ws RX5 TX5 3, w ∈ AL := AL_all _ [208, 210, 212] (by decide +kernel) (by decide +kernel)
theorem in_X6 : ∀ w ∈ u_ws RX6 TX6 5, w ∈ AL := AL_all _ [222, 224, 226, 228, 230] (by decide +kernel) (by decide +kernel)
theorem in_X7 : ∀ w ∈ u_ws RX7 TX7 11, w ∈ AL := AL_all _ [596, 598, 600, 602, 604, 606, 608, 610, 612, 614, 616] (by decide +kernel) (by decide +kernel)
section WRAP
variable {p : Program} {l : Launch} {e : Env} {R : Room} {s : State} {m : MethodId} {args : Array Value} {below : List Frame} {meth : Method} {c : Code} {H : Heap} {locs : List Loc} {Q : State → Prop}
variable {cc : ByteArray} {pc nL : Nat} {ls : Array Slot} {rest : List Value} {E : xE} {B n : Nat} {σ : xM} {x0 : Cond} {own : String} {k index : Nat}
theorem g0_0 (CX : xCX p m c cc nL s args x0 own E B 160) (hM : xS E B 160 (layX E B) s σ H locs) (hk : kd k = 0) (hlink : Cond.fieldLink own index "ThermostatColony$Books" "firstHeat" "I" ∈ AL) (hdg : decode cc pc = .ok (.getfield index, 3)) (kk : W p l e R s m args below meth c H locs 0 0 Q (F0 m (pc + 3) ls (.int (σ k 0) :: rest))) : W p l e R s m args below meth c H locs 0 0 Q (F0 m pc ls (.ref (B + k) :: rest)) :=
  x_get CX hM (kdl hk rfl) (ly0 hk _) in_X0 rfl 0 (by decide) hlink rfl hdg kk
theorem g0_1 (CX : xCX p m c cc nL s args x0 own E B 160) (hM : xS E B 160 (layX E B) s σ H locs) (hk : kd k = 0) (hlink : Cond.fieldLink own index "ThermostatColony$Books" "fromHeater" "I" ∈ AL) (hdg : decode cc pc = .ok (.getfield index, 3)) (kk : W p l e R s m args below meth c H locs 0 0 Q (F0 m (pc + 3) ls (.int (σ k 1) :: rest))) : W p l e R s m args below meth c H locs 0 0 Q (F0 m pc ls (.ref (B + k) :: rest)) :=
  x_get CX hM (kdl hk rfl) (ly0 hk _) in_X0 rfl 1 (by decide) hlink rfl hdg kk
theorem g0_2 (CX : xCX p m c cc nL s args x0 own E B 160) (hM : xS E B 160 (layX E B) s σ H locs) (hk : kd k = 0) (hlink : Cond.fieldLink own index "ThermostatColony$Books" "toOutside" "I" ∈ AL) (hdg : decode cc pc = .ok (.getfield index, 3)) (kk : W p l e R s m args below meth c H locs 0 0 Q (F0 m (pc + 3) ls (.int (σ k 2) :: rest))) : W p l e R s m args below meth c H locs 0 0 Q (F0 m pc ls (.ref (B + k) :: rest)) :=
  x_get CX hM (kdl hk rfl) (ly0 hk _) in_X0 rfl 2 (by decide) hlink rfl hdg kk
theorem g0_3 (CX : xCX p m c cc nL s args x0 own E B 160) (hM : xS E B 160 (layX E B) s σ H locs) (hk : kd k = 0) (hlink : Cond.fieldLink own index "ThermostatColony$Books" "toOthers" "I" ∈ AL) (hdg : decode cc pc = .ok (.getfield index, 3)) (kk : W p l e R s m args below meth c H locs 0 0 Q (F0 m (pc + 3) ls (.int (σ k 3) :: rest))) : W p l e R s m args below meth c H locs 0 0 Q (F0 m pc ls (.ref (B + k) :: rest)) :=
  x_get CX hM (kdl hk rfl) (ly0 hk _) in_X0 rfl 3 (by decide) hlink rfl hdg kk
theorem g0_4 (CX : xCX p m c cc nL s args x0 own E B 160) (hM : xS E B 160 (layX E B) s σ H locs) (hk : kd k = 0) (hlink : Cond.fieldLink own index "ThermostatColony$Books" "byWarm" "I" ∈ AL) (hdg : decode cc pc = .ok (.getfield index, 3)) (kk : W p l e R s m args below meth c H locs 0 0 Q (F0 m (pc + 3) ls (.int (σ k 4) :: rest))) : W p l e R s m args below meth c H locs 0 0 Q (F0 m pc ls (.ref (B + k) :: rest)) :=
  x_get CX hM (kdl hk rfl) (ly0 hk _) in_X0 rfl 4 (by decide) hlink rfl hdg kk
theorem g1_0 (CX : xCX p m c cc nL s args x0 own E B 160) (hM : xS E B 160 (layX E B) s σ H locs) (hk : kd k = 1) (hlink : Cond.fieldLink own index "ThermostatColony$Colony" "numbers" "[I" ∈ AL) (hdg : decode cc pc = .ok (.getfield index, 3)) (kk : W p l e R s m args below meth c H locs 0 0 Q (F0 m (pc + 3) ls (.ref (B + (k + 1)) :: rest))) : W p l e R s m args below meth c H locs 0 0 Q (F0 m pc ls (.ref (B + k) :: rest)) :=
  x_get CX hM (kdl hk rfl) (ly1 hk _) in_X1 rfl 0 (by decide) hlink rfl hdg kk
theorem g1_1 (CX : xCX p m c cc nL s args x0 own E B 160) (hM : xS E B 160 (layX E B) s σ H locs) (hk : kd k = 1) (hlink : Cond.fieldLink own index "ThermostatColony$Colony" "rooms" "[LThermostatColony$Room;" ∈ AL) (hdg : decode cc pc = .ok (.getfield index, 3)) (kk : W p l e R s m args below meth c H locs 0 0 Q (F0 m (pc + 3) ls (.ref (B + (k + 2)) :: rest))) : W p l e R s m args below meth c H locs 0 0 Q (F0 m pc ls (.ref (B + k) :: rest)) :=
  x_get CX hM (kdl hk rfl) (ly1 hk _) in_X1 rfl 1 (by decide) hlink rfl hdg kk
theorem g1_2 (CX : xCX p m c cc nL s args x0 own E B 160) (hM : xS E B 160 (layX E B) s σ H locs) (hk : kd k = 1) (hlink : Cond.fieldLink own index "ThermostatColony$Colony" "links" "[I" ∈ AL) (hdg : decode cc pc = .ok (.getfield index, 3)) (kk : W p l e R s m args below meth c H locs 0 0 Q (F0 m (pc + 3) ls (.ref (B + (k + 3)) :: rest))) : W p l e R s m args below meth c H locs 0 0 Q (F0 m pc ls (.ref (B + k) :: rest)) :=
  x_get CX hM (kdl hk rfl) (ly1 hk _) in_X1 rfl 2 (by decide) hlink rfl hdg kk
theorem g1_3 (CX : xCX p m c cc nL s args x0 own E B 160) (hM : xS E B 160 (layX E B) s σ H locs) (hk : kd k = 1) (hlink : Cond.fieldLink own index "ThermostatColony$Colony" "weather" "LThermostatColony$Weather;" ∈ AL) (hdg : decode cc pc = .ok (.getfield index, 3)) (kk : W p l e R s m args below meth c H locs 0 0 Q (F0 m (pc + 3) ls (.ref (B + (k + 4)) :: rest))) : W p l e R s m args below meth c H locs 0 0 Q (F0 m pc ls (.ref (B + k) :: rest)) :=
  x_get CX hM (kdl hk rfl) (ly1 hk _) in_X1 rfl 3 (by decide) hlink rfl hdg kk
theorem g1_4 (CX : xCX p m c cc nL s args x0 own E B 160) (hM : xS E B 160 (layX E B) s σ H locs) (hk : kd k = 1) (hlink : Cond.fieldLink own index "ThermostatColony$Colony" "roomCount" "I" ∈ AL) (hdg : decode cc pc = .ok (.getfield index, 3)) (kk : W p l e R s m args below meth c H locs 0 0 Q (F0 m (pc + 3) ls (.int (σ k 4) :: rest))) : W p l e R s m args below meth c H locs 0 0 Q (F0 m pc ls (.ref (B + k) :: rest)) :=
  x_get CX hM (kdl hk rfl) (ly1 hk _) in_X1 rfl 4 (by decide) hlink rfl hdg kk
theorem g1_5 (CX : xCX p m c cc nL s args x0 own E B 160) (hM : xS E B 160 (layX E B) s σ H locs) (hk : kd k = 1) (hlink : Cond.fieldLink own index "ThermostatColony$Colony" "time" "I" ∈ AL) (hdg : decode cc pc = .ok (.getfield index, 3)) (kk : W p l e R s m args below meth c H locs 0 0 Q (F0 m (pc + 3) ls (.int (σ k 5) :: rest))) : W p l e R s m args below meth c H locs 0 0 Q (F0 m pc ls (.ref (B + k) :: rest)) :=
  x_get CX hM (kdl hk rfl) (ly1 hk _) in_X1 rfl 5 (by decide) hlink rfl hdg kk
theorem g2_0 (CX : xCX p m c cc nL s args x0 own E B 160) (hM : xS E B 160 (layX E B) s σ H locs) (hk : kd k = 2) (hlink : Cond.fieldLink own index "ThermostatColony$History" "states" "[LThermostatColony$Colony;" ∈ AL) (hdg : decode cc pc = .ok (.getfield index, 3)) (kk : W p l e R s m args below meth c H locs 0 0 Q (F0 m (pc + 3) ls (.ref (B + (k + 1)) :: rest))) : W p l e R s m args below meth c H locs 0 0 Q (F0 m pc ls (.ref (B + k) :: rest)) :=
  x_get CX hM (kdl hk rfl) (ly2 hk _) in_X2 rfl 0 (by decide) hlink rfl hdg kk
theorem g2_1 (CX : xCX p m c cc nL s args x0 own E B 160) (hM : xS E B 160 (layX E B) s σ H locs) (hk : kd k = 2) (hlink : Cond.fieldLink own index "ThermostatColony$History" "next" "I" ∈ AL) (hdg : decode cc pc = .ok (.getfield index, 3)) (kk : W p l e R s m args below meth c H locs 0 0 Q (F0 m (pc + 3) ls (.int (σ k 1) :: rest))) : W p l e R s m args below meth c H locs 0 0 Q (F0 m pc ls (.ref (B + k) :: rest)) :=
  x_get CX hM (kdl hk rfl) (ly2 hk _) in_X2 rfl 1 (by decide) hlink rfl hdg kk
theorem g2_2 (CX : xCX p m c cc nL s args x0 own E B 160) (hM : xS E B 160 (layX E B) s σ H locs) (hk : kd k = 2) (hlink : Cond.fieldLink own index "ThermostatColony$History" "size" "I" ∈ AL) (hdg : decode cc pc = .ok (.getfield index, 3)) (kk : W p l e R s m args below meth c H locs 0 0 Q (F0 m (pc + 3) ls (.int (σ k 2) :: rest))) : W p l e R s m args below meth c H locs 0 0 Q (F0 m pc ls (.ref (B + k) :: rest)) :=
  x_get CX hM (kdl hk rfl) (ly2 hk _) in_X2 rfl 2 (by decide) hlink rfl hdg kk
theorem g3_0 (CX : xCX p m c cc nL s args x0 own E B 160) (hM : xS E B 160 (layX E B) s σ H locs) (hk : kd k = 3) (hlink : Cond.fieldLink own index "ThermostatColony$Room" "books" "LThermostatColony$Books;" ∈ AL) (hdg : decode cc pc = .ok (.getfield index, 3)) (kk : W p l e R s m args below meth c H locs 0 0 Q (F0 m (pc + 3) ls (.ref (B + (k + 1)) :: rest))) : W p l e R s m args below meth c H locs 0 0 Q (F0 m pc ls (.ref (B + k) :: rest)) :=
  x_get CX hM (kdl hk rfl) (ly3 hk _) in_X3 rfl 0 (by decide) hlink rfl hdg kk
theorem g3_1 (CX : xCX p m c cc nL s args x0 own E B 160) (hM : xS E B 160 (layX E B) s σ H locs) (hk : kd k = 3) (hlink : Cond.fieldLink own index "ThermostatColony$Room" "capacity" "I" ∈ AL) (hdg : decode cc pc = .ok (.getfield index, 3)) (kk : W p l e R s m args below meth c H locs 0 0 Q (F0 m (pc + 3) ls (.int (σ k 1) :: rest))) : W p l e R s m args below meth c H locs 0 0 Q (F0 m pc ls (.ref (B + k) :: rest)) :=
  x_get CX hM (kdl hk rfl) (ly3 hk _) in_X3 rfl 1 (by decide) hlink rfl hdg kk
theorem g3_2 (CX : xCX p m c cc nL s args x0 own E B 160) (hM : xS E B 160 (layX E B) s σ H locs) (hk : kd k = 3) (hlink : Cond.fieldLink own index "ThermostatColony$Room" "power" "I" ∈ AL) (hdg : decode cc pc = .ok (.getfield index, 3)) (kk : W p l e R s m args below meth c H locs 0 0 Q (F0 m (pc + 3) ls (.int (σ k 2) :: rest))) : W p l e R s m args below meth c H locs 0 0 Q (F0 m pc ls (.ref (B + k) :: rest)) :=
  x_get CX hM (kdl hk rfl) (ly3 hk _) in_X3 rfl 2 (by decide) hlink rfl hdg kk
theorem g3_3 (CX : xCX p m c cc nL s args x0 own E B 160) (hM : xS E B 160 (layX E B) s σ H locs) (hk : kd k = 3) (hlink : Cond.fieldLink own index "ThermostatColony$Room" "leak" "I" ∈ AL) (hdg : decode cc pc = .ok (.getfield index, 3)) (kk : W p l e R s m args below meth c H locs 0 0 Q (F0 m (pc + 3) ls (.int (σ k 3) :: rest))) : W p l e R s m args below meth c H locs 0 0 Q (F0 m pc ls (.ref (B + k) :: rest)) :=
  x_get CX hM (kdl hk rfl) (ly3 hk _) in_X3 rfl 3 (by decide) hlink rfl hdg kk
theorem g3_4 (CX : xCX p m c cc nL s args x0 own E B 160) (hM : xS E B 160 (layX E B) s σ H locs) (hk : kd k = 3) (hlink : Cond.fieldLink own index "ThermostatColony$Room" "heat" "I" ∈ AL) (hdg : decode cc pc = .ok (.getfield index, 3)) (kk : W p l e R s m args below meth c H locs 0 0 Q (F0 m (pc + 3) ls (.int (σ k 4) :: rest))) : W p l e R s m args below meth c H locs 0 0 Q (F0 m pc ls (.ref (B + k) :: rest)) :=
  x_get CX hM (kdl hk rfl) (ly3 hk _) in_X3 rfl 4 (by decide) hlink rfl hdg kk
theorem g3_5 (CX : xCX p m c cc nL s args x0 own E B 160) (hM : xS E B 160 (layX E B) s σ H locs) (hk : kd k = 3) (hlink : Cond.fieldLink own index "ThermostatColony$Room" "point" "I" ∈ AL) (hdg : decode cc pc = .ok (.getfield index, 3)) (kk : W p l e R s m args below meth c H locs 0 0 Q (F0 m (pc + 3) ls (.int (σ k 5) :: rest))) : W p l e R s m args below meth c H locs 0 0 Q (F0 m pc ls (.ref (B + k) :: rest)) :=
  x_get CX hM (kdl hk rfl) (ly3 hk _) in_X3 rfl 5 (by decide) hlink rfl hdg kk
theorem g3_6 (CX : xCX p m c cc nL s args x0 own E B 160) (hM : xS E B 160 (layX E B) s σ H locs) (hk : kd k = 3) (hlink : Cond.fieldLink own index "ThermostatColony$Room" "band" "I" ∈ AL) (hdg : decode cc pc = .ok (.getfield index, 3)) (kk : W p l e R s m args below meth c H locs 0 0 Q (F0 m (pc + 3) ls (.int (σ k 6) :: rest))) : W p l e R s m args below meth c H locs 0 0 Q (F0 m pc ls (.ref (B + k) :: rest)) :=
  x_get CX hM (kdl hk rfl) (ly3 hk _) in_X3 rfl 6 (by decide) hlink rfl hdg kk
theorem g3_7 (CX : xCX p m c cc nL s args x0 own E B 160) (hM : xS E B 160 (layX E B) s σ H locs) (hk : kd k = 3) (hlink : Cond.fieldLink own index "ThermostatColony$Room" "blade" "I" ∈ AL) (hdg : decode cc pc = .ok (.getfield index, 3)) (kk : W p l e R s m args below meth c H locs 0 0 Q (F0 m (pc + 3) ls (.int (σ k 7) :: rest))) : W p l e R s m args below meth c H locs 0 0 Q (F0 m pc ls (.ref (B + k) :: rest)) :=
  x_get CX hM (kdl hk rfl) (ly3 hk _) in_X3 rfl 7 (by decide) hlink rfl hdg kk
theorem g3_8 (CX : xCX p m c cc nL s args x0 own E B 160) (hM : xS E B 160 (layX E B) s σ H locs) (hk : kd k = 3) (hlink : Cond.fieldLink own index "ThermostatColony$Room" "closed" "Z" ∈ AL) (hdg : decode cc pc = .ok (.getfield index, 3)) (kk : W p l e R s m args below meth c H locs 0 0 Q (F0 m (pc + 3) ls (.int (bz (σ k 8)) :: rest))) : W p l e R s m args below meth c H locs 0 0 Q (F0 m pc ls (.ref (B + k) :: rest)) :=
  x_get CX hM (kdl hk rfl) (ly3 hk _) in_X3 rfl 8 (by decide) hlink rfl hdg kk
theorem g3_9 (CX : xCX p m c cc nL s args x0 own E B 160) (hM : xS E B 160 (layX E B) s σ H locs) (hk : kd k = 3) (hlink : Cond.fieldLink own index "ThermostatColony$Room" "welded" "Z" ∈ AL) (hdg : decode cc pc = .ok (.getfield index, 3)) (kk : W p l e R s m args below meth c H locs 0 0 Q (F0 m (pc + 3) ls (.int (bz (σ k 9)) :: rest))) : W p l e R s m args below meth c H locs 0 0 Q (F0 m pc ls (.ref (B + k) :: rest)) :=
  x_get CX hM (kdl hk rfl) (ly3 hk _) in_X3 rfl 9 (by decide) hlink rfl hdg kk
theorem g3_10 (CX : xCX p m c cc nL s args x0 own E B 160) (hM : xS E B 160 (layX E B) s σ H locs) (hk : kd k = 3) (hlink : Cond.fieldLink own index "ThermostatColony$Room" "tripped" "Z" ∈ AL) (hdg : decode cc pc = .ok (.getfield index, 3)) (kk : W p l e R s m args below meth c H locs 0 0 Q (F0 m (pc + 3) ls (.int (bz (σ k 10)) :: rest))) : W p l e R s m args below meth c H locs 0 0 Q (F0 m pc ls (.ref (B + k) :: rest)) :=
  x_get CX hM (kdl hk rfl) (ly3 hk _) in_X3 rfl 10 (by decide) hlink rfl hdg kk
theorem g3_11 (CX : xCX p m c cc nL s args x0 own E B 160) (hM : xS E B 160 (layX E B) s σ H locs) (hk : kd k = 3) (hlink : Cond.fieldLink own index "ThermostatColony$Room" "wear" "I" ∈ AL) (hdg : decode cc pc = .ok (.getfield index, 3)) (kk : W p l e R s m args below meth c H locs 0 0 Q (F0 m (pc + 3) ls (.int (σ k 11) :: rest))) : W p l e R s m args below meth c H locs 0 0 Q (F0 m pc ls (.ref (B + k) :: rest)) :=
  x_get CX hM (kdl hk rfl) (ly3 hk _) in_X3 rfl 11 (by decide) hlink rfl hdg kk
theorem g3_12 (CX : xCX p m c cc nL s args x0 own E B 160) (hM : xS E B 160 (layX E B) s σ H locs) (hk : kd k = 3) (hlink : Cond.fieldLink own index "ThermostatColony$Room" "attempts" "I" ∈ AL) (hdg : decode cc pc = .ok (.getfield index, 3)) (kk : W p l e R s m args below meth c H locs 0 0 Q (F0 m (pc + 3) ls (.int (σ k 12) :: rest))) : W p l e R s m args below meth c H locs 0 0 Q (F0 m pc ls (.ref (B + k) :: rest)) :=
  x_get CX hM (kdl hk rfl) (ly3 hk _) in_X3 rfl 12 (by decide) hlink rfl hdg kk
theorem g3_13 (CX : xCX p m c cc nL s args x0 own E B 160) (hM : xS E B 160 (layX E B) s σ H locs) (hk : kd k = 3) (hlink : Cond.fieldLink own index "ThermostatColony$Room" "closings" "I" ∈ AL) (hdg : decode cc pc = .ok (.getfield index, 3)) (kk : W p l e R s m args below meth c H locs 0 0 Q (F0 m (pc + 3) ls (.int (σ k 13) :: rest))) : W p l e R s m args below meth c H locs 0 0 Q (F0 m pc ls (.ref (B + k) :: rest)) :=
  x_get CX hM (kdl hk rfl) (ly3 hk _) in_X3 rfl 13 (by decide) hlink rfl hdg kk
theorem g3_14 (CX : xCX p m c cc nL s args x0 own E B 160) (hM : xS E B 160 (layX E B) s σ H locs) (hk : kd k = 3) (hlink : Cond.fieldLink own index "ThermostatColony$Room" "latestClosing" "I" ∈ AL) (hdg : decode cc pc = .ok (.getfield index, 3)) (kk : W p l e R s m args below meth c H locs 0 0 Q (F0 m (pc + 3) ls (.int (σ k 14) :: rest))) : W p l e R s m args below meth c H locs 0 0 Q (F0 m pc ls (.ref (B + k) :: rest)) :=
  x_get CX hM (kdl hk rfl) (ly3 hk _) in_X3 rfl 14 (by decide) hlink rfl hdg kk
theorem g3_15 (CX : xCX p m c cc nL s args x0 own E B 160) (hM : xS E B 160 (layX E B) s σ H locs) (hk : kd k = 3) (hlink : Cond.fieldLink own index "ThermostatColony$Room" "fines" "I" ∈ AL) (hdg : decode cc pc = .ok (.getfield index, 3)) (kk : W p l e R s m args below meth c H locs 0 0 Q (F0 m (pc + 3) ls (.int (σ k 15) :: rest))) : W p l e R s m args below meth c H locs 0 0 Q (F0 m pc ls (.ref (B + k) :: rest)) :=
  x_get CX hM (kdl hk rfl) (ly3 hk _) in_X3 rfl 15 (by decide) hlink rfl hdg kk
theorem g3_16 (CX : xCX p m c cc nL s args x0 own E B 160) (hM : xS E B 160 (layX E B) s σ H locs) (hk : kd k = 3) (hlink : Cond.fieldLink own index "ThermostatColony$Room" "suspectMinutes" "I" ∈ AL) (hdg : decode cc pc = .ok (.getfield index, 3)) (kk : W p l e R s m args below meth c H locs 0 0 Q (F0 m (pc + 3) ls (.int (σ k 16) :: rest))) : W p l e R s m args below meth c H locs 0 0 Q (F0 m pc ls (.ref (B + k) :: rest)) :=
  x_get CX hM (kdl hk rfl) (ly3 hk _) in_X3 rfl 16 (by decide) hlink rfl hdg kk
theorem g3_17 (CX : xCX p m c cc nL s args x0 own E B 160) (hM : xS E B 160 (layX E B) s σ H locs) (hk : kd k = 3) (hlink : Cond.fieldLink own index "ThermostatColony$Room" "minuteTemperature" "I" ∈ AL) (hdg : decode cc pc = .ok (.getfield index, 3)) (kk : W p l e R s m args below meth c H locs 0 0 Q (F0 m (pc + 3) ls (.int (σ k 17) :: rest))) : W p l e R s m args below meth c H locs 0 0 Q (F0 m pc ls (.ref (B + k) :: rest)) :=
  x_get CX hM (kdl hk rfl) (ly3 hk _) in_X3 rfl 17 (by decide) hlink rfl hdg kk
theorem g4_0 (CX : xCX p m c cc nL s args x0 own E B 160) (hM : xS E B 160 (layX E B) s σ H locs) (hk : kd k = 4) (hlink : Cond.fieldLink own index "ThermostatColony$Weather" "minutes" "[I" ∈ AL) (hdg : decode cc pc = .ok (.getfield index, 3)) (kk : W p l e R s m args below meth c H locs 0 0 Q (F0 m (pc + 3) ls (.ref (B + (k + 1)) :: rest))) : W p l e R s m args below meth c H locs 0 0 Q (F0 m pc ls (.ref (B + k) :: rest)) :=
  x_get CX hM (kdl hk rfl) (ly4 hk _) in_X4 rfl 0 (by decide) hlink rfl hdg kk
theorem g4_1 (CX : xCX p m c cc nL s args x0 own E B 160) (hM : xS E B 160 (layX E B) s σ H locs) (hk : kd k = 4) (hlink : Cond.fieldLink own index "ThermostatColony$Weather" "degrees" "[I" ∈ AL) (hdg : decode cc pc = .ok (.getfield index, 3)) (kk : W p l e R s m args below meth c H locs 0 0 Q (F0 m (pc + 3) ls (.ref (B + (k + 2)) :: rest))) : W p l e R s m args below meth c H locs 0 0 Q (F0 m pc ls (.ref (B + k) :: rest)) :=
  x_get CX hM (kdl hk rfl) (ly4 hk _) in_X4 rfl 1 (by decide) hlink rfl hdg kk
theorem g4_2 (CX : xCX p m c cc nL s args x0 own E B 160) (hM : xS E B 160 (layX E B) s σ H locs) (hk : kd k = 4) (hlink : Cond.fieldLink own index "ThermostatColony$Weather" "size" "I" ∈ AL) (hdg : decode cc pc = .ok (.getfield index, 3)) (kk : W p l e R s m args below meth c H locs 0 0 Q (F0 m (pc + 3) ls (.int (σ k 2) :: rest))) : W p l e R s m args below meth c H locs 0 0 Q (F0 m pc ls (.ref (B + k) :: rest)) :=
  x_get CX hM (kdl hk rfl) (ly4 hk _) in_X4 rfl 2 (by decide) hlink rfl hdg kk
theorem g5_0 (CX : xCX p m c cc nL s args x0 own E B 160) (hM : xS E B 160 (layX E B) s σ H locs) (hk : kd k = 5) (hlink : Cond.fieldLink own index "ThermostatColony$WeatherText" "characters" "[I" ∈ AL) (hdg : decode cc pc = .ok (.getfield index, 3)) (kk : W p l e R s m args below meth c H locs 0 0 Q (F0 m (pc + 3) ls (.ref (B + (k + 1)) :: rest))) : W p l e R s m args below meth c H locs 0 0 Q (F0 m pc ls (.ref (B + k) :: rest)) :=
  x_get CX hM (kdl hk rfl) (ly5 hk _) in_X5 rfl 0 (by decide) hlink rfl hdg kk
theorem g5_1 (CX : xCX p m c cc nL s args x0 own E B 160) (hM : xS E B 160 (layX E B) s σ H locs) (hk : kd k = 5) (hlink : Cond.fieldLink own index "ThermostatColony$WeatherText" "length" "I" ∈ AL) (hdg : decode cc pc = .ok (.getfield index, 3)) (kk : W p l e R s m args below meth c H locs 0 0 Q (F0 m (pc + 3) ls (.int (σ k 1) :: rest))) : W p l e R s m args below meth c H locs 0 0 Q (F0 m pc ls (.ref (B + k) :: rest)) :=
  x_get CX hM (kdl hk rfl) (ly5 hk _) in_X5 rfl 1 (by decide) hlink rfl hdg kk
theorem g5_2 (CX : xCX p m c cc nL s args x0 own E B 160) (hM : xS E B 160 (layX E B) s σ H locs) (hk : kd k = 5) (hlink : Cond.fieldLink own index "ThermostatColony$WeatherText" "position" "I" ∈ AL) (hdg : decode cc pc = .ok (.getfield index, 3)) (kk : W p l e R s m args below meth c H locs 0 0 Q (F0 m (pc + 3) ls (.int (σ k 2) :: rest))) : W p l e R s m args below meth c H locs 0 0 Q (F0 m pc ls (.ref (B + k) :: rest)) :=
  x_get CX hM (kdl hk rfl) (ly5 hk _) in_X5 rfl 2 (by decide) hlink rfl hdg kk
theorem g6_0 (CX : xCX p m c cc nL s args x0 own E B 160) (hM : xS E B 160 (layX E B) s σ H locs) (hk : kd k = 6) (hlink : Cond.fieldLink own index "ThermostatColony" "now" "LThermostatColony$Colony;" ∈ AL) (hdg : decode cc pc = .ok (.getfield index, 3)) (kk : W p l e R s m args below meth c H locs 0 0 Q (F0 m (pc + 3) ls (.ref (B + (k + 1)) :: rest))) : W p l e R s m args below meth c H locs 0 0 Q (F0 m pc ls (.ref (B + k) :: rest)) :=
  x_get CX hM (kdl hk rfl) (ly6 hk _) in_X6 rfl 0 (by decide) hlink rfl hdg kk
theorem g6_1 (CX : xCX p m c cc nL s args x0 own E B 160) (hM : xS E B 160 (layX E B) s σ H locs) (hk : kd k = 6) (hlink : Cond.fieldLink own index "ThermostatColony" "forecast" "LThermostatColony$Colony;" ∈ AL) (hdg : decode cc pc = .ok (.getfield index, 3)) (kk : W p l e R s m args below meth c H locs 0 0 Q (F0 m (pc + 3) ls (.ref (B + (k + 20)) :: rest))) : W p l e R s m args below meth c H locs 0 0 Q (F0 m pc ls (.ref (B + k) :: rest)) :=
  x_get CX hM (kdl hk rfl) (ly6 hk _) in_X6 rfl 1 (by decide) hlink rfl hdg kk
theorem g6_2 (CX : xCX p m c cc nL s args x0 own E B 160) (hM : xS E B 160 (layX E B) s σ H locs) (hk : kd k = 6) (hlink : Cond.fieldLink own index "ThermostatColony" "history" "LThermostatColony$History;" ∈ AL) (hdg : decode cc pc = .ok (.getfield index, 3)) (kk : W p l e R s m args below meth c H locs 0 0 Q (F0 m (pc + 3) ls (.ref (B + (k + 39)) :: rest))) : W p l e R s m args below meth c H locs 0 0 Q (F0 m pc ls (.ref (B + k) :: rest)) :=
  x_get CX hM (kdl hk rfl) (ly6 hk _) in_X6 rfl 2 (by decide) hlink rfl hdg kk
theorem g6_3 (CX : xCX p m c cc nL s args x0 own E B 160) (hM : xS E B 160 (layX E B) s σ H locs) (hk : kd k = 6) (hlink : Cond.fieldLink own index "ThermostatColony" "text" "LThermostatColony$WeatherText;" ∈ AL) (hdg : decode cc pc = .ok (.getfield index, 3)) (kk : W p l e R s m args below meth c H locs 0 0 Q (F0 m (pc + 3) ls (.ref (B + (k + 155)) :: rest))) : W p l e R s m args below meth c H locs 0 0 Q (F0 m pc ls (.ref (B + k) :: rest)) :=
  x_get CX hM (kdl hk rfl) (ly6 hk _) in_X6 rfl 3 (by decide) hlink rfl hdg kk
theorem g6_4 (CX : xCX p m c cc nL s args x0 own E B 160) (hM : xS E B 160 (layX E B) s σ H locs) (hk : kd k = 6) (hlink : Cond.fieldLink own index "ThermostatColony" "weatherRead" "LThermostatColony$Weather;" ∈ AL) (hdg : decode cc pc = .ok (.getfield index, 3)) (kk : W p l e R s m args below meth c H locs 0 0 Q (F0 m (pc + 3) ls (.ref (B + (k + 157)) :: rest))) : W p l e R s m args below meth c H locs 0 0 Q (F0 m pc ls (.ref (B + k) :: rest)) :=
  x_get CX hM (kdl hk rfl) (ly6 hk _) in_X6 rfl 4 (by decide) hlink rfl hdg kk
theorem g7_0 (CX : xCX p m c cc nL s args x0 own E B 7) (hM : xS E B 7 (layY E B) s σ H locs) (hk : kdY k = 7) (hlink : Cond.fieldLink own index "ThermostatColonyModel" "s" "[I" ∈ AL) (hdg : decode cc pc = .ok (.getfield index, 3)) (kk : W p l e R s m args below meth c H locs 0 0 Q (F0 m (pc + 3) ls (.ref (B + (k + 1)) :: rest))) : W p l e R s m args below meth c H locs 0 0 Q (F0 m pc ls (.ref (B + k) :: rest)) :=
  x_get CX hM (kdYl hk rfl) (ly7 hk _) in_X7 rfl 0 (by decide) hlink rfl hdg kk
theorem g7_1 (CX : xCX p m c cc nL s args x0 own E B 7) (hM : xS E B 7 (layY E B) s σ H locs) (hk : kdY k = 7) (hlink : Cond.fieldLink own index "ThermostatColonyModel" "past" "[I" ∈ AL) (hdg : decode cc pc = .ok (.getfield index, 3)) (kk : W p l e R s m args below meth c H locs 0 0 Q (F0 m (pc + 3) ls (.ref (B + (k + 2)) :: rest))) : W p l e R s m args below meth c H locs 0 0 Q (F0 m pc ls (.ref (B + k) :: rest)) :=
  x_get CX hM (kdYl hk rfl) (ly7 hk _) in_X7 rfl 1 (by decide) hlink rfl hdg kk
theorem g7_2 (CX : xCX p m c cc nL s args x0 own E B 7) (hM : xS E B 7 (layY E B) s σ H locs) (hk : kdY k = 7) (hlink : Cond.fieldLink own index "ThermostatColonyModel" "pasts" "I" ∈ AL) (hdg : decode cc pc = .ok (.getfield index, 3)) (kk : W p l e R s m args below meth c H locs 0 0 Q (F0 m (pc + 3) ls (.int (σ k 2) :: rest))) : W p l e R s m args below meth c H locs 0 0 Q (F0 m pc ls (.ref (B + k) :: rest)) :=
  x_get CX hM (kdYl hk rfl) (ly7 hk _) in_X7 rfl 2 (by decide) hlink rfl hdg kk
theorem g7_3 (CX : xCX p m c cc nL s args x0 own E B 7) (hM : xS E B 7 (layY E B) s σ H locs) (hk : kdY k = 7) (hlink : Cond.fieldLink own index "ThermostatColonyModel" "text" "[B" ∈ AL) (hdg : decode cc pc = .ok (.getfield index, 3)) (kk : W p l e R s m args below meth c H locs 0 0 Q (F0 m (pc + 3) ls (.ref (B + (k + 3)) :: rest))) : W p l e R s m args below meth c H locs 0 0 Q (F0 m pc ls (.ref (B + k) :: rest)) :=
  x_get CX hM (kdYl hk rfl) (ly7 hk _) in_X7 rfl 3 (by decide) hlink rfl hdg kk
theorem g7_4 (CX : xCX p m c cc nL s args x0 own E B 7) (hM : xS E B 7 (layY E B) s σ H locs) (hk : kdY k = 7) (hlink : Cond.fieldLink own index "ThermostatColonyModel" "typed" "I" ∈ AL) (hdg : decode cc pc = .ok (.getfield index, 3)) (kk : W p l e R s m args below meth c H locs 0 0 Q (F0 m (pc + 3) ls (.int (σ k 4) :: rest))) : W p l e R s m args below meth c H locs 0 0 Q (F0 m pc ls (.ref (B + k) :: rest)) :=
  x_get CX hM (kdYl hk rfl) (ly7 hk _) in_X7 rfl 4 (by decide) hlink rfl hdg kk
theorem g7_5 (CX : xCX p m c cc nL s args x0 own E B 7) (hM : xS E B 7 (layY E B) s σ H locs) (hk : kdY k = 7) (hlink : Cond.fieldLink own index "ThermostatColonyModel" "kept" "[I" ∈ AL) (hdg : decode cc pc = .ok (.getfield index, 3)) (kk : W p l e R s m args below meth c H locs 0 0 Q (F0 m (pc + 3) ls (.ref (B + (k + 4)) :: rest))) : W p l e R s m args below meth c H locs 0 0 Q (F0 m pc ls (.ref (B + k) :: rest)) :=
  x_get CX hM (kdYl hk rfl) (ly7 hk _) in_X7 rfl 5 (by decide) hlink rfl hdg kk
theorem g7_6 (CX : xCX p m c cc nL s args x0 own E B 7) (hM : xS E B 7 (layY E B) s σ H locs) (hk : kdY k = 7) (hlink : Cond.fieldLink own index "ThermostatColonyModel" "told" "[I" ∈ AL) (hdg : decode cc pc = .ok (.getfield index, 3)) (kk : W p l e R s m args below meth c H locs 0 0 Q (F0 m (pc + 3) ls (.ref (B + (k + 5)) :: rest))) : W p l e R s m args below meth c H locs 0 0 Q (F0 m pc ls (.ref (B + k) :: rest)) :=
  x_get CX hM (kdYl hk rfl) (ly7 hk _) in_X7 rfl 6 (by decide) hlink rfl hdg kk
theorem g7_7 (CX : xCX p m c cc nL s args x0 own E B 7) (hM : xS E B 7 (layY E B) s σ H locs) (hk : kdY k = 7) (hlink : Cond.fieldLink own index "ThermostatColonyModel" "points" "I" ∈ AL) (hdg : decode cc pc = .ok (.getfield index, 3)) (kk : W p l e R s m args below meth c H locs 0 0 Q (F0 m (pc + 3) ls (.int (σ k 7) :: rest))) : W p l e R s m args below meth c H locs 0 0 Q (F0 m pc ls (.ref (B + k) :: rest)) :=
  x_get CX hM (kdYl hk rfl) (ly7 hk _) in_X7 rfl 7 (by decide) hlink rfl hdg kk
theorem g7_8 (CX : xCX p m c cc nL s args x0 own E B 7) (hM : xS E B 7 (layY E B) s σ H locs) (hk : kdY k = 7) (hlink : Cond.fieldLink own index "ThermostatColonyModel" "next" "I" ∈ AL) (hdg : decode cc pc = .ok (.getfield index, 3)) (kk : W p l e R s m args below meth c H locs 0 0 Q (F0 m (pc + 3) ls (.int (σ k 8) :: rest))) : W p l e R s m args below meth c H locs 0 0 Q (F0 m pc ls (.ref (B + k) :: rest)) :=
  x_get CX hM (kdYl hk rfl) (ly7 hk _) in_X7 rfl 8 (by decide) hlink rfl hdg kk
theorem g7_9 (CX : xCX p m c cc nL s args x0 own E B 7) (hM : xS E B 7 (layY E B) s σ H locs) (hk : kdY k = 7) (hlink : Cond.fieldLink own index "ThermostatColonyModel" "number" "I" ∈ AL) (hdg : decode cc pc = .ok (.getfield index, 3)) (kk : W p l e R s m args below meth c H locs 0 0 Q (F0 m (pc + 3) ls (.int (σ k 9) :: rest))) : W p l e R s m args below meth c H locs 0 0 Q (F0 m pc ls (.ref (B + k) :: rest)) :=
  x_get CX hM (kdYl hk rfl) (ly7 hk _) in_X7 rfl 9 (by decide) hlink rfl hdg kk
theorem g7_10 (CX : xCX p m c cc nL s args x0 own E B 7) (hM : xS E B 7 (layY E B) s σ H locs) (hk : kdY k = 7) (hlink : Cond.fieldLink own index "ThermostatColonyModel" "warmth" "[I" ∈ AL) (hdg : decode cc pc = .ok (.getfield index, 3)) (kk : W p l e R s m args below meth c H locs 0 0 Q (F0 m (pc + 3) ls (.ref (B + (k + 6)) :: rest))) : W p l e R s m args below meth c H locs 0 0 Q (F0 m pc ls (.ref (B + k) :: rest)) :=
  x_get CX hM (kdYl hk rfl) (ly7 hk _) in_X7 rfl 10 (by decide) hlink rfl hdg kk
theorem p0_0 {y : Int32} (CX : xCX p m c cc nL s args x0 own E B 160) (hM : xS E B 160 (layX E B) s σ H locs) (hk : kd k = 0) (hlink : Cond.fieldLink own index "ThermostatColony$Books" "firstHeat" "I" ∈ AL) (hdg : decode cc pc = .ok (.putfield index, 3)) (kk : ∀ (H1 : Heap) (locs1 : List Loc) (σ1 : xM), σ1 = xup σ k 0 y → xS E B 160 (layX E B) s σ1 H1 locs1 → W p l e R s m args below meth c H1 locs1 0 0 Q (F0 m (pc + 3) ls rest)) : W p l e R s m args below meth c H locs 0 0 Q (F0 m pc ls (.int (y) :: .ref (B + k) :: rest)) :=
  x_put (ty := .int) CX hM (y) y (kdl hk rfl) (ly0 hk _) in_X0 tyX0 tyX0_ok nmX0 rfl 0 (by decide) hlink rfl rfl rfl rfl (show 0 < 5 by decide) (by rw [ly0 hk]; rfl) hdg kk
theorem p0_1 {y : Int32} (CX : xCX p m c cc nL s args x0 own E B 160) (hM : xS E B 160 (layX E B) s σ H locs) (hk : kd k = 0) (hlink : Cond.fieldLink own index "ThermostatColony$Books" "fromHeater" "I" ∈ AL) (hdg : decode cc pc = .ok (.putfield index, 3)) (kk : ∀ (H1 : Heap) (locs1 : List Loc) (σ1 : xM), σ1 = xup σ k 1 y → xS E B 160 (layX E B) s σ1 H1 locs1 → W p l e R s m args below meth c H1 locs1 0 0 Q (F0 m (pc + 3) ls rest)) : W p l e R s m args below meth c H locs 0 0 Q (F0 m pc ls (.int (y) :: .ref (B + k) :: rest)) :=
  x_put (ty := .int) CX hM (y) y (kdl hk rfl) (ly0 hk _) in_X0 tyX0 tyX0_ok nmX0 rfl 1 (by decide) hlink rfl rfl rfl rfl (show 1 < 5 by decide) (by rw [ly0 hk]; rfl) hdg kk
theorem p0_2 {y : Int32} (CX : xCX p m c cc nL s args x0 own E B 160) (hM : xS E B 160 (layX E B) s σ H locs) (hk : kd k = 0) (hlink : Cond.fieldLink own index "ThermostatColony$Books" "toOutside" "I" ∈ AL) (hdg : decode cc pc = .ok (.putfield index, 3)) (kk : ∀ (H1 : Heap) (locs1 : List Loc) (σ1 : xM), σ1 = xup σ k 2 y → xS E B 160 (layX E B) s σ1 H1 locs1 → W p l e R s m args below meth c H1 locs1 0 0 Q (F0 m (pc + 3) ls rest)) : W p l e R s m args below meth c H locs 0 0 Q (F0 m pc ls (.int (y) :: .ref (B + k) :: rest)) :=
  x_put (ty := .int) CX hM (y) y (kdl hk rfl) (ly0 hk _) in_X0 tyX0 tyX0_ok nmX0 rfl 2 (by decide) hlink rfl rfl rfl rfl (show 2 < 5 by decide) (by rw [ly0 hk]; rfl) hdg kk
theorem p0_3 {y : Int32} (CX : xCX p m c cc nL s args x0 own E B 160) (hM : xS E B 160 (layX E B) s σ H locs) (hk : kd k = 0) (hlink : Cond.fieldLink own index "ThermostatColony$Books" "toOthers" "I" ∈ AL) (hdg : decode cc pc = .ok (.putfield index, 3)) (kk : ∀ (H1 : Heap) (locs1 : List Loc) (σ1 : xM), σ1 = xup σ k 3 y → xS E B 160 (layX E B) s σ1 H1 locs1 → W p l e R s m args below meth c H1 locs1 0 0 Q (F0 m (pc + 3) ls rest)) : W p l e R s m args below meth c H locs 0 0 Q (F0 m pc ls (.int (y) :: .ref (B + k) :: rest)) :=
  x_put (ty := .int) CX hM (y) y (kdl hk rfl) (ly0 hk _) in_X0 tyX0 tyX0_ok nmX0 rfl 3 (by decide) hlink rfl rfl rfl rfl (show 3 < 5 by decide) (by rw [ly0 hk]; rfl) hdg kk
theorem p0_4 {y : Int32} (CX : xCX p m c cc nL s args x0 own E B 160) (hM : xS E B 160 (layX E B) s σ H locs) (hk : kd k = 0) (hlink : Cond.fieldLink own index "ThermostatColony$Books" "byWarm" "I" ∈ AL) (hdg : decode cc pc = .ok (.putfield index, 3)) (kk : ∀ (H1 : Heap) (locs1 : List Loc) (σ1 : xM), σ1 = xup σ k 4 y → xS E B 160 (layX E B) s σ1 H1 locs1 → W p l e R s m args below meth c H1 locs1 0 0 Q (F0 m (pc + 3) ls rest)) : W p l e R s m args below meth c H locs 0 0 Q (F0 m pc ls (.int (y) :: .ref (B + k) :: rest)) :=
  x_put (ty := .int) CX hM (y) y (kdl hk rfl) (ly0 hk _) in_X0 tyX0 tyX0_ok nmX0 rfl 4 (by decide) hlink rfl rfl rfl rfl (show 4 < 5 by decide) (by rw [ly0 hk]; rfl) hdg kk
theorem p1_4 {y : Int32} (CX : xCX p m c cc nL s args x0 own E B 160) (hM : xS E B 160 (layX E B) s σ H locs) (hk : kd k = 1) (hlink : Cond.fieldLink own index "ThermostatColony$Colony" "roomCount" "I" ∈ AL) (hdg : decode cc pc = .ok (.putfield index, 3)) (kk : ∀ (H1 : Heap) (locs1 : List Loc) (σ1 : xM), σ1 = xup σ k 4 y → xS E B 160 (layX E B) s σ1 H1 locs1 → W p l e R s m args below meth c H1 locs1 0 0 Q (F0 m (pc + 3) ls rest)) : W p l e R s m args below meth c H locs 0 0 Q (F0 m pc ls (.int (y) :: .ref (B + k) :: rest)) :=
  x_put (ty := .int) CX hM (y) y (kdl hk rfl) (ly1 hk _) in_X1 tyX1 tyX1_ok nmX1 rfl 4 (by decide) hlink rfl rfl rfl rfl (show 4 < 6 by decide) (by rw [ly1 hk]; rfl) hdg kk
theorem p1_5 {y : Int32} (CX : xCX p m c cc nL s args x0 own E B 160) (hM : xS E B 160 (layX E B) s σ H locs) (hk : kd k = 1) (hlink : Cond.fieldLink own index "ThermostatColony$Colony" "time" "I" ∈ AL) (hdg : decode cc pc = .ok (.putfield index, 3)) (kk : ∀ (H1 : Heap) (locs1 : List Loc) (σ1 : xM), σ1 = xup σ k 5 y → xS E B 160 (layX E B) s σ1 H1 locs1 → W p l e R s m args below meth c H1 locs1 0 0 Q (F0 m (pc + 3) ls rest)) : W p l e R s m args below meth c H locs 0 0 Q (F0 m pc ls (.int (y) :: .ref (B + k) :: rest)) :=
  x_put (ty := .int) CX hM (y) y (kdl hk rfl) (ly1 hk _) in_X1 tyX1 tyX1_ok nmX1 rfl 5 (by decide) hlink rfl rfl rfl rfl (show 5 < 6 by decide) (by rw [ly1 hk]; rfl) hdg kk
theorem p2_1 {y : Int32} (CX : xCX p m c cc nL s args x0 own E B 160) (hM : xS E B 160 (layX E B) s σ H locs) (hk : kd k = 2) (hlink : Cond.fieldLink own index "ThermostatColony$History" "next" "I" ∈ AL) (hdg : decode cc pc = .ok (.putfield index, 3)) (kk : ∀ (H1 : Heap) (locs1 : List Loc) (σ1 : xM), σ1 = xup σ k 1 y → xS E B 160 (layX E B) s σ1 H1 locs1 → W p l e R s m args below meth c H1 locs1 0 0 Q (F0 m (pc + 3) ls rest)) : W p l e R s m args below meth c H locs 0 0 Q (F0 m pc ls (.int (y) :: .ref (B + k) :: rest)) :=
  x_put (ty := .int) CX hM (y) y (kdl hk rfl) (ly2 hk _) in_X2 tyX2 tyX2_ok nmX2 rfl 1 (by decide) hlink rfl rfl rfl rfl (show 1 < 3 by decide) (by rw [ly2 hk]; rfl) hdg kk
theorem p2_2 {y : Int32} (CX : xCX p m c cc nL s args x0 own E B 160) (hM : xS E B 160 (layX E B) s σ H locs) (hk : kd k = 2) (hlink : Cond.fieldLink own index "ThermostatColony$History" "size" "I" ∈ AL) (hdg : decode cc pc = .ok (.putfield index, 3)) (kk : ∀ (H1 : Heap) (locs1 : List Loc) (σ1 : xM), σ1 = xup σ k 2 y → xS E B 160 (layX E B) s σ1 H1 locs1 → W p l e R s m args below meth c H1 locs1 0 0 Q (F0 m (pc + 3) ls rest)) : W p l e R s m args below meth c H locs 0 0 Q (F0 m pc ls (.int (y) :: .ref (B + k) :: rest)) :=
  x_put (ty := .int) CX hM (y) y (kdl hk rfl) (ly2 hk _) in_X2 tyX2 tyX2_ok nmX2 rfl 2 (by decide) hlink rfl rfl rfl rfl (show 2 < 3 by decide) (by rw [ly2 hk]; rfl) hdg kk
theorem p3_1 {y : Int32} (CX : xCX p m c cc nL s args x0 own E B 160) (hM : xS E B 160 (layX E B) s σ H locs) (hk : kd k = 3) (hlink : Cond.fieldLink own index "ThermostatColony$Room" "capacity" "I" ∈ AL) (hdg : decode cc pc = .ok (.putfield index, 3)) (kk : ∀ (H1 : Heap) (locs1 : List Loc) (σ1 : xM), σ1 = xup σ k 1 y → xS E B 160 (layX E B) s σ1 H1 locs1 → W p l e R s m args below meth c H1 locs1 0 0 Q (F0 m (pc + 3) ls rest)) : W p l e R s m args below meth c H locs 0 0 Q (F0 m pc ls (.int (y) :: .ref (B + k) :: rest)) :=
  x_put (ty := .int) CX hM (y) y (kdl hk rfl) (ly3 hk _) in_X3 tyX3 tyX3_ok nmX3 rfl 1 (by decide) hlink rfl rfl rfl rfl (show 1 < 18 by decide) (by rw [ly3 hk]; rfl) hdg kk
theorem p3_2 {y : Int32} (CX : xCX p m c cc nL s args x0 own E B 160) (hM : xS E B 160 (layX E B) s σ H locs) (hk : kd k = 3) (hlink : Cond.fieldLink own index "ThermostatColony$Room" "power" "I" ∈ AL) (hdg : decode cc pc = .ok (.putfield index, 3)) (kk : ∀ (H1 : Heap) (locs1 : List Loc) (σ1 : xM), σ1 = xup σ k 2 y → xS E B 160 (layX E B) s σ1 H1 locs1 → W p l e R s m args below meth c H1 locs1 0 0 Q (F0 m (pc + 3) ls rest)) : W p l e R s m args below meth c H locs 0 0 Q (F0 m pc ls (.int (y) :: .ref (B + k) :: rest)) :=
  x_put (ty := .int) CX hM (y) y (kdl hk rfl) (ly3 hk _) in_X3 tyX3 tyX3_ok nmX3 rfl 2 (by decide) hlink rfl rfl rfl rfl (show 2 < 18 by decide) (by rw [ly3 hk]; rfl) hdg kk
theorem p3_3 {y : Int32} (CX : xCX p m c cc nL s args x0 own E B 160) (hM : xS E B 160 (layX E B) s σ H locs) (hk : kd k = 3) (hlink : Cond.fieldLink own index "ThermostatColony$Room" "leak" "I" ∈ AL) (hdg : decode cc pc = .ok (.putfield index, 3)) (kk : ∀ (H1 : Heap) (locs1 : List Loc) (σ1 : xM), σ1 = xup σ k 3 y → xS E B 160 (layX E B) s σ1 H1 locs1 → W p l e R s m args below meth c H1 locs1 0 0 Q (F0 m (pc + 3) ls rest)) : W p l e R s m args below meth c H locs 0 0 Q (F0 m pc ls (.int (y) :: .ref (B + k) :: rest)) :=
  x_put (ty := .int) CX hM (y) y (kdl hk rfl) (ly3 hk _) in_X3 tyX3 tyX3_ok nmX3 rfl 3 (by decide) hlink rfl rfl rfl rfl (show 3 < 18 by decide) (by rw [ly3 hk]; rfl) hdg kk
theorem p3_4 {y : Int32} (CX : xCX p m c cc nL s args x0 own E B 160) (hM : xS E B 160 (layX E B) s σ H locs) (hk : kd k = 3) (hlink : Cond.fieldLink own index "ThermostatColony$Room" "heat" "I" ∈ AL) (hdg : decode cc pc = .ok (.putfield index, 3)) (kk : ∀ (H1 : Heap) (locs1 : List Loc) (σ1 : xM), σ1 = xup σ k 4 y → xS E B 160 (layX E B) s σ1 H1 locs1 → W p l e R s m args below meth c H1 locs1 0 0 Q (F0 m (pc + 3) ls rest)) : W p l e R s m args below meth c H locs 0 0 Q (F0 m pc ls (.int (y) :: .ref (B + k) :: rest)) :=
  x_put (ty := .int) CX hM (y) y (kdl hk rfl) (ly3 hk _) in_X3 tyX3 tyX3_ok nmX3 rfl 4 (by decide) hlink rfl rfl rfl rfl (show 4 < 18 by decide) (by rw [ly3 hk]; rfl) hdg kk
theorem p3_5 {y : Int32} (CX : xCX p m c cc nL s args x0 own E B 160) (hM : xS E B 160 (layX E B) s σ H locs) (hk : kd k = 3) (hlink : Cond.fieldLink own index "ThermostatColony$Room" "point" "I" ∈ AL) (hdg : decode cc pc = .ok (.putfield index, 3)) (kk : ∀ (H1 : Heap) (locs1 : List Loc) (σ1 : xM), σ1 = xup σ k 5 y → xS E B 160 (layX E B) s σ1 H1 locs1 → W p l e R s m args below meth c H1 locs1 0 0 Q (F0 m (pc + 3) ls rest)) : W p l e R s m args below meth c H locs 0 0 Q (F0 m pc ls (.int (y) :: .ref (B + k) :: rest)) :=
  x_put (ty := .int) CX hM (y) y (kdl hk rfl) (ly3 hk _) in_X3 tyX3 tyX3_ok nmX3 rfl 5 (by decide) hlink rfl rfl rfl rfl (show 5 < 18 by decide) (by rw [ly3 hk]; rfl) hdg kk
theorem p3_6 {y : Int32} (CX : xCX p m c cc nL s args x0 own E B 160) (hM : xS E B 160 (layX E B) s σ H locs) (hk : kd k = 3) (hlink : Cond.fieldLink own index "ThermostatColony$Room" "band" "I" ∈ AL) (hdg : decode cc pc = .ok (.putfield index, 3)) (kk : ∀ (H1 : Heap) (locs1 : List Loc) (σ1 : xM), σ1 = xup σ k 6 y → xS E B 160 (layX E B) s σ1 H1 locs1 → W p l e R s m args below meth c H1 locs1 0 0 Q (F0 m (pc + 3) ls rest)) : W p l e R s m args below meth c H locs 0 0 Q (F0 m pc ls (.int (y) :: .ref (B + k) :: rest)) :=
  x_put (ty := .int) CX hM (y) y (kdl hk rfl) (ly3 hk _) in_X3 tyX3 tyX3_ok nmX3 rfl 6 (by decide) hlink rfl rfl rfl rfl (show 6 < 18 by decide) (by rw [ly3 hk]; rfl) hdg kk
theorem p3_7 {y : Int32} (CX : xCX p m c cc nL s args x0 own E B 160) (hM : xS E B 160 (layX E B) s σ H locs) (hk : kd k = 3) (hlink : Cond.fieldLink own index "ThermostatColony$Room" "blade" "I" ∈ AL) (hdg : decode cc pc = .ok (.putfield index, 3)) (kk : ∀ (H1 : Heap) (locs1 : List Loc) (σ1 : xM), σ1 = xup σ k 7 y → xS E B 160 (layX E B) s σ1 H1 locs1 → W p l e R s m args below meth c H1 locs1 0 0 Q (F0 m (pc + 3) ls rest)) : W p l e R s m args below meth c H locs 0 0 Q (F0 m pc ls (.int (y) :: .ref (B + k) :: rest)) :=
  x_put (ty := .int) CX hM (y) y (kdl hk rfl) (ly3 hk _) in_X3 tyX3 tyX3_ok nmX3 rfl 7 (by decide) hlink rfl rfl rfl rfl (show 7 < 18 by decide) (by rw [ly3 hk]; rfl) hdg kk
theorem p3_8 {y : Int32} (CX : xCX p m c cc nL s args x0 own E B 160) (hM : xS E B 160 (layX E B) s σ H locs) (hk : kd k = 3) (hlink : Cond.fieldLink own index "ThermostatColony$Room" "closed" "Z" ∈ AL) (hdg : decode cc pc = .ok (.putfield index, 3)) (kk : ∀ (H1 : Heap) (locs1 : List Loc) (σ1 : xM), σ1 = xup σ k 8 y → xS E B 160 (layX E B) s σ1 H1 locs1 → W p l e R s m args below meth c H1 locs1 0 0 Q (F0 m (pc + 3) ls rest)) : W p l e R s m args below meth c H locs 0 0 Q (F0 m pc ls (.int (bz y) :: .ref (B + k) :: rest)) :=
  x_put (ty := .boolean) CX hM (bz y) y (kdl hk rfl) (ly3 hk _) in_X3 tyX3 tyX3_ok nmX3 rfl 8 (by decide) hlink rfl rfl (bz_nar y) (bz_fit y) (show 8 < 18 by decide) (by rw [ly3 hk]; rfl) hdg kk
theorem p3_9 {y : Int32} (CX : xCX p m c cc nL s args x0 own E B 160) (hM : xS E B 160 (layX E B) s σ H locs) (hk : kd k = 3) (hlink : Cond.fieldLink own index "ThermostatColony$Room" "welded" "Z" ∈ AL) (hdg : decode cc pc = .ok (.putfield index, 3)) (kk : ∀ (H1 : Heap) (locs1 : List Loc) (σ1 : xM), σ1 = xup σ k 9 y → xS E B 160 (layX E B) s σ1 H1 locs1 → W p l e R s m args below meth c H1 locs1 0 0 Q (F0 m (pc + 3) ls rest)) : W p l e R s m args below meth c H locs 0 0 Q (F0 m pc ls (.int (bz y) :: .ref (B + k) :: rest)) :=
  x_put (ty := .boolean) CX hM (bz y) y (kdl hk rfl) (ly3 hk _) in_X3 tyX3 tyX3_ok nmX3 rfl 9 (by decide) hlink rfl rfl (bz_nar y) (bz_fit y) (show 9 < 18 by decide) (by rw [ly3 hk]; rfl) hdg kk
theorem p3_10 {y : Int32} (CX : xCX p m c cc nL s args x0 own E B 160) (hM : xS E B 160 (layX E B) s σ H locs) (hk : kd k = 3) (hlink : Cond.fieldLink own index "ThermostatColony$Room" "tripped" "Z" ∈ AL) (hdg : decode cc pc = .ok (.putfield index, 3)) (kk : ∀ (H1 : Heap) (locs1 : List Loc) (σ1 : xM), σ1 = xup σ k 10 y → xS E B 160 (layX E B) s σ1 H1 locs1 → W p l e R s m args below meth c H1 locs1 0 0 Q (F0 m (pc + 3) ls rest)) : W p l e R s m args below meth c H locs 0 0 Q (F0 m pc ls (.int (bz y) :: .ref (B + k) :: rest)) :=
  x_put (ty := .boolean) CX hM (bz y) y (kdl hk rfl) (ly3 hk _) in_X3 tyX3 tyX3_ok nmX3 rfl 10 (by decide) hlink rfl rfl (bz_nar y) (bz_fit y) (show 10 < 18 by decide) (by rw [ly3 hk]; rfl) hdg kk
theorem p3_11 {y : Int32} (CX : xCX p m c cc nL s args x0 own E B 160) (hM : xS E B 160 (layX E B) s σ H locs) (hk : kd k = 3) (hlink : Cond.fieldLink own index "ThermostatColony$Room" "wear" "I" ∈ AL) (hdg : decode cc pc = .ok (.putfield index, 3)) (kk : ∀ (H1 : Heap) (locs1 : List Loc) (σ1 : xM), σ1 = xup σ k 11 y → xS E B 160 (layX E B) s σ1 H1 locs1 → W p l e R s m args below meth c H1 locs1 0 0 Q (F0 m (pc + 3) ls rest)) : W p l e R s m args below meth c H locs 0 0 Q (F0 m pc ls (.int (y) :: .ref (B + k) :: rest)) :=
  x_put (ty := .int) CX hM (y) y (kdl hk rfl) (ly3 hk _) in_X3 tyX3 tyX3_ok nmX3 rfl 11 (by decide) hlink rfl rfl rfl rfl (show 11 < 18 by decide) (by rw [ly3 hk]; rfl) hdg kk
theorem p3_12 {y : Int32} (CX : xCX p m c cc nL s args x0 own E B 160) (hM : xS E B 160 (layX E B) s σ H locs) (hk : kd k = 3) (hlink : Cond.fieldLink own index "ThermostatColony$Room" "attempts" "I" ∈ AL) (hdg : decode cc pc = .ok (.putfield index, 3)) (kk : ∀ (H1 : Heap) (locs1 : List Loc) (σ1 : xM), σ1 = xup σ k 12 y → xS E B 160 (layX E B) s σ1 H1 locs1 → W p l e R s m args below meth c H1 locs1 0 0 Q (F0 m (pc + 3) ls rest)) : W p l e R s m args below meth c H locs 0 0 Q (F0 m pc ls (.int (y) :: .ref (B + k) :: rest)) :=
  x_put (ty := .int) CX hM (y) y (kdl hk rfl) (ly3 hk _) in_X3 tyX3 tyX3_ok nmX3 rfl 12 (by decide) hlink rfl rfl rfl rfl (show 12 < 18 by decide) (by rw [ly3 hk]; rfl) hdg kk
theorem p3_13 {y : Int32} (CX : xCX p m c cc nL s args x0 own E B 160) (hM : xS E B 160 (layX E B) s σ H locs) (hk : kd k = 3) (hlink : Cond.fieldLink own index "ThermostatColony$Room" "closings" "I" ∈ AL) (hdg : decode cc pc = .ok (.putfield index, 3)) (kk : ∀ (H1 : Heap) (locs1 : List Loc) (σ1 : xM), σ1 = xup σ k 13 y → xS E B 160 (layX E B) s σ1 H1 locs1 → W p l e R s m args below meth c H1 locs1 0 0 Q (F0 m (pc + 3) ls rest)) : W p l e R s m args below meth c H locs 0 0 Q (F0 m pc ls (.int (y) :: .ref (B + k) :: rest)) :=
  x_put (ty := .int) CX hM (y) y (kdl hk rfl) (ly3 hk _) in_X3 tyX3 tyX3_ok nmX3 rfl 13 (by decide) hlink rfl rfl rfl rfl (show 13 < 18 by decide) (by rw [ly3 hk]; rfl) hdg kk
theorem p3_14 {y : Int32} (CX : xCX p m c cc nL s args x0 own E B 160) (hM : xS E B 160 (layX E B) s σ H locs) (hk : kd k = 3) (hlink : Cond.fieldLink own index "ThermostatColony$Room" "latestClosing" "I" ∈ AL) (hdg : decode cc pc = .ok (.putfield index, 3)) (kk : ∀ (H1 : Heap) (locs1 : List Loc) (σ1 : xM), σ1 = xup σ k 14 y → xS E B 160 (layX E B) s σ1 H1 locs1 → W p l e R s m args below meth c H1 locs1 0 0 Q (F0 m (pc + 3) ls rest)) : W p l e R s m args below meth c H locs 0 0 Q (F0 m pc ls (.int (y) :: .ref (B + k) :: rest)) :=
  x_put (ty := .int) CX hM (y) y (kdl hk rfl) (ly3 hk _) in_X3 tyX3 tyX3_ok nmX3 rfl 14 (by decide) hlink rfl rfl rfl rfl (show 14 < 18 by decide) (by rw [ly3 hk]; rfl) hdg kk
theorem p3_15 {y : Int32} (CX : xCX p m c cc nL s args x0 own E B 160) (hM : xS E B 160 (layX E B) s σ H locs) (hk : kd k = 3) (hlink : Cond.fieldLink own index "ThermostatColony$Room" "fines" "I" ∈ AL) (hdg : decode cc pc = .ok (.putfield index, 3)) (kk : ∀ (H1 : Heap) (locs1 : List Loc) (σ1 : xM), σ1 = xup σ k 15 y → xS E B 160 (layX E B) s σ1 H1 locs1 → W p l e R s m args below meth c H1 locs1 0 0 Q (F0 m (pc + 3) ls rest)) : W p l e R s m args below meth c H locs 0 0 Q (F0 m pc ls (.int (y) :: .ref (B + k) :: rest)) :=
  x_put (ty := .int) CX hM (y) y (kdl hk rfl) (ly3 hk _) in_X3 tyX3 tyX3_ok nmX3 rfl 15 (by decide) hlink rfl rfl rfl rfl (show 15 < 18 by decide) (by rw [ly3 hk]; rfl) hdg kk
theorem p3_16 {y : Int32} (CX : xCX p m c cc nL s args x0 own E B 160) (hM : xS E B 160 (layX E B) s σ H locs) (hk : kd k = 3) (hlink : Cond.fieldLink own index "ThermostatColony$Room" "suspectMinutes" "I" ∈ AL) (hdg : decode cc pc = .ok (.putfield index, 3)) (kk : ∀ (H1 : Heap) (locs1 : List Loc) (σ1 : xM), σ1 = xup σ k 16 y → xS E B 160 (layX E B) s σ1 H1 locs1 → W p l e R s m args below meth c H1 locs1 0 0 Q (F0 m (pc + 3) ls rest)) : W p l e R s m args below meth c H locs 0 0 Q (F0 m pc ls (.int (y) :: .ref (B + k) :: rest)) :=
  x_put (ty := .int) CX hM (y) y (kdl hk rfl) (ly3 hk _) in_X3 tyX3 tyX3_ok nmX3 rfl 16 (by decide) hlink rfl rfl rfl rfl (show 16 < 18 by decide) (by rw [ly3 hk]; rfl) hdg kk
theorem p3_17 {y : Int32} (CX : xCX p m c cc nL s args x0 own E B 160) (hM : xS E B 160 (layX E B) s σ H locs) (hk : kd k = 3) (hlink : Cond.fieldLink own index "ThermostatColony$Room" "minuteTemperature" "I" ∈ AL) (hdg : decode cc pc = .ok (.putfield index, 3)) (kk : ∀ (H1 : Heap) (locs1 : List Loc) (σ1 : xM), σ1 = xup σ k 17 y → xS E B 160 (layX E B) s σ1 H1 locs1 → W p l e R s m args below meth c H1 locs1 0 0 Q (F0 m (pc + 3) ls rest)) : W p l e R s m args below meth c H locs 0 0 Q (F0 m pc ls (.int (y) :: .ref (B + k) :: rest)) :=
  x_put (ty := .int) CX hM (y) y (kdl hk rfl) (ly3 hk _) in_X3 tyX3 tyX3_ok nmX3 rfl 17 (by decide) hlink rfl rfl rfl rfl (show 17 < 18 by decide) (by rw [ly3 hk]; rfl) hdg kk
theorem p4_2 {y : Int32} (CX : xCX p m c cc nL s args x0 own E B 160) (hM : xS E B 160 (layX E B) s σ H locs) (hk : kd k = 4) (hlink : Cond.fieldLink own index "ThermostatColony$Weather" "size" "I" ∈ AL) (hdg : decode cc pc = .ok (.putfield index, 3)) (kk : ∀ (H1 : Heap) (locs1 : List Loc) (σ1 : xM), σ1 = xup σ k 2 y → xS E B 160 (layX E B) s σ1 H1 locs1 → W p l e R s m args below meth c H1 locs1 0 0 Q (F0 m (pc + 3) ls rest)) : W p l e R s m args below meth c H locs 0 0 Q (F0 m pc ls (.int (y) :: .ref (B + k) :: rest)) :=
  x_put (ty := .int) CX hM (y) y (kdl hk rfl) (ly4 hk _) in_X4 tyX4 tyX4_ok nmX4 rfl 2 (by decide) hlink rfl rfl rfl rfl (show 2 < 3 by decide) (by rw [ly4 hk]; rfl) hdg kk
theorem p5_1 {y : Int32} (CX : xCX p m c cc nL s args x0 own E B 160) (hM : xS E B 160 (layX E B) s σ H locs) (hk : kd k = 5) (hlink : Cond.fieldLink own index "ThermostatColony$WeatherText" "length" "I" ∈ AL) (hdg : decode cc pc = .ok (.putfield index, 3)) (kk : ∀ (H1 : Heap) (locs1 : List Loc) (σ1 : xM), σ1 = xup σ k 1 y → xS E B 160 (layX E B) s σ1 H1 locs1 → W p l e R s m args below meth c H1 locs1 0 0 Q (F0 m (pc + 3) ls rest)) : W p l e R s m args below meth c H locs 0 0 Q (F0 m pc ls (.int (y) :: .ref (B + k) :: rest)) :=
  x_put (ty := .int) CX hM (y) y (kdl hk rfl) (ly5 hk _) in_X5 tyX5 tyX5_ok nmX5 rfl 1 (by decide) hlink rfl rfl rfl rfl (show 1 < 3 by decide) (by rw [ly5 hk]; rfl) hdg kk
theorem p5_2 {y : Int32} (CX : xCX p m c cc nL s args x0 own E B 160) (hM : xS E B 160 (layX E B) s σ H locs) (hk : kd k = 5) (hlink : Cond.fieldLink own index "ThermostatColony$WeatherText" "position" "I" ∈ AL) (hdg : decode cc pc = .ok (.putfield index, 3)) (kk : ∀ (H1 : Heap) (locs1 : List Loc) (σ1 : xM), σ1 = xup σ k 2 y → xS E B 160 (layX E B) s σ1 H1 locs1 → W p l e R s m args below meth c H1 locs1 0 0 Q (F0 m (pc + 3) ls rest)) : W p l e R s m args below meth c H locs 0 0 Q (F0 m pc ls (.int (y) :: .ref (B + k) :: rest)) :=
  x_put (ty := .int) CX hM (y) y (kdl hk rfl) (ly5 hk _) in_X5 tyX5 tyX5_ok nmX5 rfl 2 (by decide) hlink rfl rfl rfl rfl (show 2 < 3 by decide) (by rw [ly5 hk]; rfl) hdg kk
theorem p7_2 {y : Int32} (CX : xCX p m c cc nL s args x0 own E B 7) (hM : xS E B 7 (layY E B) s σ H locs) (hk : kdY k = 7) (hlink : Cond.fieldLink own index "ThermostatColonyModel" "pasts" "I" ∈ AL) (hdg : decode cc pc = .ok (.putfield index, 3)) (kk : ∀ (H1 : Heap) (locs1 : List Loc) (σ1 : xM), σ1 = xup σ k 2 y → xS E B 7 (layY E B) s σ1 H1 locs1 → W p l e R s m args below meth c H1 locs1 0 0 Q (F0 m (pc + 3) ls rest)) : W p l e R s m args below meth c H locs 0 0 Q (F0 m pc ls (.int (y) :: .ref (B + k) :: rest)) :=
  x_put (ty := .int) CX hM (y) y (kdYl hk rfl) (ly7 hk _) in_X7 tyX7 tyX7_ok nmX7 rfl 2 (by decide) hlink rfl rfl rfl rfl (show 2 < 11 by decide) (by rw [ly7 hk]; rfl) hdg kk
theorem p7_4 {y : Int32} (CX : xCX p m c cc nL s args x0 own E B 7) (hM : xS E B 7 (layY E B) s σ H locs) (hk : kdY k = 7) (hlink : Cond.fieldLink own index "ThermostatColonyModel" "typed" "I" ∈ AL) (hdg : decode cc pc = .ok (.putfield index, 3)) (kk : ∀ (H1 : Heap) (locs1 : List Loc) (σ1 : xM), σ1 = xup σ k 4 y → xS E B 7 (layY E B) s σ1 H1 locs1 → W p l e R s m args below meth c H1 locs1 0 0 Q (F0 m (pc + 3) ls rest)) : W p l e R s m args below meth c H locs 0 0 Q (F0 m pc ls (.int (y) :: .ref (B + k) :: rest)) :=
  x_put (ty := .int) CX hM (y) y (kdYl hk rfl) (ly7 hk _) in_X7 tyX7 tyX7_ok nmX7 rfl 4 (by decide) hlink rfl rfl rfl rfl (show 4 < 11 by decide) (by rw [ly7 hk]; rfl) hdg kk
theorem p7_7 {y : Int32} (CX : xCX p m c cc nL s args x0 own E B 7) (hM : xS E B 7 (layY E B) s σ H locs) (hk : kdY k = 7) (hlink : Cond.fieldLink own index "ThermostatColonyModel" "points" "I" ∈ AL) (hdg : decode cc pc = .ok (.putfield index, 3)) (kk : ∀ (H1 : Heap) (locs1 : List Loc) (σ1 : xM), σ1 = xup σ k 7 y → xS E B 7 (layY E B) s σ1 H1 locs1 → W p l e R s m args below meth c H1 locs1 0 0 Q (F0 m (pc + 3) ls rest)) : W p l e R s m args below meth c H locs 0 0 Q (F0 m pc ls (.int (y) :: .ref (B + k) :: rest)) :=
  x_put (ty := .int) CX hM (y) y (kdYl hk rfl) (ly7 hk _) in_X7 tyX7 tyX7_ok nmX7 rfl 7 (by decide) hlink rfl rfl rfl rfl (show 7 < 11 by decide) (by rw [ly7 hk]; rfl) hdg kk
theorem p7_8 {y : Int32} (CX : xCX p m c cc nL s args x0 own E B 7) (hM : xS E B 7 (layY E B) s σ H locs) (hk : kdY k = 7) (hlink : Cond.fieldLink own index "ThermostatColonyModel" "next" "I" ∈ AL) (hdg : decode cc pc = .ok (.putfield index, 3)) (kk : ∀ (H1 : Heap) (locs1 : List Loc) (σ1 : xM), σ1 = xup σ k 8 y → xS E B 7 (layY E B) s σ1 H1 locs1 → W p l e R s m args below meth c H1 locs1 0 0 Q (F0 m (pc + 3) ls rest)) : W p l e R s m args below meth c H locs 0 0 Q (F0 m pc ls (.int (y) :: .ref (B + k) :: rest)) :=
  x_put (ty := .int) CX hM (y) y (kdYl hk rfl) (ly7 hk _) in_X7 tyX7 tyX7_ok nmX7 rfl 8 (by decide) hlink rfl rfl rfl rfl (show 8 < 11 by decide) (by rw [ly7 hk]; rfl) hdg kk
theorem p7_9 {y : Int32} (CX : xCX p m c cc nL s args x0 own E B 7) (hM : xS E B 7 (layY E B) s σ H locs) (hk : kdY k = 7) (hlink : Cond.fieldLink own index "ThermostatColonyModel" "number" "I" ∈ AL) (hdg : decode cc pc = .ok (.putfield index, 3)) (kk : ∀ (H1 : Heap) (locs1 : List Loc) (σ1 : xM), σ1 = xup σ k 9 y → xS E B 7 (layY E B) s σ1 H1 locs1 → W p l e R s m args below meth c H1 locs1 0 0 Q (F0 m (pc + 3) ls rest)) : W p l e R s m args below meth c H locs 0 0 Q (F0 m pc ls (.int (y) :: .ref (B + k) :: rest)) :=
  x_put (ty := .int) CX hM (y) y (kdYl hk rfl) (ly7 hk _) in_X7 tyX7 tyX7_ok nmX7 rfl 9 (by decide) hlink rfl rfl rfl rfl (show 9 < 11 by decide) (by rw [ly7 hk]; rfl) hdg kk
end WRAP
theorem lsw_out {x : Int32} {d : Int} (cs : List Int32) (ps : List (Int × Int)) (hcs : ps.map (fun q => q.1) = cs.map Int32.toInt) (h : ∀ c ∈ cs, ¬ x = c) : Op.lookupswitch.offset ps d x.toInt = d := by
  refine Op.lookupswitch.offset_none ?_
  rw [List.find?_eq_none]
  intro q hq
  have h1 : q.1 ∈ cs.map Int32.toInt := by rw [← hcs]; exact List.mem_map.mpr ⟨q, hq, rfl⟩
  obtain ⟨c, hc, e⟩ := List.mem_map.mp h1
  intro hx
  exact h c hc (Int32.toInt_inj.mp ((eq_of_beq hx).symm.trans e.symm))
end
section
def F_X0_begin (k : Nat) (x1 : Int32) (σ : xM) : Option (Unit × xM) :=
  nm (xup σ k 0 x1) (fun σ1 =>
  nm (xup σ1 k 1 0) (fun σ2 =>
  nm (xup σ2 k 2 0) (fun σ3 =>
  nm (xup σ3 k 3 0) (fun σ4 =>
  nm (xup σ4 k 4 0) (fun σ5 =>
  some ((), σ5))))))
def F_X0_copyFrom (k : Nat) (r1 : Nat) (σ : xM) : Option (Unit × xM) :=
  nm (xup σ k 0 (σ r1 0)) (fun σ1 =>
  nm (xup σ1 k 1 (σ1 r1 1)) (fun σ2 =>
  nm (xup σ2 k 2 (σ2 r1 2)) (fun σ3 =>
  nm (xup σ3 k 3 (σ3 r1 3)) (fun σ4 =>
  nm (xup σ4 k 4 (σ4 r1 4)) (fun σ5 =>
  some ((), σ5))))))
def F_X0_sum (k : Nat) (x1 : Int32) (σ : xM) : Option (Int32 × xM) :=
  if x1 = 0 then
  some ((σ k 0), σ)
  else if x1 = 1 then
  some ((σ k 1), σ)
  else if x1 = 2 then
  some ((σ k 2), σ)
  else if x1 = 3 then
  some ((σ k 3), σ)
  else if x1 = 4 then
  some ((σ k 4), σ)
  else 
  some ((-1000001), σ)
def F_X4_copyFrom (k : Nat) (r1 : Nat) (σ : xM) : Option (Unit × xM) :=
  nm (xcp σ (r1 + 1) (k + 1) 12) (fun σ1 =>
  nm (xcp σ1 (r1 + 2) (k + 2) 12) (fun σ2 =>
  nm (xup σ2 k 2 (σ2 r1 2)) (fun σ3 =>
  some ((), σ3))))
def F_X1_roomAt (k : Nat) (x1 : Int32) (σ : xM) : Option (Option Nat × xM) :=
  if x1 < 0 then
  some (none, σ)
  else
  if (σ k 4) ≤ x1 then
  some (none, σ)
  else
  if 6 ≤ x1 then
  some (none, σ)
  else
  if inb x1 6 then
  some (some ((k + 2) + 5 + 2 * Int32.toNatClampNeg x1), σ)
  else none
def F_X3_copyFrom (k : Nat) (r1 : Nat) (σ : xM) : Option (Unit × xM) :=
  (F_X0_copyFrom (k + 1) (r1 + 1) σ).bind (fun q1 =>
  nm (xup q1.2 k 1 (q1.2 r1 1)) (fun σ2 =>
  nm (xup σ2 k 2 (σ2 r1 2)) (fun σ3 =>
  nm (xup σ3 k 3 (σ3 r1 3)) (fun σ4 =>
  nm (xup σ4 k 4 (σ4 r1 4)) (fun σ5 =>
  nm (xup σ5 k 5 (σ5 r1 5)) (fun σ6 =>
  nm (xup σ6 k 6 (σ6 r1 6)) (fun σ7 =>
  nm (xup σ7 k 7 (σ7 r1 7)) (fun σ8 =>
  nm (xup σ8 k 8 (σ8 r1 8)) (fun σ9 =>
  nm (xup σ9 k 9 (σ9 r1 9)) (fun σ10 =>
  nm (xup σ10 k 10 (σ10 r1 10)) (fun σ11 =>
  nm (xup σ11 k 11 (σ11 r1 11)) (fun σ12 =>
  nm (xup σ12 k 12 (σ12 r1 12)) (fun σ13 =>
  nm (xup σ13 k 13 (σ13 r1 13)) (fun σ14 =>
  nm (xup σ14 k 14 (σ14 r1 14)) (fun σ15 =>
  nm (xup σ15 k 15 (σ15 r1 15)) (fun σ16 =>
  nm (xup σ16 k 16 (σ16 r1 16)) (fun σ17 =>
  nm (xup σ17 k 17 (σ17 r1 17)) (fun σ18 =>
  some ((), σ18)))))))))))))))))))
def F_X1_copyFrom_L59 (k : Nat) (r1 : Nat) : Nat → Int32 → xM → Option (Unit × xM)
  | 0, _, _ => none
  | N + 1, x2, σ =>
    if (σ k 4) ≤ x2 then
    some ((), σ)
    else
    (F_X1_roomAt k x2 σ).bind (fun q7 =>
    oc q7.1 (
    (F_X1_roomAt r1 x2 q7.2).bind (fun q9 =>
    oc q9.1 (
    F_X1_copyFrom_L59 k r1 N (x2 + 1) q9.2)
    (fun r10 =>
    if kd r10 = 3 then
    F_X1_copyFrom_L59 k r1 N (x2 + 1) q9.2
    else none)))
    (fun r8 =>
    if kd r8 = 3 then
    (F_X1_roomAt r1 x2 q7.2).bind (fun q11 =>
    oc q11.1 (
    F_X1_copyFrom_L59 k r1 N (x2 + 1) q11.2)
    (fun r12 =>
    if kd r12 = 3 then
    (F_X3_copyFrom r8 r12 q11.2).bind (fun q13 =>
    F_X1_copyFrom_L59 k r1 N (x2 + 1) q13.2)
    else none))
    else none))
def F_X1_copyFrom (k : Nat) (r1 : Nat) (σ : xM) : Option (Unit × xM) :=
  nm (xcp σ (r1 + 1) (k + 1) 7) (fun σ1 =>
  nm (xcp σ1 (r1 + 3) (k + 3) 36) (fun σ2 =>
  (F_X4_copyFrom (k + 4) (r1 + 4) σ2).bind (fun q3 =>
  nm (xup q3.2 k 4 (q3.2 r1 4)) (fun σ4 =>
  nm (xup σ4 k 5 (σ4 r1 5)) (fun σ5 =>
  F_X1_copyFrom_L59 k r1 FU 0 σ5)))))
def F_X1_number (k : Nat) (x1 : Int32) (σ : xM) : Option (Int32 × xM) :=
  if x1 < 0 then
  some (0, σ)
  else
  if 7 ≤ x1 then
  some (0, σ)
  else
  if inb x1 7 then
  some ((σ (k + 1) (Int32.toNatClampNeg x1)), σ)
  else none
def F_X1_putNumber (k : Nat) (x1 : Int32) (x2 : Int32) (σ : xM) : Option (Unit × xM) :=
  if x1 < 0 then
  some ((), σ)
  else
  if 7 ≤ x1 then
  some ((), σ)
  else
  if inb x1 7 then
  nm (xup σ (k + 1) (Int32.toNatClampNeg x1) x2) (fun σ4 =>
  some ((), σ4))
  else none
def F_J9_floorDiv_7cf53 (x0 : Int32) (x1 : Int32) (σ : xM) : Option (Int32 × xM) :=
  if x1 = 0 then none else
  nm (x0 / x1) (fun x2_1 =>
  if 0 ≤ (x0 ^^^ x1) then
  some (x2_1, σ)
  else
  if (x2_1 * x1) = x0 then
  some (x2_1, σ)
  else
  some ((x2_1 - 1), σ))
def F_X3_temperatureWith (k : Nat) (x1 : Int32) (σ : xM) : Option (Int32 × xM) :=
  if (σ k 1) ≤ 0 then
  some (0, σ)
  else
  (F_J9_floorDiv_7cf53 (1000 * x1) (σ k 1) σ).bind (fun q2 =>
  some (q2.1, q2.2))
def F_X3_temperature (k : Nat) (σ : xM) : Option (Int32 × xM) :=
  (F_X3_temperatureWith k (σ k 4) σ).bind (fun q1 =>
  some (q1.1, q1.2))
def F_X3_begin (k : Nat) (x1 : Int32) (x2 : Int32) (x3 : Int32) (x4 : Int32) (σ : xM) : Option (Unit × xM) :=
  nm (xup σ k 1 x1) (fun σ1 =>
  nm (xup σ1 k 2 x2) (fun σ2 =>
  nm (xup σ2 k 3 x3) (fun σ3 =>
  nm (xup σ3 k 4 (x1 * x4)) (fun σ4 =>
  nm (xup σ4 k 5 20000) (fun σ5 =>
  nm (xup σ5 k 6 1000) (fun σ6 =>
  (F_X3_temperature k σ6).bind (fun q7 =>
  nm (xup q7.2 k 7 q7.1) (fun σ8 =>
  nm (xup σ8 k 8 0) (fun σ9 =>
  nm (xup σ9 k 9 0) (fun σ10 =>
  nm (xup σ10 k 10 0) (fun σ11 =>
  nm (xup σ11 k 11 0) (fun σ12 =>
  nm (xup σ12 k 12 0) (fun σ13 =>
  nm (xup σ13 k 13 0) (fun σ14 =>
  nm (xup σ14 k 14 (-1000009)) (fun σ15 =>
  nm (xup σ15 k 15 0) (fun σ16 =>
  nm (xup σ16 k 16 0) (fun σ17 =>
  nm (xup σ17 k 17 0) (fun σ18 =>
  (F_X0_begin (k + 1) (σ18 k 4) σ18).bind (fun q19 =>
  some ((), q19.2))))))))))))))))))))
def F_X1_beginRoom (k : Nat) (x1 : Int32) (x2 : Int32) (x3 : Int32) (x4 : Int32) (σ : xM) : Option (Int32 × xM) :=
  nm (σ k 4) (fun x5_1 =>
  nm (xup σ k 4 ((σ k 4) + 1)) (fun σ2 =>
  (F_X1_roomAt k x5_1 σ2).bind (fun q3 =>
  oc q3.1 (
  some (x5_1, q3.2))
  (fun r4 =>
  if kd r4 = 3 then
  (F_X3_begin r4 x1 x2 x3 x4 q3.2).bind (fun q5 =>
  some (x5_1, q5.2))
  else none))))
def F_X1_hasPair (k : Nat) (x1 : Int32) (x2 : Int32) (σ : xM) : Option (Int32 × xM) :=
  if x1 = x2 then
  some (0, σ)
  else
  (F_X1_roomAt k x1 σ).bind (fun q2 =>
  oc q2.1 (
  some (0, q2.2))
  (fun r3 =>
  if kd r3 = 3 then
  (F_X1_roomAt k x2 q2.2).bind (fun q4 =>
  oc q4.1 (
  some (0, q4.2))
  (fun r5 =>
  if kd r5 = 3 then
  some (1, q4.2)
  else none))
  else none))
def F_X1_linkPlace (x0 : Int32) (x1 : Int32) (σ : xM) : Option (Int32 × xM) :=
  some (((x0 * 6) + x1), σ)
def F_X1_linkOf (k : Nat) (x1 : Int32) (x2 : Int32) (σ : xM) : Option (Int32 × xM) :=
  (F_X1_linkPlace x1 x2 σ).bind (fun q1 =>
  if q1.1 < 0 then
  some (0, q1.2)
  else
  if 36 ≤ q1.1 then
  some (0, q1.2)
  else
  if inb q1.1 36 then
  some ((q1.2 (k + 3) (Int32.toNatClampNeg q1.1)), q1.2)
  else none)
def F_X1_putLinkAt (k : Nat) (x1 : Int32) (x2 : Int32) (σ : xM) : Option (Unit × xM) :=
  if x1 < 0 then
  some ((), σ)
  else
  if 36 ≤ x1 then
  some ((), σ)
  else
  if inb x1 36 then
  nm (xup σ (k + 3) (Int32.toNatClampNeg x1) x2) (fun σ4 =>
  some ((), σ4))
  else none
def F_X1_putLink (k : Nat) (x1 : Int32) (x2 : Int32) (x3 : Int32) (σ : xM) : Option (Unit × xM) :=
  (F_X1_linkPlace x1 x2 σ).bind (fun q1 =>
  (F_X1_putLinkAt k q1.1 x3 q1.2).bind (fun q2 =>
  (F_X1_linkPlace x2 x1 q2.2).bind (fun q3 =>
  (F_X1_putLinkAt k q3.1 x3 q3.2).bind (fun q4 =>
  some ((), q4.2)))))
def F_X1_canCarry_L23 (k : Nat) : Nat → Int32 → Nat → Int32 → Int32 → xM → Option (Int32 × xM)
  | 0, _, _, _, _, _ => none
  | N + 1, x1, r3, x4, x5, σ =>
    if (σ k 4) ≤ x5 then
    if ((σ r3 1) / 2) < x4 then
    some (0, σ)
    else
    some (1, σ)
    else
    (F_X1_linkOf k x1 x5 σ).bind (fun q6 =>
    nm (x4 + q6.1) (fun x4_7 =>
    F_X1_canCarry_L23 k N x1 r3 x4_7 (x5 + 1) q6.2))
def F_X1_canCarry (k : Nat) (x1 : Int32) (x2 : Int32) (σ : xM) : Option (Int32 × xM) :=
  (F_X1_roomAt k x1 σ).bind (fun q1 =>
  oc q1.1 (
  some (0, q1.2))
  (fun r2 =>
  if kd r2 = 3 then
  nm ((q1.2 r2 3) + x2) (fun x4_3 =>
  F_X1_canCarry_L23 k FU x1 r2 x4_3 0 q1.2)
  else none))
def F_X1_isSuspect (k : Nat) (r1 : Nat) (σ : xM) : Option (Int32 × xM) :=
  (F_X1_number k 6 σ).bind (fun q1 =>
  if (σ r1 16) < q1.1 then
  some (0, q1.2)
  else
  some (1, q1.2))
def F_X1_suspectRooms_L4 (k : Nat) : Nat → Int32 → Int32 → xM → Option (Int32 × xM)
  | 0, _, _, _ => none
  | N + 1, x1, x2, σ =>
    if (σ k 4) ≤ x2 then
    some (x1, σ)
    else
    (F_X1_roomAt k x2 σ).bind (fun q2 =>
    oc q2.1 (
    nm (x1 + 0) (fun x1_4 =>
    F_X1_suspectRooms_L4 k N x1_4 (x2 + 1) q2.2))
    (fun r3 =>
    if kd r3 = 3 then
    (F_X1_isSuspect k r3 q2.2).bind (fun q5 =>
    if (bz q5.1) = 0 then
    nm (x1 + 0) (fun x1_7 =>
    F_X1_suspectRooms_L4 k N x1_7 (x2 + 1) q5.2)
    else
    nm (x1 + 1) (fun x1_8 =>
    F_X1_suspectRooms_L4 k N x1_8 (x2 + 1) q5.2))
    else none))
def F_X1_suspectRooms (k : Nat) (σ : xM) : Option (Int32 × xM) :=
  F_X1_suspectRooms_L4 k FU 0 0 σ
def F_X1_allFines_L4 (k : Nat) : Nat → Int32 → Int32 → xM → Option (Int32 × xM)
  | 0, _, _, _ => none
  | N + 1, x1, x2, σ =>
    if (σ k 4) ≤ x2 then
    some (x1, σ)
    else
    (F_X1_roomAt k x2 σ).bind (fun q2 =>
    oc q2.1 (
    nm (x1 + 0) (fun x1_4 =>
    F_X1_allFines_L4 k N x1_4 (x2 + 1) q2.2))
    (fun r3 =>
    if kd r3 = 3 then
    nm (x1 + (q2.2 r3 15)) (fun x1_5 =>
    F_X1_allFines_L4 k N x1_5 (x2 + 1) q2.2)
    else none))
def F_X1_allFines (k : Nat) (σ : xM) : Option (Int32 × xM) :=
  F_X1_allFines_L4 k FU 0 0 σ
def F_X1_heatFromHeaters_L4 (k : Nat) : Nat → Int32 → Int32 → xM → Option (Int32 × xM)
  | 0, _, _, _ => none
  | N + 1, x1, x2, σ =>
    if (σ k 4) ≤ x2 then
    some (x1, σ)
    else
    (F_X1_roomAt k x2 σ).bind (fun q2 =>
    oc q2.1 (
    nm (x1 + 0) (fun x1_4 =>
    F_X1_heatFromHeaters_L4 k N x1_4 (x2 + 1) q2.2))
    (fun r3 =>
    if kd r3 = 3 then
    nm (x1 + (q2.2 (r3 + 1) 1)) (fun x1_5 =>
    F_X1_heatFromHeaters_L4 k N x1_5 (x2 + 1) q2.2)
    else none))
def F_X1_heatFromHeaters (k : Nat) (σ : xM) : Option (Int32 × xM) :=
  F_X1_heatFromHeaters_L4 k FU 0 0 σ
def F_X4_temperatureBefore (k : Nat) (x1 : Int32) (x2 : Int32) (σ : xM) : Option (Int32 × xM) :=
  if x1 < 1 then
  some (0, σ)
  else
  if x1 < 12 then
  if inb (x1 - 1) 12 then
  nm (σ (k + 2) (Int32.toNatClampNeg (x1 - 1))) (fun x3_4 =>
  if inb x1 12 then
  if inb (x1 - 1) 12 then
  nm ((σ (k + 1) (Int32.toNatClampNeg x1)) - (σ (k + 1) (Int32.toNatClampNeg (x1 - 1)))) (fun x4_7 =>
  if inb (x1 - 1) 12 then
  nm (x2 - (σ (k + 1) (Int32.toNatClampNeg (x1 - 1)))) (fun x5_9 =>
  if x4_7 = 0 then
  some ((1000 * x3_4), σ)
  else
  if inb x1 12 then
  if x4_7 = 0 then none else
  some (((1000 * x3_4) + (((1000 * ((σ (k + 2) (Int32.toNatClampNeg x1)) - x3_4)) * x5_9) / x4_7)), σ)
  else none)
  else none)
  else none
  else none)
  else none
  else
  some (0, σ)
def F_X4_temperatureAt_L4 (k : Nat) : Nat → Int32 → Int32 → Int32 → xM → Option (Int32 × xM)
  | 0, _, _, _, _ => none
  | N + 1, x1, x2, x3, σ =>
    if (σ k 2) ≤ x3 then
    some (x2, σ)
    else
    if 12 ≤ x3 then
    some (x2, σ)
    else
    if inb x3 12 then
    if (σ (k + 1) (Int32.toNatClampNeg x3)) ≤ x1 then
    if inb x3 12 then
    nm (1000 * (σ (k + 2) (Int32.toNatClampNeg x3))) (fun x2_6 =>
    F_X4_temperatureAt_L4 k N x1 x2_6 (x3 + 1) σ)
    else none
    else
    if x3 = 0 then
    if inb 0 12 then
    some ((1000 * (σ (k + 2) (Int32.toNatClampNeg 0))), σ)
    else none
    else
    (F_X4_temperatureBefore k x3 x1 σ).bind (fun q8 =>
    some (q8.1, q8.2))
    else none
def F_X4_temperatureAt (k : Nat) (x1 : Int32) (σ : xM) : Option (Int32 × xM) :=
  F_X4_temperatureAt_L4 k FU x1 0 0 σ
def F_X3_beginMinute_J51 (k : Nat) (x1 : Int32) (σ : xM) : Option (Unit × xM) :=
  nm (((σ k 3) * ((σ k 17) - x1)) / 1000) (fun x2_4 =>
  nm (xup σ k 4 ((σ k 4) - x2_4)) (fun σ5 =>
  nm (xup σ5 (k + 1) 2 ((σ5 (k + 1) 2) + x2_4)) (fun σ6 =>
  some ((), σ6))))
def F_X3_beginMinute (k : Nat) (x1 : Int32) (σ : xM) : Option (Unit × xM) :=
  (F_X3_temperature k σ).bind (fun q1 =>
  nm (xup q1.2 k 17 q1.1) (fun σ2 =>
  if (bz (σ2 k 8)) = 0 then
  F_X3_beginMinute_J51 k x1 σ2
  else
  if (bz (σ2 k 10)) = 0 then
  nm (xup σ2 k 4 ((σ2 k 4) + (σ2 k 2))) (fun σ8 =>
  nm (xup σ8 (k + 1) 1 ((σ8 (k + 1) 1) + (σ8 k 2))) (fun σ9 =>
  F_X3_beginMinute_J51 k x1 σ9))
  else
  F_X3_beginMinute_J51 k x1 σ2))
def F_X1_heatRooms_L14 (k : Nat) : Nat → Int32 → Int32 → xM → Option (Unit × xM)
  | 0, _, _, _ => none
  | N + 1, x1, x2, σ =>
    if (σ k 4) ≤ x2 then
    some ((), σ)
    else
    (F_X1_roomAt k x2 σ).bind (fun q3 =>
    oc q3.1 (
    F_X1_heatRooms_L14 k N x1 (x2 + 1) q3.2)
    (fun r4 =>
    if kd r4 = 3 then
    (F_X3_beginMinute r4 x1 q3.2).bind (fun q5 =>
    F_X1_heatRooms_L14 k N x1 (x2 + 1) q5.2)
    else none))
def F_X1_heatRooms (k : Nat) (σ : xM) : Option (Unit × xM) :=
  (F_X4_temperatureAt (k + 4) (σ k 5) σ).bind (fun q1 =>
  F_X1_heatRooms_L14 k FU q1.1 0 q1.2)
def F_X3_giveToOthers (k : Nat) (x1 : Int32) (σ : xM) : Option (Unit × xM) :=
  nm (xup σ k 4 ((σ k 4) - x1)) (fun σ1 =>
  nm (xup σ1 (k + 1) 3 ((σ1 (k + 1) 3) + x1)) (fun σ2 =>
  some ((), σ2)))
def F_X1_exchangeHeat_LL (k : Nat) : Nat → Nat → Int32 → Int32 → xM → Option (Unit × xM)
  | 0, _, _, _, _ => none
  | N + 1, t, x1, x2, σ =>
  if t = 2 then
    if (σ k 4) ≤ x1 then
    some ((), σ)
    else
    nm (x1 + 1) (fun x2_2 =>
    F_X1_exchangeHeat_LL k N 14 x1 x2_2 σ)
  else
    if (σ k 4) ≤ x2 then
    F_X1_exchangeHeat_LL k N 2 (x1 + 1) 0 σ
    else
    (F_X1_roomAt k x1 σ).bind (fun q4 =>
    oc q4.1 (
    (F_X1_roomAt k x2 q4.2).bind (fun q6 =>
    oc q6.1 (
    F_X1_exchangeHeat_LL k N 14 x1 (x2 + 1) q6.2)
    (fun r7 =>
    if kd r7 = 3 then
    F_X1_exchangeHeat_LL k N 14 x1 (x2 + 1) q6.2
    else none)))
    (fun r5 =>
    if kd r5 = 3 then
    (F_X1_roomAt k x2 q4.2).bind (fun q8 =>
    oc q8.1 (
    F_X1_exchangeHeat_LL k N 14 x1 (x2 + 1) q8.2)
    (fun r9 =>
    if kd r9 = 3 then
    nm ((q8.2 r5 17) - (q8.2 r9 17)) (fun x5_10 =>
    (F_X1_linkOf k x1 x2 q8.2).bind (fun q11 =>
    nm ((q11.1 * x5_10) / 1000) (fun x6_12 =>
    (F_X3_giveToOthers r5 x6_12 q11.2).bind (fun q13 =>
    (F_X3_giveToOthers r9 (-x6_12) q13.2).bind (fun q14 =>
    F_X1_exchangeHeat_LL k N 14 x1 (x2 + 1) q14.2)))))
    else none))
    else none))
def F_X1_exchangeHeat (k : Nat) (σ : xM) : Option (Unit × xM) :=
  F_X1_exchangeHeat_LL k FU 2 0 0 σ
def F_X3_isBladeCold (k : Nat) (σ : xM) : Option (Int32 × xM) :=
  if ((σ k 5) - (σ k 6)) < (σ k 7) then
  some (0, σ)
  else
  some (1, σ)
def F_X1_close_J38 (k : Nat) (r1 : Nat)  (σ : xM) : Option (Unit × xM) :=
  nm (xup σ r1 8 1) (fun σ2 =>
  nm (xup σ2 r1 13 ((σ2 r1 13) + 1)) (fun σ3 =>
  nm (xup σ3 r1 14 (σ3 k 5)) (fun σ4 =>
  nm (xup σ4 r1 11 ((σ4 r1 11) + (σ4 r1 2))) (fun σ5 =>
  (F_X1_number k 1 σ5).bind (fun q6 =>
  if (σ5 r1 11) < q6.1 then
  some ((), q6.2)
  else
  nm (xup q6.2 r1 9 1) (fun σ8 =>
  some ((), σ8)))))))
def F_X1_close (k : Nat) (r1 : Nat) (σ : xM) : Option (Unit × xM) :=
  if (σ r1 13) ≤ 0 then
  F_X1_close_J38 k r1  σ
  else
  (F_X1_number k 3 σ).bind (fun q9 =>
  if q9.1 ≤ ((σ k 5) - (σ r1 14)) then
  F_X1_close_J38 k r1  q9.2
  else
  (F_X1_number k 4 q9.2).bind (fun q11 =>
  nm (xup q11.2 r1 15 ((q9.2 r1 15) + q11.1)) (fun σ12 =>
  F_X1_close_J38 k r1  σ12)))
def F_X3_isBladeHot (k : Nat) (σ : xM) : Option (Int32 × xM) :=
  if (σ k 7) < ((σ k 5) + (σ k 6)) then
  some (0, σ)
  else
  some (1, σ)
def F_X3_tryToOpen (k : Nat) (x1 : Int32) (σ : xM) : Option (Unit × xM) :=
  if (bz (σ k 9)) = 0 then
  nm (xup σ k 8 0) (fun σ8 =>
  some ((), σ8))
  else
  nm (xup σ k 12 ((σ k 12) + 1)) (fun σ2 =>
  if (σ2 k 12) < x1 then
  some ((), σ2)
  else
  nm (xup σ2 k 8 0) (fun σ4 =>
  nm (xup σ4 k 9 0) (fun σ5 =>
  nm (xup σ5 k 12 0) (fun σ6 =>
  nm (xup σ6 k 11 ((σ6 k 11) / 2)) (fun σ7 =>
  some ((), σ7))))))
def F_X1_settle_J118 (r1 : Nat) (x2 : Int32) (y0 : Int32) (σ : xM) : Option (Int32 × xM) :=
  nm (xup σ r1 16 y0) (fun σ9 =>
  if (bz (σ9 r1 8)) = x2 then
  some (0, σ9)
  else
  some (1, σ9))
def F_X1_settle_J117 (r1 : Nat) (x2 : Int32) (σ : xM) : Option (Int32 × xM) :=
  F_X1_settle_J118 r1 x2 0 σ
def F_X1_settle_J93 (r1 : Nat) (x2 : Int32) (σ : xM) : Option (Int32 × xM) :=
  if (bz (σ r1 8)) = 0 then
  F_X1_settle_J117 r1 x2 σ
  else
  (F_X3_isBladeHot r1 σ).bind (fun q11 =>
  if (bz q11.1) = 0 then
  F_X1_settle_J117 r1 x2 q11.2
  else
  F_X1_settle_J118 r1 x2 ((q11.2 r1 16) + 1) q11.2)
def F_X1_settle_J70 (k : Nat) (r1 : Nat) (x2 : Int32) (σ : xM) : Option (Int32 × xM) :=
  if (bz (σ r1 8)) = 0 then
  F_X1_settle_J93 r1 x2 σ
  else
  (F_X3_isBladeHot r1 σ).bind (fun q13 =>
  if (bz q13.1) = 0 then
  F_X1_settle_J93 r1 x2 q13.2
  else
  (F_X1_number k 2 q13.2).bind (fun q15 =>
  (F_X3_tryToOpen r1 q15.1 q15.2).bind (fun q16 =>
  F_X1_settle_J93 r1 x2 q16.2)))
def F_X1_settle_J24 (k : Nat) (r1 : Nat) (x2 : Int32) (x3 : Int32) (σ : xM) : Option (Int32 × xM) :=
  (F_X1_number k 0 σ).bind (fun q4 =>
  nm (xup q4.2 r1 7 ((σ r1 7) + (((x3 - (σ r1 7)) * q4.1) / 100))) (fun σ5 =>
  if (bz (σ5 r1 8)) = 0 then
  (F_X3_isBladeCold r1 σ5).bind (fun q17 =>
  if (bz q17.1) = 0 then
  F_X1_settle_J70 k r1 x2 q17.2
  else
  (F_X1_close k r1 q17.2).bind (fun q19 =>
  F_X1_settle_J93 r1 x2 q19.2))
  else
  F_X1_settle_J70 k r1 x2 σ5))
def F_X1_settle (k : Nat) (r1 : Nat) (σ : xM) : Option (Int32 × xM) :=
  (F_X3_temperature r1 σ).bind (fun q1 =>
  (F_X1_number k 5 q1.2).bind (fun q2 =>
  if q1.1 ≤ q2.1 then
  F_X1_settle_J24 k r1 (bz (σ r1 8)) q1.1 q2.2
  else
  nm (xup q2.2 r1 10 1) (fun σ20 =>
  F_X1_settle_J24 k r1 (bz (σ r1 8)) q1.1 σ20)))
def F_X1_passMinute_L12 (k : Nat) : Nat → Int32 → Int32 → xM → Option (Int32 × xM)
  | 0, _, _, _ => none
  | N + 1, x1, x2, σ =>
    if (σ k 4) ≤ x2 then
    nm (xup σ k 5 ((σ k 5) + 1)) (fun σ4 =>
    some (x1, σ4))
    else
    (F_X1_roomAt k x2 σ).bind (fun q5 =>
    oc q5.1 (
    F_X1_passMinute_L12 k N x1 (x2 + 1) q5.2)
    (fun r6 =>
    if kd r6 = 3 then
    (F_X1_settle k r6 q5.2).bind (fun q7 =>
    if (bz q7.1) = 0 then
    F_X1_passMinute_L12 k N x1 (x2 + 1) q7.2
    else
    F_X1_passMinute_L12 k N (x1 + 1) (x2 + 1) q7.2)
    else none))
def F_X1_passMinute (k : Nat) (σ : xM) : Option (Int32 × xM) :=
  (F_X1_heatRooms k σ).bind (fun q1 =>
  (F_X1_exchangeHeat k q1.2).bind (fun q2 =>
  F_X1_passMinute_L12 k FU 0 0 q2.2))
def F_X1_passMinutes_L4 (k : Nat) : Nat → Int32 → Int32 → Int32 → xM → Option (Int32 × xM)
  | 0, _, _, _, _ => none
  | N + 1, x1, x2, x3, σ =>
    if x1 ≤ x3 then
    some (x2, σ)
    else
    (F_X1_passMinute k σ).bind (fun q2 =>
    nm (x2 + q2.1) (fun x2_3 =>
    F_X1_passMinutes_L4 k N x1 x2_3 (x3 + 1) q2.2))
def F_X1_passMinutes (k : Nat) (x1 : Int32) (σ : xM) : Option (Int32 × xM) :=
  F_X1_passMinutes_L4 k FU x1 0 0 σ
def F_X2_stateAt (k : Nat) (x1 : Int32) (σ : xM) : Option (Option Nat × xM) :=
  if x1 < 0 then
  some (none, σ)
  else
  if 6 ≤ x1 then
  some (none, σ)
  else
  if inb x1 6 then
  some (some ((k + 1) + 1 + 19 * Int32.toNatClampNeg x1), σ)
  else none
def F_J9_min_7cf53 (x0 : Int32) (x1 : Int32) (σ : xM) : Option (Int32 × xM) :=
  if x1 < x0 then
  some (x1, σ)
  else
  some (x0, σ)
def F_X2_save (k : Nat) (r1 : Nat) (σ : xM) : Option (Unit × xM) :=
  (F_X2_stateAt k (σ k 1) σ).bind (fun q1 =>
  oc q1.1 (
  some ((), q1.2))
  (fun r2 =>
  if kd r2 = 1 then
  (F_X1_copyFrom r2 r1 q1.2).bind (fun q3 =>
  nm (xup q3.2 k 1 (((q3.2 k 1) + 1) - ((q3.2 k 1) + 1) / 6 * 6)) (fun σ4 =>
  (F_J9_min_7cf53 ((σ4 k 2) + 1) 6 σ4).bind (fun q5 =>
  nm (xup q5.2 k 2 q5.1) (fun σ6 =>
  some ((), σ6)))))
  else none))
def F_X2_restore (k : Nat) (r1 : Nat) (σ : xM) : Option (Unit × xM) :=
  nm ((((σ k 1) + 6) - 1) - (((σ k 1) + 6) - 1) / 6 * 6) (fun x2_1 =>
  (F_X2_stateAt k x2_1 σ).bind (fun q2 =>
  oc q2.1 (
  some ((), q2.2))
  (fun r3 =>
  if kd r3 = 1 then
  if (q2.2 k 2) ≤ 0 then
  some ((), q2.2)
  else
  (F_X1_copyFrom r1 r3 q2.2).bind (fun q5 =>
  nm (xup q5.2 k 1 x2_1) (fun σ6 =>
  nm (xup σ6 k 2 ((σ6 k 2) - 1)) (fun σ7 =>
  some ((), σ7))))
  else none)))
def F_X3_bringIn (k : Nat) (x1 : Int32) (σ : xM) : Option (Unit × xM) :=
  nm (xup σ k 4 ((σ k 4) + x1)) (fun σ1 =>
  nm (xup σ1 (k + 1) 4 ((σ1 (k + 1) 4) + x1)) (fun σ2 =>
  some ((), σ2)))
def F_X3_renewContact (k : Nat) (σ : xM) : Option (Unit × xM) :=
  nm (xup σ k 11 0) (fun σ1 =>
  nm (xup σ1 k 12 0) (fun σ2 =>
  nm (xup σ2 k 9 0) (fun σ3 =>
  nm (xup σ3 k 8 0) (fun σ4 =>
  some ((), σ4)))))
def F_X3_property (k : Nat) (x1 : Int32) (σ : xM) : Option (Int32 × xM) :=
  if x1 = 0 then
  (F_X3_temperature k σ).bind (fun q2 =>
  some (q2.1, q2.2))
  else if x1 = 1 then
  some ((σ k 4), σ)
  else if x1 = 2 then
  some ((σ k 7), σ)
  else if x1 = 3 then
  if (bz (σ k 8)) = 0 then
  some (0, σ)
  else
  some (1, σ)
  else if x1 = 4 then
  if (bz (σ k 9)) = 0 then
  some (0, σ)
  else
  some (1, σ)
  else if x1 = 5 then
  some ((σ k 11), σ)
  else if x1 = 6 then
  some ((σ k 12), σ)
  else if x1 = 7 then
  some ((σ k 13), σ)
  else if x1 = 8 then
  some ((σ k 15), σ)
  else if x1 = 9 then
  some ((σ k 16), σ)
  else if x1 = 10 then
  if (bz (σ k 10)) = 0 then
  some (0, σ)
  else
  some (1, σ)
  else if x1 = 11 then
  some ((σ k 14), σ)
  else if x1 = 12 then
  some ((σ k 5), σ)
  else if x1 = 13 then
  some ((σ k 6), σ)
  else 
  some ((-1000001), σ)
def F_X4_canTake (k : Nat) (x1 : Int32) (σ : xM) : Option (Int32 × xM) :=
  if (σ k 2) < 0 then
  some (0, σ)
  else
  if 12 ≤ (σ k 2) then
  some (0, σ)
  else
  if x1 ≤ 9999 then
  if (σ k 2) = 0 then
  some (1, σ)
  else
  if inb ((σ k 2) - 1) 12 then
  if x1 ≤ (σ (k + 1) (Int32.toNatClampNeg ((σ k 2) - 1))) then
  some (0, σ)
  else
  some (1, σ)
  else none
  else
  some (0, σ)
def F_X4_add (k : Nat) (x1 : Int32) (x2 : Int32) (σ : xM) : Option (Unit × xM) :=
  if (σ k 2) < 0 then
  some ((), σ)
  else
  if 12 ≤ (σ k 2) then
  some ((), σ)
  else
  if inb (σ k 2) 12 then
  nm (xup σ (k + 1) (Int32.toNatClampNeg (σ k 2)) x1) (fun σ4 =>
  if inb (σ4 k 2) 12 then
  nm (xup σ4 (k + 2) (Int32.toNatClampNeg (σ4 k 2)) x2) (fun σ6 =>
  nm (xup σ6 k 2 ((σ6 k 2) + 1)) (fun σ7 =>
  some ((), σ7)))
  else none)
  else none
def F_X5_append (k : Nat) (x1 : Int32) (σ : xM) : Option (Int32 × xM) :=
  if (σ k 1) < 0 then
  some (0, σ)
  else
  if (σ k 1) < 100 then
  if inb (σ k 1) 100 then
  nm (xup σ (k + 1) (Int32.toNatClampNeg (σ k 1)) x1) (fun σ4 =>
  nm (xup σ4 k 1 ((σ4 k 1) + 1)) (fun σ5 =>
  some (1, σ5)))
  else none
  else
  some (0, σ)
def F_X5_here (k : Nat) (σ : xM) : Option (Int32 × xM) :=
  if (σ k 2) < 0 then
  some ((-1), σ)
  else
  if (σ k 1) ≤ (σ k 2) then
  some ((-1), σ)
  else
  if 100 ≤ (σ k 2) then
  some ((-1), σ)
  else
  if inb (σ k 2) 100 then
  some ((σ (k + 1) (Int32.toNatClampNeg (σ k 2))), σ)
  else none
def F_X5_skipSpaces_L0 (k : Nat) : Nat → xM → Option (Unit × xM)
  | 0, _ => none
  | N + 1, σ =>
    if (σ k 1) ≤ (σ k 2) then
    some ((), σ)
    else
    (F_X5_here k σ).bind (fun q6 =>
    if q6.1 = 32 then
    nm (xup q6.2 k 2 ((q6.2 k 2) + 1)) (fun σ8 =>
    F_X5_skipSpaces_L0 k N  σ8)
    else
    some ((), q6.2))
def F_X5_skipSpaces (k : Nat) (σ : xM) : Option (Unit × xM) :=
  if (σ k 1) ≤ (σ k 2) then
  some ((), σ)
  else
  (F_X5_here k σ).bind (fun q2 =>
  if q2.1 = 32 then
  nm (xup q2.2 k 2 ((q2.2 k 2) + 1)) (fun σ4 =>
  F_X5_skipSpaces_L0 k FU  σ4)
  else
  some ((), q2.2))
def F_X6_within (x0 : Int32) (x1 : Int32) (x2 : Int32) (σ : xM) : Option (Int32 × xM) :=
  if x0 < x1 then
  some (0, σ)
  else
  if x2 < x0 then
  some (0, σ)
  else
  some (1, σ)
def F_X5_isDigitHere (k : Nat) (σ : xM) : Option (Int32 × xM) :=
  (F_X5_here k σ).bind (fun q1 =>
  (F_X6_within q1.1 48 57 q1.2).bind (fun q2 =>
  some (q2.1, q2.2)))
def F_X5_readNumber_J71 (k : Nat) (x1 : Int32) (x2 : Int32) (x3 : Int32) (σ : xM) : Option (Int32 × xM) :=
  if x1 = 0 then
  some (x3, σ)
  else
  if (σ k 2) ≤ (x2 + 1) then
  some (x3, σ)
  else
  some (1000000, σ)
def F_X5_readNumber_L22 (k : Nat) : Nat → Int32 → Int32 → Int32 → xM → Option (Int32 × xM)
  | 0, _, _, _, _ => none
  | N + 1, x1, x2, x3, σ =>
    if (σ k 1) ≤ (σ k 2) then
    F_X5_readNumber_J71 k x1 x2 x3 σ
    else
    (F_X5_isDigitHere k σ).bind (fun q7 =>
    if (bz q7.1) = 0 then
    F_X5_readNumber_J71 k x1 x2 x3 q7.2
    else
    (F_X5_here k q7.2).bind (fun q9 =>
    (F_J9_min_7cf53 (((10 * x3) + q9.1) - 48) 1000000 q9.2).bind (fun q10 =>
    nm (xup q10.2 k 2 ((q10.2 k 2) + 1)) (fun σ11 =>
    F_X5_readNumber_L22 k N x1 x2 q10.1 σ11))))
def F_X5_readNumber_J14 (k : Nat) (y0 : Int32) (σ : xM) : Option (Int32 × xM) :=
  nm (σ k 2) (fun x2_3 =>
  F_X5_readNumber_L22 k FU y0 x2_3 0 σ)
def F_X5_readNumber (k : Nat) (σ : xM) : Option (Int32 × xM) :=
  (F_X5_here k σ).bind (fun q1 =>
  if q1.1 = 48 then
  F_X5_readNumber_J14 k 1 q1.2
  else
  F_X5_readNumber_J14 k 0 q1.2)
def F_X5_readTemperature_J78 (k : Nat) (r1 : Nat) (y0 : Int32) (y1 : Int32) (σ : xM) : Option (Int32 × xM) :=
  (F_X4_add r1 y1 y0 σ).bind (fun q10 =>
  (F_X5_skipSpaces k q10.2).bind (fun q11 =>
  some ((-1), q11.2)))
def F_X5_readTemperature_J36 (k : Nat) (r1 : Nat) (x2 : Int32) (x3 : Int32) (x4 : Int32) (σ : xM) : Option (Int32 × xM) :=
  (F_X5_isDigitHere k σ).bind (fun q5 =>
  if (bz q5.1) = 0 then
  some ((q5.2 k 2), q5.2)
  else
  (F_X5_readNumber k q5.2).bind (fun q7 =>
  if q7.1 ≤ 40 then
  if x4 = 0 then
  F_X5_readTemperature_J78 k r1 q7.1 x2 q7.2
  else
  F_X5_readTemperature_J78 k r1 (-q7.1) x2 q7.2
  else
  some (x3, q7.2)))
def F_X5_readTemperature_J19 (k : Nat) (r1 : Nat) (x2 : Int32) (x3 : Int32) (y0 : Int32) (σ : xM) : Option (Int32 × xM) :=
  if y0 = 0 then
  F_X5_readTemperature_J36 k r1 x2 x3 y0 σ
  else
  nm (xup σ k 2 ((σ k 2) + 1)) (fun σ12 =>
  F_X5_readTemperature_J36 k r1 x2 x3 y0 σ12)
def F_X5_readTemperature (k : Nat) (r1 : Nat) (x2 : Int32) (σ : xM) : Option (Int32 × xM) :=
  nm (σ k 2) (fun x3_1 =>
  (F_X5_here k σ).bind (fun q2 =>
  if q2.1 = 45 then
  F_X5_readTemperature_J19 k r1 x2 x3_1 1 q2.2
  else
  F_X5_readTemperature_J19 k r1 x2 x3_1 0 q2.2))
def F_X5_readPoint (k : Nat) (r1 : Nat) (σ : xM) : Option (Int32 × xM) :=
  (F_X5_isDigitHere k σ).bind (fun q1 =>
  if (bz q1.1) = 0 then
  some ((q1.2 k 2), q1.2)
  else
  nm (q1.2 k 2) (fun x2_3 =>
  (F_X5_readNumber k q1.2).bind (fun q4 =>
  (F_X4_canTake r1 q4.1 q4.2).bind (fun q5 =>
  if (bz q5.1) = 0 then
  some (x2_3, q5.2)
  else
  (F_X5_skipSpaces k q5.2).bind (fun q7 =>
  (F_X5_here k q7.2).bind (fun q8 =>
  if q8.1 = 61 then
  nm (xup q8.2 k 2 ((q8.2 k 2) + 1)) (fun σ10 =>
  (F_X5_skipSpaces k σ10).bind (fun q11 =>
  (F_X5_readTemperature k r1 q4.1 q11.2).bind (fun q12 =>
  some (q12.1, q12.2))))
  else
  some ((q8.2 k 2), q8.2)))))))
def F_X5_readInto_L30 (k : Nat) (r1 : Nat) : Nat → Int32 → xM → Option (Int32 × xM)
  | 0, _, _ => none
  | N + 1, x2, σ =>
    if x2 = (-1) then
    if (σ k 1) ≤ (σ k 2) then
    some (x2, σ)
    else
    (F_X5_here k σ).bind (fun q9 =>
    if q9.1 = 59 then
    nm (xup q9.2 k 2 ((q9.2 k 2) + 1)) (fun σ11 =>
    (F_X5_skipSpaces k σ11).bind (fun q12 =>
    (F_X5_readPoint k r1 q12.2).bind (fun q13 =>
    F_X5_readInto_L30 k r1 N q13.1 q13.2)))
    else
    some ((q9.2 k 2), q9.2))
    else
    some (x2, σ)
def F_X5_readInto (k : Nat) (r1 : Nat) (σ : xM) : Option (Int32 × xM) :=
  nm (xup σ r1 2 0) (fun σ1 =>
  nm (xup σ1 k 2 0) (fun σ2 =>
  (F_X5_skipSpaces k σ2).bind (fun q3 =>
  (F_X5_here k q3.2).bind (fun q4 =>
  if q4.1 = (-1) then
  some ((-1), q4.2)
  else
  (F_X5_readPoint k r1 q4.2).bind (fun q6 =>
  F_X5_readInto_L30 k r1 FU q6.1 q6.2)))))
def F_X6_addRoom (k : Nat) (x1 : Int32) (x2 : Int32) (x3 : Int32) (x4 : Int32) (σ : xM) : Option (Int32 × xM) :=
  (F_X6_within x1 10 500 σ).bind (fun q1 =>
  if (bz q1.1) = 0 then
  some ((-1000001), q1.2)
  else
  (F_X6_within x2 1 200 q1.2).bind (fun q3 =>
  if (bz q3.1) = 0 then
  some ((-1000001), q3.2)
  else
  (F_X6_within x3 0 50 q3.2).bind (fun q5 =>
  if (bz q5.1) = 0 then
  some ((-1000001), q5.2)
  else
  if (x1 / 2) < x3 then
  some ((-1000001), q5.2)
  else
  (F_X6_within x4 (-40) 40 q5.2).bind (fun q8 =>
  if (bz q8.1) = 0 then
  some ((-1000001), q8.2)
  else
  if (q8.2 (k + 1) 4) < 6 then
  (F_X2_save (k + 39) (k + 1) q8.2).bind (fun q11 =>
  (F_X1_beginRoom (k + 1) x1 x2 x3 x4 q11.2).bind (fun q12 =>
  some (q12.1, q12.2)))
  else
  some ((-1000003), q8.2)))))
def F_X6_setLink (k : Nat) (x1 : Int32) (x2 : Int32) (x3 : Int32) (σ : xM) : Option (Int32 × xM) :=
  (F_X1_hasPair (k + 1) x1 x2 σ).bind (fun q1 =>
  if (bz q1.1) = 0 then
  some ((-1000001), q1.2)
  else
  (F_X6_within x3 0 50 q1.2).bind (fun q3 =>
  if (bz q3.1) = 0 then
  some ((-1000001), q3.2)
  else
  (F_X1_linkOf (k + 1) x1 x2 q3.2).bind (fun q5 =>
  nm (x3 - q5.1) (fun x5_6 =>
  (F_X1_canCarry (k + 1) x1 x5_6 q5.2).bind (fun q7 =>
  if (bz q7.1) = 0 then
  some ((-1000002), q7.2)
  else
  (F_X1_canCarry (k + 1) x2 x5_6 q7.2).bind (fun q9 =>
  if (bz q9.1) = 0 then
  some ((-1000002), q9.2)
  else
  (F_X2_save (k + 39) (k + 1) q9.2).bind (fun q11 =>
  (F_X1_putLink (k + 1) x1 x2 x3 q11.2).bind (fun q12 =>
  some (q5.1, q12.2)))))))))
def F_X6_setThermostat_J76  (x2 : Int32) (x3 : Int32) (r4 : Nat) (y0 : Int32) (σ : xM) : Option (Int32 × xM) :=
  nm (xup σ r4 5 x2) (fun σ9 =>
  nm (xup σ9 r4 6 x3) (fun σ10 =>
  if y0 = 0 then
  some (1, σ10)
  else
  some (0, σ10)))
def F_X6_setThermostat_J75  (x2 : Int32) (x3 : Int32) (r4 : Nat) (σ : xM) : Option (Int32 × xM) :=
  F_X6_setThermostat_J76  x2 x3 r4 0 σ
def F_X6_setThermostat (k : Nat) (x1 : Int32) (x2 : Int32) (x3 : Int32) (σ : xM) : Option (Int32 × xM) :=
  (F_X1_roomAt (k + 1) x1 σ).bind (fun q1 =>
  oc q1.1 (
  some ((-1000001), q1.2))
  (fun r2 =>
  if kd r2 = 3 then
  (F_X6_within x2 5000 35000 q1.2).bind (fun q3 =>
  if (bz q3.1) = 0 then
  some ((-1000001), q3.2)
  else
  (F_X6_within x3 100 5000 q3.2).bind (fun q5 =>
  if (bz q5.1) = 0 then
  some ((-1000001), q5.2)
  else
  (F_X2_save (k + 39) (k + 1) q5.2).bind (fun q7 =>
  if (q7.2 r2 5) = x2 then
  if (q7.2 r2 6) = x3 then
  F_X6_setThermostat_J76  x2 x3 r2 1 q7.2
  else
  F_X6_setThermostat_J75  x2 x3 r2 q7.2
  else
  F_X6_setThermostat_J75  x2 x3 r2 q7.2)))
  else none))
def F_X6_isNumberInRange (x0 : Int32) (x1 : Int32) (σ : xM) : Option (Int32 × xM) :=
  if x0 < 0 then
  some (0, σ)
  else
  if 7 ≤ x0 then
  some (0, σ)
  else
  if 7 ≤ x0 then
  some (0, σ)
  else
  if inb x0 7 then
  if inb x0 7 then
  (F_X6_within x1 (stI 1 (Int32.toNatClampNeg x0)) (stI 2 (Int32.toNatClampNeg x0)) σ).bind (fun q6 =>
  if (bz q6.1) = 0 then
  some (0, q6.2)
  else
  some (1, q6.2))
  else none
  else none
def F_X6_setNumber (k : Nat) (x1 : Int32) (x2 : Int32) (σ : xM) : Option (Int32 × xM) :=
  (F_X6_isNumberInRange x1 x2 σ).bind (fun q1 =>
  if (bz q1.1) = 0 then
  some ((-1000001), q1.2)
  else
  (F_X2_save (k + 39) (k + 1) q1.2).bind (fun q3 =>
  (F_X1_number (k + 1) x1 q3.2).bind (fun q4 =>
  (F_X1_putNumber (k + 1) x1 x2 q4.2).bind (fun q5 =>
  some (q4.1, q5.2)))))
def F_X6_warm (k : Nat) (x1 : Int32) (x2 : Int32) (σ : xM) : Option (Int32 × xM) :=
  (F_X1_roomAt (k + 1) x1 σ).bind (fun q1 =>
  oc q1.1 (
  some ((-1000001), q1.2))
  (fun r2 =>
  if kd r2 = 3 then
  (F_X6_within x2 (-50000) 50000 q1.2).bind (fun q3 =>
  if (bz q3.1) = 0 then
  some ((-1000001), q3.2)
  else
  (F_X3_temperatureWith r2 ((q3.2 r2 4) + x2) q3.2).bind (fun q5 =>
  (F_X6_within q5.1 (-200000) 200000 q5.2).bind (fun q6 =>
  if (bz q6.1) = 0 then
  some ((-1000002), q6.2)
  else
  (F_X2_save (k + 39) (k + 1) q6.2).bind (fun q8 =>
  (F_X3_bringIn r2 x2 q8.2).bind (fun q9 =>
  some (q5.1, q9.2))))))
  else none))
def F_X6_service (k : Nat) (x1 : Int32) (σ : xM) : Option (Int32 × xM) :=
  (F_X1_roomAt (k + 1) x1 σ).bind (fun q1 =>
  oc q1.1 (
  some ((-1000001), q1.2))
  (fun r2 =>
  if kd r2 = 3 then
  (F_X2_save (k + 39) (k + 1) q1.2).bind (fun q3 =>
  nm (q3.2 r2 11) (fun x3_4 =>
  (F_X3_renewContact r2 q3.2).bind (fun q5 =>
  some (x3_4, q5.2))))
  else none))
def F_X6_resetCutout (k : Nat) (x1 : Int32) (σ : xM) : Option (Int32 × xM) :=
  (F_X1_roomAt (k + 1) x1 σ).bind (fun q1 =>
  oc q1.1 (
  some ((-1000001), q1.2))
  (fun r2 =>
  if kd r2 = 3 then
  (F_X3_temperature r2 q1.2).bind (fun q3 =>
  if (bz (q3.2 r2 10)) = 0 then
  some ((-1000002), q3.2)
  else
  (F_X1_number (k + 1) 5 q3.2).bind (fun q5 =>
  if q3.1 ≤ q5.1 then
  (F_X2_save (k + 39) (k + 1) q5.2).bind (fun q7 =>
  nm (xup q7.2 r2 10 0) (fun σ8 =>
  some (q3.1, σ8)))
  else
  some ((-1000002), q5.2)))
  else none))
def F_X6_room (k : Nat) (x1 : Int32) (x2 : Int32) (σ : xM) : Option (Int32 × xM) :=
  (F_X1_roomAt (k + 1) x1 σ).bind (fun q1 =>
  oc q1.1 (
  some ((-1000001), q1.2))
  (fun r2 =>
  if kd r2 = 3 then
  (F_X3_property r2 x2 q1.2).bind (fun q3 =>
  some (q3.1, q3.2))
  else none))
def F_X6_book (k : Nat) (x1 : Int32) (x2 : Int32) (σ : xM) : Option (Int32 × xM) :=
  (F_X1_roomAt (k + 1) x1 σ).bind (fun q1 =>
  oc q1.1 (
  some ((-1000001), q1.2))
  (fun r2 =>
  if kd r2 = 3 then
  (F_X0_sum (r2 + 1) x2 q1.2).bind (fun q3 =>
  some (q3.1, q3.2))
  else none))
def F_X6_link (k : Nat) (x1 : Int32) (x2 : Int32) (σ : xM) : Option (Int32 × xM) :=
  (F_X1_hasPair (k + 1) x1 x2 σ).bind (fun q1 =>
  if (bz q1.1) = 0 then
  some ((-1000001), q1.2)
  else
  (F_X1_linkOf (k + 1) x1 x2 q1.2).bind (fun q3 =>
  some (q3.1, q3.2)))
def F_X6_count (k : Nat) (x1 : Int32) (σ : xM) : Option (Int32 × xM) :=
  (F_X6_within x1 0 6 σ).bind (fun q1 =>
  if (bz q1.1) = 0 then
  if x1 = 7 then
  some ((q1.2 (k + 1) 4), q1.2)
  else if x1 = 8 then
  some ((q1.2 (k + 1) 5), q1.2)
  else if x1 = 9 then
  some ((q1.2 (k + 5) 2), q1.2)
  else if x1 = 10 then
  (F_X1_suspectRooms (k + 1) q1.2).bind (fun q7 =>
  some (q7.1, q7.2))
  else if x1 = 11 then
  (F_X1_allFines (k + 1) q1.2).bind (fun q9 =>
  some (q9.1, q9.2))
  else if x1 = 12 then
  some ((q1.2 (k + 155) 1), q1.2)
  else if x1 = 13 then
  some ((q1.2 (k + 39) 2), q1.2)
  else 
  some ((-1000001), q1.2)
  else
  (F_X1_number (k + 1) x1 q1.2).bind (fun q12 =>
  some (q12.1, q12.2)))
def F_X6_appendCharacter (k : Nat) (x1 : Int32) (σ : xM) : Option (Int32 × xM) :=
  (F_X6_within x1 0 255 σ).bind (fun q1 =>
  if (bz q1.1) = 0 then
  some ((-1000001), q1.2)
  else
  (F_X5_append (k + 155) x1 q1.2).bind (fun q3 =>
  if (bz q3.1) = 0 then
  some ((-1000003), q3.2)
  else
  some ((q3.2 (k + 155) 1), q3.2)))
def F_X6_clearText (k : Nat) (σ : xM) : Option (Int32 × xM) :=
  nm (σ (k + 155) 1) (fun x1_1 =>
  nm (xup σ (k + 155) 1 0) (fun σ2 =>
  some (x1_1, σ2)))
def F_X6_load (k : Nat) (σ : xM) : Option (Int32 × xM) :=
  (F_X5_readInto (k + 155) (k + 157) σ).bind (fun q1 =>
  if q1.1 = (-1) then
  (F_X2_save (k + 39) (k + 1) q1.2).bind (fun q3 =>
  (F_X4_copyFrom (k + 5) (k + 157) q3.2).bind (fun q4 =>
  nm (xup q4.2 (k + 155) 1 0) (fun σ5 =>
  some ((σ5 (k + 5) 2), σ5))))
  else
  some (((-10) - q1.1), q1.2))
def F_X6_outside (k : Nat) (x1 : Int32) (σ : xM) : Option (Int32 × xM) :=
  (F_X6_within x1 0 20000 σ).bind (fun q1 =>
  if (bz q1.1) = 0 then
  some ((-1000001), q1.2)
  else
  (F_X4_temperatureAt (k + 5) x1 q1.2).bind (fun q3 =>
  some (q3.1, q3.2)))
def F_X6_pass (k : Nat) (x1 : Int32) (σ : xM) : Option (Int32 × xM) :=
  (F_X6_within x1 1 500 σ).bind (fun q1 =>
  if (bz q1.1) = 0 then
  some ((-1000001), q1.2)
  else
  if (q1.2 (k + 1) 4) = 0 then
  some ((-1000002), q1.2)
  else
  if x1 ≤ (20000 - (q1.2 (k + 1) 5)) then
  (F_X2_save (k + 39) (k + 1) q1.2).bind (fun q5 =>
  (F_X1_passMinutes (k + 1) x1 q5.2).bind (fun q6 =>
  some (q6.1, q6.2)))
  else
  some ((-1000003), q1.2))
def F_X6_minutesToSuspect_L29 (k : Nat) : Nat → Nat → Int32 → xM → Option (Int32 × xM)
  | 0, _, _, _ => none
  | N + 1, r2, x3, σ =>
    if 1000 ≤ x3 then
    (F_X1_isSuspect (k + 20) r2 σ).bind (fun q5 =>
    if (bz q5.1) = 0 then
    some ((-1000009), q5.2)
    else
    some (1000, q5.2))
    else
    (F_X1_isSuspect (k + 20) r2 σ).bind (fun q7 =>
    if (bz q7.1) = 0 then
    (F_X1_passMinute (k + 20) q7.2).bind (fun q9 =>
    F_X6_minutesToSuspect_L29 k N r2 (x3 + 1) q9.2)
    else
    some (x3, q7.2))
def F_X6_minutesToSuspect (k : Nat) (x1 : Int32) (σ : xM) : Option (Int32 × xM) :=
  (F_X1_copyFrom (k + 20) (k + 1) σ).bind (fun q1 =>
  (F_X1_roomAt (k + 20) x1 q1.2).bind (fun q2 =>
  oc q2.1 (
  some ((-1000001), q2.2))
  (fun r3 =>
  if kd r3 = 3 then
  F_X6_minutesToSuspect_L29 k FU r3 0 q2.2
  else none)))
def F_X6_heatIn (k : Nat) (x1 : Int32) (σ : xM) : Option (Int32 × xM) :=
  (F_X6_within x1 1 1000 σ).bind (fun q1 =>
  if (bz q1.1) = 0 then
  some ((-1000001), q1.2)
  else
  (F_X1_copyFrom (k + 20) (k + 1) q1.2).bind (fun q3 =>
  (F_X1_passMinutes (k + 20) x1 q3.2).bind (fun q4 =>
  (F_X1_heatFromHeaters (k + 20) q4.2).bind (fun q5 =>
  (F_X1_heatFromHeaters (k + 1) q5.2).bind (fun q6 =>
  some ((q5.1 - q6.1), q6.2))))))
def F_X6_forecastWithBand (k : Nat) (x1 : Int32) (x2 : Int32) (σ : xM) : Option (Option Nat × xM) :=
  (F_X1_copyFrom (k + 20) (k + 1) σ).bind (fun q1 =>
  (F_X1_roomAt (k + 20) x1 q1.2).bind (fun q2 =>
  oc q2.1 (
  some (none, q2.2))
  (fun r3 =>
  if kd r3 = 3 then
  nm (xup q2.2 r3 6 x2) (fun σ4 =>
  some (some r3, σ4))
  else none)))
def F_X6_finesWith (k : Nat) (x1 : Int32) (x2 : Int32) (x3 : Int32) (σ : xM) : Option (Int32 × xM) :=
  (F_X6_forecastWithBand k x1 x2 σ).bind (fun q1 =>
  oc q1.1 (
  some ((-1000001), q1.2))
  (fun r2 =>
  if kd r2 = 3 then
  (F_X6_within x2 100 5000 q1.2).bind (fun q3 =>
  if (bz q3.1) = 0 then
  some ((-1000001), q3.2)
  else
  (F_X6_within x3 1 1000 q3.2).bind (fun q5 =>
  if (bz q5.1) = 0 then
  some ((-1000001), q5.2)
  else
  nm (q5.2 r2 15) (fun x5_7 =>
  (F_X1_passMinutes (k + 20) x3 q5.2).bind (fun q8 =>
  some (((q8.2 r2 15) - x5_7), q8.2)))))
  else none))
def F_X6_isQuiet_L14 (k : Nat) : Nat → Nat → Int32 → Int32 → Int32 → xM → Option (Int32 × xM)
  | 0, _, _, _, _, _ => none
  | N + 1, r1, x2, x3, x4, σ =>
    if x2 ≤ x4 then
    some (1, σ)
    else
    (F_X1_passMinute (k + 20) σ).bind (fun q3 =>
    if (q3.2 r1 15) = x3 then
    F_X6_isQuiet_L14 k N r1 x2 x3 (x4 + 1) q3.2
    else
    some (0, q3.2))
def F_X6_isQuiet (k : Nat) (w1 : Option Nat) (x2 : Int32) (σ : xM) : Option (Int32 × xM) :=
  oc w1 (
  some (0, σ))
  (fun r1 =>
  nm (σ r1 15) (fun x3_1 =>
  F_X6_isQuiet_L14 k FU r1 x2 x3_1 0 σ))
def F_X6_quietBand_L28 (k : Nat) : Nat → Int32 → Int32 → Int32 → xM → Option (Int32 × xM)
  | 0, _, _, _, _ => none
  | N + 1, x1, x2, x3, σ =>
    if 5000 < x3 then
    some ((-1000009), σ)
    else
    (F_X6_forecastWithBand k x1 x3 σ).bind (fun q6 =>
    oc q6.1 (
    (F_X6_isQuiet k none x2 q6.2).bind (fun q8 =>
    if (bz q8.1) = 0 then
    F_X6_quietBand_L28 k N x1 x2 (x3 + 100) q8.2
    else
    some (x3, q8.2)))
    (fun r7 =>
    if kd r7 = 3 then
    (F_X6_isQuiet k (some r7) x2 q6.2).bind (fun q10 =>
    if (bz q10.1) = 0 then
    F_X6_quietBand_L28 k N x1 x2 (x3 + 100) q10.2
    else
    some (x3, q10.2))
    else none))
def F_X6_quietBand (k : Nat) (x1 : Int32) (x2 : Int32) (σ : xM) : Option (Int32 × xM) :=
  (F_X1_roomAt (k + 1) x1 σ).bind (fun q1 =>
  oc q1.1 (
  some ((-1000001), q1.2))
  (fun r2 =>
  if kd r2 = 3 then
  (F_X6_within x2 1 300 q1.2).bind (fun q3 =>
  if (bz q3.1) = 0 then
  some ((-1000001), q3.2)
  else
  F_X6_quietBand_L28 k FU x1 x2 100 q3.2)
  else none))
def F_X6_undo (k : Nat) (σ : xM) : Option (Int32 × xM) :=
  if (σ (k + 39) 2) = 0 then
  some ((-1000002), σ)
  else
  (F_X2_restore (k + 39) (k + 1) σ).bind (fun q2 =>
  some ((q2.2 (k + 39) 2), q2.2))
end
section
def F_X7_in (x0 : Int32) (x1 : Int32) (x2 : Int32) (σ : xM) : Option (Int32 × xM) :=
  if x0 < x1 then
  some (0, σ)
  else
  if x2 < x0 then
  some (0, σ)
  else
  some (1, σ)
def F_X7_notes_L52 (k : Nat) : Nat → Int32 → xM → Option (Unit × xM)
  | 0, _, _ => none
  | N + 1, x1, σ =>
    if 196 ≤ x1 then
    nm (xup σ k 2 ((σ k 2) + 1)) (fun σ3 =>
    some ((), σ3))
    else
    if inb x1 196 then
    if inb ((196 * (σ k 2)) + x1) 1176 then
    nm (xup σ (k + 2) (Int32.toNatClampNeg ((196 * (σ k 2)) + x1)) (σ (k + 1) (Int32.toNatClampNeg x1))) (fun σ6 =>
    F_X7_notes_L52 k N (x1 + 1) σ6)
    else none
    else none
def F_X7_notes_J50 (k : Nat)  (σ : xM) : Option (Unit × xM) :=
  F_X7_notes_L52 k FU 0 σ
def F_X7_notes_L11 (k : Nat) : Nat → Int32 → xM → Option (Unit × xM)
  | 0, _, _ => none
  | N + 1, x1, σ =>
    if 980 ≤ x1 then
    nm (xup σ k 2 ((σ k 2) - 1)) (fun σ8 =>
    F_X7_notes_J50 k  σ8)
    else
    if inb (x1 + 196) 1176 then
    if inb x1 1176 then
    nm (xup σ (k + 2) (Int32.toNatClampNeg x1) (σ (k + 2) (Int32.toNatClampNeg (x1 + 196)))) (fun σ11 =>
    F_X7_notes_L11 k N (x1 + 1) σ11)
    else none
    else none
def F_X7_notes (k : Nat) (σ : xM) : Option (Unit × xM) :=
  if (σ k 2) = 6 then
  F_X7_notes_L11 k FU 0 σ
  else
  F_X7_notes_J50 k  σ
def F_X7_undo_L22 (k : Nat) : Nat → Int32 → xM → Option (Int32 × xM)
  | 0, _, _ => none
  | N + 1, x1, σ =>
    if 196 ≤ x1 then
    some ((σ k 2), σ)
    else
    if inb ((196 * (σ k 2)) + x1) 1176 then
    if inb x1 196 then
    nm (xup σ (k + 1) (Int32.toNatClampNeg x1) (σ (k + 2) (Int32.toNatClampNeg ((196 * (σ k 2)) + x1)))) (fun σ6 =>
    F_X7_undo_L22 k N (x1 + 1) σ6)
    else none
    else none
def F_X7_undo (k : Nat) (σ : xM) : Option (Int32 × xM) :=
  if (σ k 2) = 0 then
  some ((-1000002), σ)
  else
  nm (xup σ k 2 ((σ k 2) - 1)) (fun σ2 =>
  F_X7_undo_L22 k FU 0 σ2)
def F_X7_isRoom (k : Nat) (x1 : Int32) (σ : xM) : Option (Int32 × xM) :=
  if inb 7 196 then
  (F_X7_in x1 0 ((σ (k + 1) (Int32.toNatClampNeg 7)) - 1) σ).bind (fun q2 =>
  some (q2.1, q2.2))
  else none
def F_X7_of (k : Nat) (x1 : Int32) (x2 : Int32) (σ : xM) : Option (Int32 × xM) :=
  if inb ((70 + (21 * x1)) + x2) 196 then
  some ((σ (k + 1) (Int32.toNatClampNeg ((70 + (21 * x1)) + x2))), σ)
  else none
def F_X7_puts (k : Nat) (x1 : Int32) (x2 : Int32) (x3 : Int32) (σ : xM) : Option (Unit × xM) :=
  if inb ((70 + (21 * x1)) + x2) 196 then
  nm (xup σ (k + 1) (Int32.toNatClampNeg ((70 + (21 * x1)) + x2)) x3) (fun σ2 =>
  some ((), σ2))
  else none
def F_X7_grows (k : Nat) (x1 : Int32) (x2 : Int32) (x3 : Int32) (σ : xM) : Option (Unit × xM) :=
  if inb ((70 + (21 * x1)) + x2) 196 then
  if inb ((70 + (21 * x1)) + x2) 196 then
  nm (xup σ (k + 1) (Int32.toNatClampNeg ((70 + (21 * x1)) + x2)) ((σ (k + 1) (Int32.toNatClampNeg ((70 + (21 * x1)) + x2))) + x3)) (fun σ3 =>
  some ((), σ3))
  else none
  else none
def F_X7_degrees (x0 : Int32) (x1 : Int32) (σ : xM) : Option (Int32 × xM) :=
  nm (1000 * x0) (fun x2_1 =>
  if 0 ≤ x2_1 then
  if x1 = 0 then none else
  some ((x2_1 / x1), σ)
  else
  if x1 = 0 then none else
  if (x2_1 - x2_1 / x1 * x1) = 0 then
  if x1 = 0 then none else
  some ((x2_1 / x1), σ)
  else
  if x1 = 0 then none else
  some (((x2_1 / x1) - 1), σ))
def F_X7_temperature (k : Nat) (x1 : Int32) (σ : xM) : Option (Int32 × xM) :=
  (F_X7_of k x1 1 σ).bind (fun q1 =>
  (F_X7_of k x1 0 q1.2).bind (fun q2 =>
  (F_X7_degrees q1.1 q2.1 q2.2).bind (fun q3 =>
  some (q3.1, q3.2))))
def F_X7_addRoom_J57 (k : Nat) (x1 : Int32) (x2 : Int32) (x3 : Int32) (x4 : Int32) (y0 : Int32) (σ : xM) : Option (Int32 × xM) :=
  if y0 = 0 then
  some ((-1000001), σ)
  else
  if inb 7 196 then
  if (σ (k + 1) (Int32.toNatClampNeg 7)) = 6 then
  some ((-1000003), σ)
  else
  (F_X7_notes k σ).bind (fun q6 =>
  if inb 7 196 then
  nm (q6.2 (k + 1) (Int32.toNatClampNeg 7)) (fun x6_8 =>
  if inb 7 196 then
  if inb 7 196 then
  nm (xup q6.2 (k + 1) (Int32.toNatClampNeg 7) ((q6.2 (k + 1) (Int32.toNatClampNeg 7)) + 1)) (fun σ11 =>
  (F_X7_puts k x6_8 0 x1 σ11).bind (fun q12 =>
  (F_X7_puts k x6_8 1 (x1 * x4) q12.2).bind (fun q13 =>
  (F_X7_puts k x6_8 2 x2 q13.2).bind (fun q14 =>
  (F_X7_puts k x6_8 3 x3 q14.2).bind (fun q15 =>
  (F_X7_puts k x6_8 4 20000 q15.2).bind (fun q16 =>
  (F_X7_puts k x6_8 5 1000 q16.2).bind (fun q17 =>
  (F_X7_puts k x6_8 6 (1000 * x4) q17.2).bind (fun q18 =>
  (F_X7_puts k x6_8 15 (-1000009) q18.2).bind (fun q19 =>
  (F_X7_puts k x6_8 16 (x1 * x4) q19.2).bind (fun q20 =>
  some (x6_8, q20.2)))))))))))
  else none
  else none)
  else none)
  else none
def F_X7_addRoom_J56 (k : Nat) (x1 : Int32) (x2 : Int32) (x3 : Int32) (x4 : Int32) (σ : xM) : Option (Int32 × xM) :=
  F_X7_addRoom_J57 k x1 x2 x3 x4 0 σ
def F_X7_addRoom (k : Nat) (x1 : Int32) (x2 : Int32) (x3 : Int32) (x4 : Int32) (σ : xM) : Option (Int32 × xM) :=
  (F_X7_in x1 10 500 σ).bind (fun q1 =>
  if (bz q1.1) = 0 then
  F_X7_addRoom_J56 k x1 x2 x3 x4 q1.2
  else
  (F_X7_in x2 1 200 q1.2).bind (fun q21 =>
  if (bz q21.1) = 0 then
  F_X7_addRoom_J56 k x1 x2 x3 x4 q21.2
  else
  (F_X7_in x3 0 50 q21.2).bind (fun q23 =>
  if (bz q23.1) = 0 then
  F_X7_addRoom_J56 k x1 x2 x3 x4 q23.2
  else
  if x1 < (2 * x3) then
  F_X7_addRoom_J56 k x1 x2 x3 x4 q23.2
  else
  (F_X7_in x4 (-40) 40 q23.2).bind (fun q26 =>
  if (bz q26.1) = 0 then
  F_X7_addRoom_J56 k x1 x2 x3 x4 q26.2
  else
  F_X7_addRoom_J57 k x1 x2 x3 x4 1 q26.2))))
def F_X7_areRooms (k : Nat) (x1 : Int32) (x2 : Int32) (σ : xM) : Option (Int32 × xM) :=
  (F_X7_isRoom k x1 σ).bind (fun q1 =>
  if (bz q1.1) = 0 then
  some (0, q1.2)
  else
  (F_X7_isRoom k x2 q1.2).bind (fun q3 =>
  if (bz q3.1) = 0 then
  some (0, q3.2)
  else
  if x1 = x2 then
  some (0, q3.2)
  else
  some (1, q3.2)))
def F_X7_drain_L9 (k : Nat) : Nat → Int32 → Int32 → Int32 → xM → Option (Int32 × xM)
  | 0, _, _, _, _ => none
  | N + 1, x1, x2, x3, σ =>
    if 6 ≤ x3 then
    some (x2, σ)
    else
    if inb ((34 + (6 * x1)) + x3) 196 then
    nm (x2 + (σ (k + 1) (Int32.toNatClampNeg ((34 + (6 * x1)) + x3)))) (fun x2_4 =>
    F_X7_drain_L9 k N x1 x2_4 (x3 + 1) σ)
    else none
def F_X7_drain (k : Nat) (x1 : Int32) (σ : xM) : Option (Int32 × xM) :=
  (F_X7_of k x1 3 σ).bind (fun q1 =>
  F_X7_drain_L9 k FU x1 q1.1 0 q1.2)
def F_X7_isTooMuch (k : Nat) (x1 : Int32) (x2 : Int32) (σ : xM) : Option (Int32 × xM) :=
  (F_X7_drain k x1 σ).bind (fun q1 =>
  (F_X7_of k x1 0 q1.2).bind (fun q2 =>
  if (2 * (q1.1 + x2)) ≤ q2.1 then
  some (0, q2.2)
  else
  some (1, q2.2)))
def F_X7_setLink (k : Nat) (x1 : Int32) (x2 : Int32) (x3 : Int32) (σ : xM) : Option (Int32 × xM) :=
  (F_X7_areRooms k x1 x2 σ).bind (fun q1 =>
  if (bz q1.1) = 0 then
  some ((-1000001), q1.2)
  else
  (F_X7_in x3 0 50 q1.2).bind (fun q3 =>
  if (bz q3.1) = 0 then
  some ((-1000001), q3.2)
  else
  if inb ((34 + (6 * x1)) + x2) 196 then
  nm (q3.2 (k + 1) (Int32.toNatClampNeg ((34 + (6 * x1)) + x2))) (fun x4_6 =>
  (F_X7_isTooMuch k x1 (x3 - x4_6) q3.2).bind (fun q7 =>
  if (bz q7.1) = 0 then
  (F_X7_isTooMuch k x2 (x3 - x4_6) q7.2).bind (fun q9 =>
  if (bz q9.1) = 0 then
  (F_X7_notes k q9.2).bind (fun q11 =>
  if inb ((34 + (6 * x1)) + x2) 196 then
  nm (xup q11.2 (k + 1) (Int32.toNatClampNeg ((34 + (6 * x1)) + x2)) x3) (fun σ13 =>
  if inb ((34 + (6 * x2)) + x1) 196 then
  nm (xup σ13 (k + 1) (Int32.toNatClampNeg ((34 + (6 * x2)) + x1)) x3) (fun σ15 =>
  some (x4_6, σ15))
  else none)
  else none)
  else
  some ((-1000002), q9.2))
  else
  some ((-1000002), q7.2)))
  else none))
def F_X7_link (k : Nat) (x1 : Int32) (x2 : Int32) (σ : xM) : Option (Int32 × xM) :=
  (F_X7_areRooms k x1 x2 σ).bind (fun q1 =>
  if (bz q1.1) = 0 then
  some ((-1000001), q1.2)
  else
  if inb ((34 + (6 * x1)) + x2) 196 then
  some ((q1.2 (k + 1) (Int32.toNatClampNeg ((34 + (6 * x1)) + x2))), q1.2)
  else none)
def F_X7_setThermostat_J64 (k : Nat) (x1 : Int32) (x2 : Int32) (x3 : Int32) (y0 : Int32) (σ : xM) : Option (Int32 × xM) :=
  (F_X7_puts k x1 4 x2 σ).bind (fun q10 =>
  (F_X7_puts k x1 5 x3 q10.2).bind (fun q11 =>
  if y0 = 0 then
  some (1, q11.2)
  else
  some (0, q11.2)))
def F_X7_setThermostat_J63 (k : Nat) (x1 : Int32) (x2 : Int32) (x3 : Int32) (σ : xM) : Option (Int32 × xM) :=
  F_X7_setThermostat_J64 k x1 x2 x3 0 σ
def F_X7_setThermostat (k : Nat) (x1 : Int32) (x2 : Int32) (x3 : Int32) (σ : xM) : Option (Int32 × xM) :=
  (F_X7_isRoom k x1 σ).bind (fun q1 =>
  if (bz q1.1) = 0 then
  some ((-1000001), q1.2)
  else
  (F_X7_in x2 5000 35000 q1.2).bind (fun q3 =>
  if (bz q3.1) = 0 then
  some ((-1000001), q3.2)
  else
  (F_X7_in x3 100 5000 q3.2).bind (fun q5 =>
  if (bz q5.1) = 0 then
  some ((-1000001), q5.2)
  else
  (F_X7_notes k q5.2).bind (fun q7 =>
  (F_X7_of k x1 4 q7.2).bind (fun q8 =>
  if q8.1 = x2 then
  (F_X7_of k x1 5 q8.2).bind (fun q13 =>
  if q13.1 = x3 then
  F_X7_setThermostat_J64 k x1 x2 x3 1 q13.2
  else
  F_X7_setThermostat_J63 k x1 x2 x3 q13.2)
  else
  F_X7_setThermostat_J63 k x1 x2 x3 q8.2)))))
def F_X7_isNumber (x0 : Int32) (x1 : Int32) (σ : xM) : Option (Int32 × xM) :=
  if x0 = 0 then
  (F_X7_in x1 1 100 σ).bind (fun q2 =>
  some (q2.1, q2.2))
  else if x0 = 1 then
  (F_X7_in x1 1 9999 σ).bind (fun q4 =>
  some (q4.1, q4.2))
  else if x0 = 2 then
  (F_X7_in x1 1 50 σ).bind (fun q6 =>
  some (q6.1, q6.2))
  else if x0 = 3 then
  (F_X7_in x1 0 120 σ).bind (fun q8 =>
  some (q8.1, q8.2))
  else if x0 = 4 then
  (F_X7_in x1 0 100 σ).bind (fun q10 =>
  some (q10.1, q10.2))
  else if x0 = 5 then
  (F_X7_in x1 20000 90000 σ).bind (fun q12 =>
  some (q12.1, q12.2))
  else if x0 = 6 then
  (F_X7_in x1 1 120 σ).bind (fun q14 =>
  some (q14.1, q14.2))
  else 
  some (0, σ)
def F_X7_setNumber (k : Nat) (x1 : Int32) (x2 : Int32) (σ : xM) : Option (Int32 × xM) :=
  (F_X7_isNumber x1 x2 σ).bind (fun q1 =>
  if (bz q1.1) = 0 then
  some ((-1000001), q1.2)
  else
  (F_X7_notes k q1.2).bind (fun q3 =>
  if inb x1 196 then
  nm (q3.2 (k + 1) (Int32.toNatClampNeg x1)) (fun x3_5 =>
  if inb x1 196 then
  nm (xup q3.2 (k + 1) (Int32.toNatClampNeg x1) x2) (fun σ7 =>
  some (x3_5, σ7))
  else none)
  else none))
def F_X7_warm_J81 (k : Nat) (x1 : Int32) (x2 : Int32) (σ : xM) : Option (Int32 × xM) :=
  (F_X7_notes k σ).bind (fun q11 =>
  (F_X7_grows k x1 1 x2 q11.2).bind (fun q12 =>
  (F_X7_grows k x1 20 x2 q12.2).bind (fun q13 =>
  (F_X7_temperature k x1 q13.2).bind (fun q14 =>
  some (q14.1, q14.2)))))
def F_X7_warm (k : Nat) (x1 : Int32) (x2 : Int32) (σ : xM) : Option (Int32 × xM) :=
  (F_X7_isRoom k x1 σ).bind (fun q1 =>
  if (bz q1.1) = 0 then
  some ((-1000001), q1.2)
  else
  (F_X7_in x2 (-50000) 50000 q1.2).bind (fun q3 =>
  if (bz q3.1) = 0 then
  some ((-1000001), q3.2)
  else
  (F_X7_of k x1 0 q3.2).bind (fun q5 =>
  nm (200 * ((q5.1).toInt64)) (fun j3_6 =>
  (F_X7_of k x1 1 q5.2).bind (fun q7 =>
  nm (((q7.1).toInt64) + ((x2).toInt64)) (fun j5_8 =>
  if (lg_cmp j5_8 (-j3_6)) < 0 then
  some ((-1000002), q7.2)
  else
  if (lg_cmp j5_8 j3_6) < 0 then
  F_X7_warm_J81 k x1 x2 q7.2
  else
  (F_X7_of k x1 0 q7.2).bind (fun q15 =>
  (F_X7_degrees ((j5_8).toInt32) q15.1 q15.2).bind (fun q16 =>
  if q16.1 ≤ 200000 then
  F_X7_warm_J81 k x1 x2 q16.2
  else
  some ((-1000002), q16.2)))))))))
def F_X7_service (k : Nat) (x1 : Int32) (σ : xM) : Option (Int32 × xM) :=
  (F_X7_isRoom k x1 σ).bind (fun q1 =>
  if (bz q1.1) = 0 then
  some ((-1000001), q1.2)
  else
  (F_X7_notes k q1.2).bind (fun q3 =>
  (F_X7_of k x1 9 q3.2).bind (fun q4 =>
  (F_X7_puts k x1 9 0 q4.2).bind (fun q5 =>
  (F_X7_puts k x1 10 0 q5.2).bind (fun q6 =>
  (F_X7_puts k x1 8 0 q6.2).bind (fun q7 =>
  (F_X7_puts k x1 7 0 q7.2).bind (fun q8 =>
  some (q4.1, q8.2))))))))
def F_X7_resetCutout (k : Nat) (x1 : Int32) (σ : xM) : Option (Int32 × xM) :=
  (F_X7_isRoom k x1 σ).bind (fun q1 =>
  if (bz q1.1) = 0 then
  some ((-1000001), q1.2)
  else
  (F_X7_of k x1 14 q1.2).bind (fun q3 =>
  if q3.1 = 0 then
  some ((-1000002), q3.2)
  else
  (F_X7_temperature k x1 q3.2).bind (fun q5 =>
  if inb 5 196 then
  if q5.1 ≤ (q5.2 (k + 1) (Int32.toNatClampNeg 5)) then
  (F_X7_notes k q5.2).bind (fun q8 =>
  (F_X7_puts k x1 14 0 q8.2).bind (fun q9 =>
  (F_X7_temperature k x1 q9.2).bind (fun q10 =>
  some (q10.1, q10.2))))
  else
  some ((-1000002), q5.2)
  else none)))
def F_X7_room (k : Nat) (x1 : Int32) (x2 : Int32) (σ : xM) : Option (Int32 × xM) :=
  (F_X7_isRoom k x1 σ).bind (fun q1 =>
  if (bz q1.1) = 0 then
  some ((-1000001), q1.2)
  else
  (F_X7_in x2 0 13 q1.2).bind (fun q3 =>
  if (bz q3.1) = 0 then
  some ((-1000001), q3.2)
  else
  if x2 = 0 then
  (F_X7_temperature k x1 q3.2).bind (fun q6 =>
  some (q6.1, q6.2))
  else if x2 = 1 then
  (F_X7_of k x1 1 q3.2).bind (fun q8 =>
  some (q8.1, q8.2))
  else if x2 = 12 then
  (F_X7_of k x1 4 q3.2).bind (fun q10 =>
  some (q10.1, q10.2))
  else if x2 = 13 then
  (F_X7_of k x1 5 q3.2).bind (fun q12 =>
  some (q12.1, q12.2))
  else 
  (F_X7_of k x1 ((6 + x2) - 2) q3.2).bind (fun q13 =>
  some (q13.1, q13.2))))
def F_X7_book (k : Nat) (x1 : Int32) (x2 : Int32) (σ : xM) : Option (Int32 × xM) :=
  (F_X7_isRoom k x1 σ).bind (fun q1 =>
  if (bz q1.1) = 0 then
  some ((-1000001), q1.2)
  else
  (F_X7_in x2 0 4 q1.2).bind (fun q3 =>
  if (bz q3.1) = 0 then
  some ((-1000001), q3.2)
  else
  (F_X7_of k x1 (16 + x2) q3.2).bind (fun q5 =>
  some (q5.1, q5.2))))
def F_X7_isSuspect (k : Nat) (x1 : Int32) (σ : xM) : Option (Int32 × xM) :=
  (F_X7_of k x1 13 σ).bind (fun q1 =>
  if inb 6 196 then
  if q1.1 < (q1.2 (k + 1) (Int32.toNatClampNeg 6)) then
  some (0, q1.2)
  else
  some (1, q1.2)
  else none)
def F_X7_count_L34 (k : Nat) : Nat → Int32 → Int32 → xM → Option (Int32 × xM)
  | 0, _, _, _ => none
  | N + 1, x2, x3, σ =>
    if inb 7 196 then
    if (σ (k + 1) (Int32.toNatClampNeg 7)) ≤ x3 then
    some (x2, σ)
    else
    (F_X7_isSuspect k x3 σ).bind (fun q4 =>
    if (bz q4.1) = 0 then
    nm (x2 + 0) (fun x2_6 =>
    F_X7_count_L34 k N x2_6 (x3 + 1) q4.2)
    else
    nm (x2 + 1) (fun x2_7 =>
    F_X7_count_L34 k N x2_7 (x3 + 1) q4.2))
    else none
def F_X7_count_L71 (k : Nat) : Nat → Int32 → Int32 → xM → Option (Int32 × xM)
  | 0, _, _, _ => none
  | N + 1, x2, x3, σ =>
    if inb 7 196 then
    if (σ (k + 1) (Int32.toNatClampNeg 7)) ≤ x3 then
    some (x2, σ)
    else
    (F_X7_of k x3 12 σ).bind (fun q11 =>
    nm (x2 + q11.1) (fun x2_12 =>
    F_X7_count_L71 k N x2_12 (x3 + 1) q11.2))
    else none
def F_X7_count (k : Nat) (x1 : Int32) (σ : xM) : Option (Int32 × xM) :=
  if x1 = 10 then
  F_X7_count_L34 k FU 0 0 σ
  else if x1 = 11 then
  F_X7_count_L71 k FU 0 0 σ
  else if x1 = 12 then
  some ((σ k 4), σ)
  else if x1 = 13 then
  some ((σ k 2), σ)
  else 
  (F_X7_in x1 0 9 σ).bind (fun q15 =>
  if (bz q15.1) = 0 then
  some ((-1000001), q15.2)
  else
  if inb x1 196 then
  some ((q15.2 (k + 1) (Int32.toNatClampNeg x1)), q15.2)
  else none)
def F_X7_appendCharacter (k : Nat) (x1 : Int32) (σ : xM) : Option (Int32 × xM) :=
  (F_X7_in x1 0 255 σ).bind (fun q1 =>
  if (bz q1.1) = 0 then
  some ((-1000001), q1.2)
  else
  if (q1.2 k 4) = 100 then
  some ((-1000003), q1.2)
  else
  if inb (q1.2 k 4) 100 then
  nm (xup q1.2 (k + 3) (Int32.toNatClampNeg (q1.2 k 4)) (vp_nar .byte ((x1).toInt8.toInt32))) (fun σ5 =>
  nm (xup σ5 k 4 ((σ5 k 4) + 1)) (fun σ6 =>
  some ((σ6 k 4), σ6)))
  else none)
def F_X7_clearText (k : Nat) (σ : xM) : Option (Int32 × xM) :=
  nm (σ k 4) (fun x1_1 =>
  nm (xup σ k 4 0) (fun σ2 =>
  some (x1_1, σ2)))
def F_X7_here_J38 (k : Nat)  (σ : xM) : Option (Int32 × xM) :=
  if (σ k 4) ≤ (σ k 8) then
  some ((-1), σ)
  else
  if inb (σ k 8) 100 then
  some (((σ (k + 3) (Int32.toNatClampNeg (σ k 8))) &&& 255), σ)
  else none
def F_X7_here_L0 (k : Nat) : Nat → xM → Option (Int32 × xM)
  | 0, _ => none
  | N + 1, σ =>
    if (σ k 4) ≤ (σ k 8) then
    F_X7_here_J38 k  σ
    else
    if inb (σ k 8) 100 then
    if (σ (k + 3) (Int32.toNatClampNeg (σ k 8))) = 32 then
    nm (xup σ k 8 ((σ k 8) + 1)) (fun σ10 =>
    F_X7_here_L0 k N  σ10)
    else
    F_X7_here_J38 k  σ
    else none
def F_X7_here (k : Nat) (σ : xM) : Option (Int32 × xM) :=
  if (σ k 4) ≤ (σ k 8) then
  F_X7_here_J38 k  σ
  else
  if inb (σ k 8) 100 then
  if (σ (k + 3) (Int32.toNatClampNeg (σ k 8))) = 32 then
  nm (xup σ k 8 ((σ k 8) + 1)) (fun σ6 =>
  F_X7_here_L0 k FU  σ6)
  else
  F_X7_here_J38 k  σ
  else none
def F_X7_reads_J218 (k : Nat) (x9 : Int32) (y0 : Int32) (σ : xM) : Option (Int32 × xM) :=
  nm (xup σ k 8 y0) (fun σ16 =>
  some (x9, σ16))
def F_X7_reads_J201 (k : Nat) (x5 : Int32) (y0 : Int32) (σ : xM) : Option (Int32 × xM) :=
  if (bz y0) = 0 then
  F_X7_reads_J218 k y0 x5 σ
  else
  F_X7_reads_J218 k y0 (σ k 8) σ
def F_X7_reads_J200 (k : Nat) (x5 : Int32) (σ : xM) : Option (Int32 × xM) :=
  F_X7_reads_J201 k x5 0 σ
def F_X7_reads_J184 (k : Nat) (x1 : Int32) (x2 : Int32) (x5 : Int32) (σ : xM) : Option (Int32 × xM) :=
  (F_X7_in (σ k 9) x1 x2 σ).bind (fun q13 =>
  if (bz q13.1) = 0 then
  F_X7_reads_J200 k x5 q13.2
  else
  F_X7_reads_J201 k x5 1 q13.2)
def F_X7_reads_J158 (k : Nat) (x1 : Int32) (x2 : Int32) (x5 : Int32) (x7 : Int32) (y0 : Int32) (σ : xM) : Option (Int32 × xM) :=
  nm (xup σ k 9 y0) (fun σ10 =>
  if inb x7 100 then
  if (σ10 (k + 3) (Int32.toNatClampNeg x7)) = 48 then
  if (σ10 k 8) = (x7 + 1) then
  F_X7_reads_J184 k x1 x2 x5 σ10
  else
  F_X7_reads_J200 k x5 σ10
  else
  F_X7_reads_J184 k x1 x2 x5 σ10
  else none)
def F_X7_reads_J133 (k : Nat) (x1 : Int32) (x2 : Int32) (x5 : Int32) (x6 : Int32) (x7 : Int32) (x8 : Int32) (σ : xM) : Option (Int32 × xM) :=
  if (σ k 8) = x7 then
  some (0, σ)
  else
  if x6 = 0 then
  F_X7_reads_J158 k x1 x2 x5 x7 x8 σ
  else
  F_X7_reads_J158 k x1 x2 x5 x7 (-x8) σ
def F_X7_reads_L58 (k : Nat) : Nat → Int32 → Int32 → Int32 → Int32 → Int32 → Int32 → xM → Option (Int32 × xM)
  | 0, _, _, _, _, _, _, _ => none
  | N + 1, x1, x2, x5, x6, x7, x8, σ =>
    if (σ k 4) ≤ (σ k 8) then
    F_X7_reads_J133 k x1 x2 x5 x6 x7 x8 σ
    else
    if inb (σ k 8) 100 then
    (F_X7_in (σ (k + 3) (Int32.toNatClampNeg (σ k 8))) 48 57 σ).bind (fun q19 =>
    if (bz q19.1) = 0 then
    F_X7_reads_J133 k x1 x2 x5 x6 x7 x8 q19.2
    else
    if 100000 ≤ x8 then
    nm (xup q19.2 k 8 ((q19.2 k 8) + 1)) (fun σ22 =>
    F_X7_reads_L58 k N x1 x2 x5 x6 x7 x8 σ22)
    else
    if inb (q19.2 k 8) 100 then
    nm (((10 * x8) + (q19.2 (k + 3) (Int32.toNatClampNeg (q19.2 k 8)))) - 48) (fun x8_24 =>
    nm (xup q19.2 k 8 ((q19.2 k 8) + 1)) (fun σ25 =>
    F_X7_reads_L58 k N x1 x2 x5 x6 x7 x8_24 σ25))
    else none)
    else none
def F_X7_reads_J45 (k : Nat) (x1 : Int32) (x2 : Int32) (x5 : Int32) (x6 : Int32) (y0 : Int32) (y1 : Int32) (σ : xM) : Option (Int32 × xM) :=
  nm (xup σ k 8 (y1 + y0)) (fun σ5 =>
  nm (σ5 k 8) (fun x7_6 =>
  F_X7_reads_L58 k FU x1 x2 x5 x6 x7_6 0 σ5))
def F_X7_reads_J28 (k : Nat) (x1 : Int32) (x2 : Int32) (x5 : Int32) (y0 : Int32) (σ : xM) : Option (Int32 × xM) :=
  if y0 = 0 then
  F_X7_reads_J45 k x1 x2 x5 y0 0 (σ k 8) σ
  else
  F_X7_reads_J45 k x1 x2 x5 y0 1 (σ k 8) σ
def F_X7_reads_J27 (k : Nat) (x1 : Int32) (x2 : Int32) (x5 : Int32) (σ : xM) : Option (Int32 × xM) :=
  F_X7_reads_J28 k x1 x2 x5 0 σ
def F_X7_reads (k : Nat) (x1 : Int32) (x2 : Int32) (x3 : Int32) (σ : xM) : Option (Int32 × xM) :=
  (F_X7_here k σ).bind (fun q1 =>
  nm (q1.2 k 8) (fun x5_2 =>
  if x3 = 0 then
  F_X7_reads_J27 k x1 x2 x5_2 q1.2
  else
  if q1.1 = 45 then
  F_X7_reads_J28 k x1 x2 x5_2 1 q1.2
  else
  F_X7_reads_J27 k x1 x2 x5_2 q1.2))
def F_X7_readsAll_L23 (k : Nat) : Nat → Int32 → xM → Option (Int32 × xM)
  | 0, _, _ => none
  | N + 1, x1, σ =>
    if x1 = 0 then
    some (1, σ)
    else
    if (σ k 7) = 0 then
    if (σ k 7) = 12 then
    (F_X7_reads k 100000 9999 0 σ).bind (fun q110 =>
    if (bz q110.1) = 0 then
    some (0, q110.2)
    else
    nm (q110.2 k 9) (fun x3_112 =>
    (F_X7_here k q110.2).bind (fun q113 =>
    if q113.1 = 61 then
    nm (xup q113.2 k 8 ((q113.2 k 8) + 1)) (fun σ115 =>
    (F_X7_reads k (-40) 40 1 σ115).bind (fun q116 =>
    if (bz q116.1) = 0 then
    some (0, q116.2)
    else
    if inb (2 * (q116.2 k 7)) 24 then
    nm (xup q116.2 (k + 5) (Int32.toNatClampNeg (2 * (q116.2 k 7))) x3_112) (fun σ119 =>
    if inb ((2 * (σ119 k 7)) + 1) 24 then
    nm (xup σ119 (k + 5) (Int32.toNatClampNeg ((2 * (σ119 k 7)) + 1)) (σ119 k 9)) (fun σ121 =>
    nm (xup σ121 k 7 ((σ121 k 7) + 1)) (fun σ122 =>
    (F_X7_here k σ122).bind (fun q123 =>
    if q123.1 < 0 then
    if 0 = 0 then
    if 0 = 0 then
    nm (xup q123.2 k 8 ((q123.2 k 8) + 0)) (fun σ127 =>
    F_X7_readsAll_L23 k N 0 σ127)
    else
    nm (xup q123.2 k 8 ((q123.2 k 8) + 1)) (fun σ128 =>
    F_X7_readsAll_L23 k N 0 σ128)
    else
    (F_X7_here k q123.2).bind (fun q129 =>
    if q129.1 = 59 then
    if 0 = 0 then
    nm (xup q129.2 k 8 ((q129.2 k 8) + 0)) (fun σ132 =>
    F_X7_readsAll_L23 k N 0 σ132)
    else
    nm (xup q129.2 k 8 ((q129.2 k 8) + 1)) (fun σ133 =>
    F_X7_readsAll_L23 k N 0 σ133)
    else
    some (0, q129.2))
    else
    if 1 = 0 then
    if 1 = 0 then
    nm (xup q123.2 k 8 ((q123.2 k 8) + 0)) (fun σ136 =>
    F_X7_readsAll_L23 k N 1 σ136)
    else
    nm (xup q123.2 k 8 ((q123.2 k 8) + 1)) (fun σ137 =>
    F_X7_readsAll_L23 k N 1 σ137)
    else
    (F_X7_here k q123.2).bind (fun q138 =>
    if q138.1 = 59 then
    if 1 = 0 then
    nm (xup q138.2 k 8 ((q138.2 k 8) + 0)) (fun σ141 =>
    F_X7_readsAll_L23 k N 1 σ141)
    else
    nm (xup q138.2 k 8 ((q138.2 k 8) + 1)) (fun σ142 =>
    F_X7_readsAll_L23 k N 1 σ142)
    else
    some (0, q138.2)))))
    else none)
    else none))
    else
    some (0, q113.2))))
    else
    (F_X7_reads k 0 9999 0 σ).bind (fun q77 =>
    if (bz q77.1) = 0 then
    some (0, q77.2)
    else
    nm (q77.2 k 9) (fun x3_79 =>
    (F_X7_here k q77.2).bind (fun q80 =>
    if q80.1 = 61 then
    nm (xup q80.2 k 8 ((q80.2 k 8) + 1)) (fun σ82 =>
    (F_X7_reads k (-40) 40 1 σ82).bind (fun q83 =>
    if (bz q83.1) = 0 then
    some (0, q83.2)
    else
    if inb (2 * (q83.2 k 7)) 24 then
    nm (xup q83.2 (k + 5) (Int32.toNatClampNeg (2 * (q83.2 k 7))) x3_79) (fun σ86 =>
    if inb ((2 * (σ86 k 7)) + 1) 24 then
    nm (xup σ86 (k + 5) (Int32.toNatClampNeg ((2 * (σ86 k 7)) + 1)) (σ86 k 9)) (fun σ88 =>
    nm (xup σ88 k 7 ((σ88 k 7) + 1)) (fun σ89 =>
    (F_X7_here k σ89).bind (fun q90 =>
    if q90.1 < 0 then
    if 0 = 0 then
    if 0 = 0 then
    nm (xup q90.2 k 8 ((q90.2 k 8) + 0)) (fun σ94 =>
    F_X7_readsAll_L23 k N 0 σ94)
    else
    nm (xup q90.2 k 8 ((q90.2 k 8) + 1)) (fun σ95 =>
    F_X7_readsAll_L23 k N 0 σ95)
    else
    (F_X7_here k q90.2).bind (fun q96 =>
    if q96.1 = 59 then
    if 0 = 0 then
    nm (xup q96.2 k 8 ((q96.2 k 8) + 0)) (fun σ99 =>
    F_X7_readsAll_L23 k N 0 σ99)
    else
    nm (xup q96.2 k 8 ((q96.2 k 8) + 1)) (fun σ100 =>
    F_X7_readsAll_L23 k N 0 σ100)
    else
    some (0, q96.2))
    else
    if 1 = 0 then
    if 1 = 0 then
    nm (xup q90.2 k 8 ((q90.2 k 8) + 0)) (fun σ103 =>
    F_X7_readsAll_L23 k N 1 σ103)
    else
    nm (xup q90.2 k 8 ((q90.2 k 8) + 1)) (fun σ104 =>
    F_X7_readsAll_L23 k N 1 σ104)
    else
    (F_X7_here k q90.2).bind (fun q105 =>
    if q105.1 = 59 then
    if 1 = 0 then
    nm (xup q105.2 k 8 ((q105.2 k 8) + 0)) (fun σ108 =>
    F_X7_readsAll_L23 k N 1 σ108)
    else
    nm (xup q105.2 k 8 ((q105.2 k 8) + 1)) (fun σ109 =>
    F_X7_readsAll_L23 k N 1 σ109)
    else
    some (0, q105.2)))))
    else none)
    else none))
    else
    some (0, q80.2))))
    else
    if inb ((2 * (σ k 7)) - 2) 24 then
    nm ((σ (k + 5) (Int32.toNatClampNeg ((2 * (σ k 7)) - 2))) + 1) (fun x2_8 =>
    if (σ k 7) = 12 then
    (F_X7_reads k 100000 9999 0 σ).bind (fun q43 =>
    if (bz q43.1) = 0 then
    some (0, q43.2)
    else
    nm (q43.2 k 9) (fun x3_45 =>
    (F_X7_here k q43.2).bind (fun q46 =>
    if q46.1 = 61 then
    nm (xup q46.2 k 8 ((q46.2 k 8) + 1)) (fun σ48 =>
    (F_X7_reads k (-40) 40 1 σ48).bind (fun q49 =>
    if (bz q49.1) = 0 then
    some (0, q49.2)
    else
    if inb (2 * (q49.2 k 7)) 24 then
    nm (xup q49.2 (k + 5) (Int32.toNatClampNeg (2 * (q49.2 k 7))) x3_45) (fun σ52 =>
    if inb ((2 * (σ52 k 7)) + 1) 24 then
    nm (xup σ52 (k + 5) (Int32.toNatClampNeg ((2 * (σ52 k 7)) + 1)) (σ52 k 9)) (fun σ54 =>
    nm (xup σ54 k 7 ((σ54 k 7) + 1)) (fun σ55 =>
    (F_X7_here k σ55).bind (fun q56 =>
    if q56.1 < 0 then
    if 0 = 0 then
    if 0 = 0 then
    nm (xup q56.2 k 8 ((q56.2 k 8) + 0)) (fun σ60 =>
    F_X7_readsAll_L23 k N 0 σ60)
    else
    nm (xup q56.2 k 8 ((q56.2 k 8) + 1)) (fun σ61 =>
    F_X7_readsAll_L23 k N 0 σ61)
    else
    (F_X7_here k q56.2).bind (fun q62 =>
    if q62.1 = 59 then
    if 0 = 0 then
    nm (xup q62.2 k 8 ((q62.2 k 8) + 0)) (fun σ65 =>
    F_X7_readsAll_L23 k N 0 σ65)
    else
    nm (xup q62.2 k 8 ((q62.2 k 8) + 1)) (fun σ66 =>
    F_X7_readsAll_L23 k N 0 σ66)
    else
    some (0, q62.2))
    else
    if 1 = 0 then
    if 1 = 0 then
    nm (xup q56.2 k 8 ((q56.2 k 8) + 0)) (fun σ69 =>
    F_X7_readsAll_L23 k N 1 σ69)
    else
    nm (xup q56.2 k 8 ((q56.2 k 8) + 1)) (fun σ70 =>
    F_X7_readsAll_L23 k N 1 σ70)
    else
    (F_X7_here k q56.2).bind (fun q71 =>
    if q71.1 = 59 then
    if 1 = 0 then
    nm (xup q71.2 k 8 ((q71.2 k 8) + 0)) (fun σ74 =>
    F_X7_readsAll_L23 k N 1 σ74)
    else
    nm (xup q71.2 k 8 ((q71.2 k 8) + 1)) (fun σ75 =>
    F_X7_readsAll_L23 k N 1 σ75)
    else
    some (0, q71.2)))))
    else none)
    else none))
    else
    some (0, q46.2))))
    else
    (F_X7_reads k x2_8 9999 0 σ).bind (fun q10 =>
    if (bz q10.1) = 0 then
    some (0, q10.2)
    else
    nm (q10.2 k 9) (fun x3_12 =>
    (F_X7_here k q10.2).bind (fun q13 =>
    if q13.1 = 61 then
    nm (xup q13.2 k 8 ((q13.2 k 8) + 1)) (fun σ15 =>
    (F_X7_reads k (-40) 40 1 σ15).bind (fun q16 =>
    if (bz q16.1) = 0 then
    some (0, q16.2)
    else
    if inb (2 * (q16.2 k 7)) 24 then
    nm (xup q16.2 (k + 5) (Int32.toNatClampNeg (2 * (q16.2 k 7))) x3_12) (fun σ19 =>
    if inb ((2 * (σ19 k 7)) + 1) 24 then
    nm (xup σ19 (k + 5) (Int32.toNatClampNeg ((2 * (σ19 k 7)) + 1)) (σ19 k 9)) (fun σ21 =>
    nm (xup σ21 k 7 ((σ21 k 7) + 1)) (fun σ22 =>
    (F_X7_here k σ22).bind (fun q23 =>
    if q23.1 < 0 then
    if 0 = 0 then
    if 0 = 0 then
    nm (xup q23.2 k 8 ((q23.2 k 8) + 0)) (fun σ27 =>
    F_X7_readsAll_L23 k N 0 σ27)
    else
    nm (xup q23.2 k 8 ((q23.2 k 8) + 1)) (fun σ28 =>
    F_X7_readsAll_L23 k N 0 σ28)
    else
    (F_X7_here k q23.2).bind (fun q29 =>
    if q29.1 = 59 then
    if 0 = 0 then
    nm (xup q29.2 k 8 ((q29.2 k 8) + 0)) (fun σ32 =>
    F_X7_readsAll_L23 k N 0 σ32)
    else
    nm (xup q29.2 k 8 ((q29.2 k 8) + 1)) (fun σ33 =>
    F_X7_readsAll_L23 k N 0 σ33)
    else
    some (0, q29.2))
    else
    if 1 = 0 then
    if 1 = 0 then
    nm (xup q23.2 k 8 ((q23.2 k 8) + 0)) (fun σ36 =>
    F_X7_readsAll_L23 k N 1 σ36)
    else
    nm (xup q23.2 k 8 ((q23.2 k 8) + 1)) (fun σ37 =>
    F_X7_readsAll_L23 k N 1 σ37)
    else
    (F_X7_here k q23.2).bind (fun q38 =>
    if q38.1 = 59 then
    if 1 = 0 then
    nm (xup q38.2 k 8 ((q38.2 k 8) + 0)) (fun σ41 =>
    F_X7_readsAll_L23 k N 1 σ41)
    else
    nm (xup q38.2 k 8 ((q38.2 k 8) + 1)) (fun σ42 =>
    F_X7_readsAll_L23 k N 1 σ42)
    else
    some (0, q38.2)))))
    else none)
    else none))
    else
    some (0, q13.2)))))
    else none
def F_X7_readsAll_J22 (k : Nat) (y0 : Int32) (σ : xM) : Option (Int32 × xM) :=
  F_X7_readsAll_L23 k FU y0 σ
def F_X7_readsAll (k : Nat) (σ : xM) : Option (Int32 × xM) :=
  nm (xup σ k 8 0) (fun σ1 =>
  nm (xup σ1 k 7 0) (fun σ2 =>
  (F_X7_here k σ2).bind (fun q3 =>
  if q3.1 < 0 then
  F_X7_readsAll_J22 k 0 q3.2
  else
  F_X7_readsAll_J22 k 1 q3.2)))
def F_X7_load_L32 (k : Nat) : Nat → Int32 → xM → Option (Int32 × xM)
  | 0, _, _ => none
  | N + 1, x1, σ =>
    if 24 ≤ x1 then
    nm (xup σ k 4 0) (fun σ7 =>
    some ((σ7 k 7), σ7))
    else
    if (2 * (σ k 7)) ≤ x1 then
    if inb (10 + x1) 196 then
    nm (xup σ (k + 1) (Int32.toNatClampNeg (10 + x1)) 0) (fun σ10 =>
    F_X7_load_L32 k N (x1 + 1) σ10)
    else none
    else
    if inb x1 24 then
    if inb (10 + x1) 196 then
    nm (xup σ (k + 1) (Int32.toNatClampNeg (10 + x1)) (σ (k + 5) (Int32.toNatClampNeg x1))) (fun σ13 =>
    F_X7_load_L32 k N (x1 + 1) σ13)
    else none
    else none
def F_X7_load (k : Nat) (σ : xM) : Option (Int32 × xM) :=
  (F_X7_readsAll k σ).bind (fun q1 =>
  if (bz q1.1) = 0 then
  some (((-10) - (q1.2 k 8)), q1.2)
  else
  (F_X7_notes k q1.2).bind (fun q3 =>
  if inb 9 196 then
  nm (xup q3.2 (k + 1) (Int32.toNatClampNeg 9) (q3.2 k 7)) (fun σ5 =>
  F_X7_load_L32 k FU 0 σ5)
  else none))
def F_X7_air_J51 (k : Nat) (x2 : Int32) (x3 : Int32) (σ : xM) : Option (Int32 × xM) :=
  if x3 = 0 then
  if inb ((10 + (2 * 0)) + 1) 196 then
  some ((1000 * (σ (k + 1) (Int32.toNatClampNeg ((10 + (2 * 0)) + 1)))), σ)
  else none
  else
  if inb ((10 + (2 * (x2 - 1))) + 1) 196 then
  some ((1000 * (σ (k + 1) (Int32.toNatClampNeg ((10 + (2 * (x2 - 1))) + 1)))), σ)
  else none
def F_X7_air_J36 (k : Nat) (x1 : Int32) (x2 : Int32) (x3 : Int32) (σ : xM) : Option (Int32 × xM) :=
  if x2 = 0 then
  some (0, σ)
  else
  if x3 = 0 then
  F_X7_air_J51 k x2 x3 σ
  else
  if x3 = x2 then
  F_X7_air_J51 k x2 x3 σ
  else
  nm ((10 + (2 * x3)) - 2) (fun x4_10 =>
  if inb (x4_10 + 1) 196 then
  if inb (x4_10 + 3) 196 then
  if inb (x4_10 + 1) 196 then
  if inb x4_10 196 then
  if inb (x4_10 + 2) 196 then
  if inb x4_10 196 then
  if ((σ (k + 1) (Int32.toNatClampNeg (x4_10 + 2))) - (σ (k + 1) (Int32.toNatClampNeg x4_10))) = 0 then none else
  some (((1000 * (σ (k + 1) (Int32.toNatClampNeg (x4_10 + 1)))) + (((1000 * ((σ (k + 1) (Int32.toNatClampNeg (x4_10 + 3))) - (σ (k + 1) (Int32.toNatClampNeg (x4_10 + 1))))) * (x1 - (σ (k + 1) (Int32.toNatClampNeg x4_10)))) / ((σ (k + 1) (Int32.toNatClampNeg (x4_10 + 2))) - (σ (k + 1) (Int32.toNatClampNeg x4_10))))), σ)
  else none
  else none
  else none
  else none
  else none
  else none)
def F_X7_air_L10 (k : Nat) : Nat → Int32 → Int32 → Int32 → xM → Option (Int32 × xM)
  | 0, _, _, _, _ => none
  | N + 1, x1, x2, x3, σ =>
    if x2 ≤ x3 then
    F_X7_air_J36 k x1 x2 x3 σ
    else
    if inb (10 + (2 * x3)) 196 then
    if x1 < (σ (k + 1) (Int32.toNatClampNeg (10 + (2 * x3)))) then
    F_X7_air_J36 k x1 x2 x3 σ
    else
    F_X7_air_L10 k N x1 x2 (x3 + 1) σ
    else none
def F_X7_air (k : Nat) (x1 : Int32) (σ : xM) : Option (Int32 × xM) :=
  if inb 9 196 then
  nm (σ (k + 1) (Int32.toNatClampNeg 9)) (fun x2_2 =>
  F_X7_air_L10 k FU x1 x2_2 0 σ)
  else none
def F_X7_outside (k : Nat) (x1 : Int32) (σ : xM) : Option (Int32 × xM) :=
  (F_X7_in x1 0 20000 σ).bind (fun q1 =>
  if (bz q1.1) = 0 then
  some ((-1000001), q1.2)
  else
  (F_X7_air k x1 q1.2).bind (fun q3 =>
  some (q3.1, q3.2)))
def F_X7_flows_L59 (k : Nat) : Nat → Int32 → Int32 → Int32 → Int32 → Int32 → xM → Option (Unit × xM)
  | 0, _, _, _, _, _, _ => none
  | N + 1, x1, x3, x4, x5, x6, σ =>
    if inb 7 196 then
    if (σ (k + 1) (Int32.toNatClampNeg 7)) ≤ x6 then
    (F_X7_grows k x1 1 ((x3 - x4) - x5) σ).bind (fun q8 =>
    (F_X7_grows k x1 17 x3 q8.2).bind (fun q9 =>
    (F_X7_grows k x1 18 x4 q9.2).bind (fun q10 =>
    (F_X7_grows k x1 19 x5 q10.2).bind (fun q11 =>
    some ((), q11.2)))))
    else
    if inb ((34 + (6 * x1)) + x6) 196 then
    if inb x1 6 then
    if inb x6 6 then
    nm (x5 + (((σ (k + 1) (Int32.toNatClampNeg ((34 + (6 * x1)) + x6))) * ((σ (k + 6) (Int32.toNatClampNeg x1)) - (σ (k + 6) (Int32.toNatClampNeg x6)))) / 1000)) (fun x5_15 =>
    F_X7_flows_L59 k N x1 x3 x4 x5_15 (x6 + 1) σ)
    else none
    else none
    else none
    else none
def F_X7_flows_J31 (k : Nat) (x1 : Int32) (x2 : Int32) (y0 : Int32) (σ : xM) : Option (Unit × xM) :=
  (F_X7_of k x1 3 σ).bind (fun q3 =>
  if inb x1 6 then
  nm ((q3.1 * ((q3.2 (k + 6) (Int32.toNatClampNeg x1)) - x2)) / 1000) (fun x4_5 =>
  F_X7_flows_L59 k FU x1 y0 x4_5 0 0 q3.2)
  else none)
def F_X7_flows_J30 (k : Nat) (x1 : Int32) (x2 : Int32) (σ : xM) : Option (Unit × xM) :=
  F_X7_flows_J31 k x1 x2 0 σ
def F_X7_flows (k : Nat) (x1 : Int32) (x2 : Int32) (σ : xM) : Option (Unit × xM) :=
  (F_X7_of k x1 7 σ).bind (fun q1 =>
  if q1.1 = 1 then
  (F_X7_of k x1 14 q1.2).bind (fun q16 =>
  if q16.1 = 0 then
  (F_X7_of k x1 2 q16.2).bind (fun q18 =>
  F_X7_flows_J31 k x1 x2 q18.1 q18.2)
  else
  F_X7_flows_J30 k x1 x2 q16.2)
  else
  F_X7_flows_J30 k x1 x2 q1.2)
def F_X7_closes_J123 (k : Nat) (x1 : Int32) (y0 : Int32) (y1 : Int32) (y2 : Int32) (σ : xM) : Option (Unit × xM) :=
  (F_X7_grows k y2 y1 y0 σ).bind (fun q13 =>
  if inb 8 196 then
  (F_X7_puts k x1 15 (q13.2 (k + 1) (Int32.toNatClampNeg 8)) q13.2).bind (fun q15 =>
  some ((), q15.2))
  else none)
def F_X7_closes_J104 (k : Nat) (x1 : Int32) (y0 : Int32) (σ : xM) : Option (Unit × xM) :=
  if y0 = 0 then
  F_X7_closes_J123 k x1 0 12 x1 σ
  else
  if inb 4 196 then
  F_X7_closes_J123 k x1 (σ (k + 1) (Int32.toNatClampNeg 4)) 12 x1 σ
  else none
def F_X7_closes_J103 (k : Nat) (x1 : Int32) (σ : xM) : Option (Unit × xM) :=
  F_X7_closes_J104 k x1 0 σ
def F_X7_closes_J60 (k : Nat) (x1 : Int32) (y0 : Int32) (y1 : Int32) (y2 : Int32) (σ : xM) : Option (Unit × xM) :=
  (F_X7_puts k y2 y1 y0 σ).bind (fun q9 =>
  (F_X7_of k x1 15 q9.2).bind (fun q10 =>
  if q10.1 = (-1000009) then
  F_X7_closes_J103 k x1 q10.2
  else
  if inb 8 196 then
  (F_X7_of k x1 15 q10.2).bind (fun q18 =>
  if inb 3 196 then
  if (q18.2 (k + 1) (Int32.toNatClampNeg 3)) ≤ ((q10.2 (k + 1) (Int32.toNatClampNeg 8)) - q18.1) then
  F_X7_closes_J103 k x1 q18.2
  else
  F_X7_closes_J104 k x1 1 q18.2
  else none)
  else none))
def F_X7_closes (k : Nat) (x1 : Int32) (σ : xM) : Option (Unit × xM) :=
  (F_X7_puts k x1 7 1 σ).bind (fun q1 =>
  (F_X7_grows k x1 11 1 q1.2).bind (fun q2 =>
  (F_X7_of k x1 2 q2.2).bind (fun q3 =>
  (F_X7_grows k x1 9 q3.1 q3.2).bind (fun q4 =>
  (F_X7_of k x1 9 q4.2).bind (fun q5 =>
  if inb 1 196 then
  if q5.1 < (q5.2 (k + 1) (Int32.toNatClampNeg 1)) then
  (F_X7_of k x1 8 q5.2).bind (fun q8 =>
  F_X7_closes_J60 k x1 q8.1 8 x1 q8.2)
  else
  F_X7_closes_J60 k x1 1 8 x1 q5.2
  else none)))))
def F_X7_opens_J69 (k : Nat) (x1 : Int32) (σ : xM) : Option (Int32 × xM) :=
  (F_X7_puts k x1 7 0 σ).bind (fun q3 =>
  some (1, q3.2))
def F_X7_opens (k : Nat) (x1 : Int32) (σ : xM) : Option (Int32 × xM) :=
  (F_X7_of k x1 8 σ).bind (fun q1 =>
  if q1.1 = 1 then
  (F_X7_grows k x1 10 1 q1.2).bind (fun q4 =>
  (F_X7_of k x1 10 q4.2).bind (fun q5 =>
  if inb 2 196 then
  if (q5.2 (k + 1) (Int32.toNatClampNeg 2)) ≤ q5.1 then
  (F_X7_puts k x1 8 0 q5.2).bind (fun q8 =>
  (F_X7_puts k x1 10 0 q8.2).bind (fun q9 =>
  (F_X7_of k x1 9 q9.2).bind (fun q10 =>
  (F_X7_puts k x1 9 (q10.1 / 2) q10.2).bind (fun q11 =>
  F_X7_opens_J69 k x1 q11.2))))
  else
  some (0, q5.2)
  else none))
  else
  F_X7_opens_J69 k x1 q1.2)
def F_X7_turns_J189 (k : Nat) (x5 : Int32) (y0 : Int32) (y1 : Int32) (y2 : Int32) (σ : xM) : Option (Int32 × xM) :=
  (F_X7_puts k y2 y1 y0 σ).bind (fun q19 =>
  some (x5, q19.2))
def F_X7_turns_J188 (k : Nat) (x5 : Int32) (y0 : Int32) (y1 : Int32) (σ : xM) : Option (Int32 × xM) :=
  F_X7_turns_J189 k x5 0 y0 y1 σ
def F_X7_turns_J156 (k : Nat) (x1 : Int32) (x4 : Int32) (x5 : Int32) (σ : xM) : Option (Int32 × xM) :=
  (F_X7_of k x1 7 σ).bind (fun q17 =>
  if q17.1 = 1 then
  if x4 = 0 then
  F_X7_turns_J188 k x5 13 x1 q17.2
  else
  (F_X7_of k x1 13 q17.2).bind (fun q21 =>
  F_X7_turns_J189 k x5 (q21.1 + 1) 13 x1 q21.2)
  else
  F_X7_turns_J188 k x5 13 x1 q17.2)
def F_X7_turns_J133 (k : Nat) (x1 : Int32) (x4 : Int32) (x5 : Int32) (σ : xM) : Option (Int32 × xM) :=
  (F_X7_of k x1 7 σ).bind (fun q15 =>
  if q15.1 = 1 then
  if x4 = 0 then
  F_X7_turns_J156 k x1 x4 x5 q15.2
  else
  (F_X7_opens k x1 q15.2).bind (fun q23 =>
  F_X7_turns_J156 k x1 x4 q23.1 q23.2)
  else
  F_X7_turns_J156 k x1 x4 x5 q15.2)
def F_X7_turns_J90 (k : Nat) (x1 : Int32) (x3 : Int32) (y0 : Int32) (σ : xM) : Option (Int32 × xM) :=
  (F_X7_of k x1 7 σ).bind (fun q13 =>
  if q13.1 = 0 then
  (F_X7_of k x1 4 q13.2).bind (fun q24 =>
  (F_X7_of k x1 5 q24.2).bind (fun q25 =>
  if (q24.1 - q25.1) < x3 then
  F_X7_turns_J133 k x1 y0 0 q25.2
  else
  (F_X7_closes k x1 q25.2).bind (fun q27 =>
  F_X7_turns_J156 k x1 y0 1 q27.2)))
  else
  F_X7_turns_J133 k x1 y0 0 q13.2)
def F_X7_turns_J31 (k : Nat) (x1 : Int32) (x2 : Int32) (y0 : Int32) (y1 : Int32) (y2 : Int32) (σ : xM) : Option (Int32 × xM) :=
  (F_X7_puts k y2 y1 y0 σ).bind (fun q5 =>
  (F_X7_of k x1 6 q5.2).bind (fun q6 =>
  if inb 0 196 then
  (F_X7_grows k x1 6 (((x2 - q6.1) * (q6.2 (k + 1) (Int32.toNatClampNeg 0))) / 100) q6.2).bind (fun q8 =>
  (F_X7_of k x1 6 q8.2).bind (fun q9 =>
  (F_X7_of k x1 4 q9.2).bind (fun q10 =>
  (F_X7_of k x1 5 q10.2).bind (fun q11 =>
  if q9.1 < (q10.1 + q11.1) then
  F_X7_turns_J90 k x1 q9.1 0 q11.2
  else
  F_X7_turns_J90 k x1 q9.1 1 q11.2))))
  else none))
def F_X7_turns (k : Nat) (x1 : Int32) (σ : xM) : Option (Int32 × xM) :=
  (F_X7_temperature k x1 σ).bind (fun q1 =>
  if inb 5 196 then
  if q1.1 ≤ (q1.2 (k + 1) (Int32.toNatClampNeg 5)) then
  (F_X7_of k x1 14 q1.2).bind (fun q4 =>
  F_X7_turns_J31 k x1 q1.1 q4.1 14 x1 q4.2)
  else
  F_X7_turns_J31 k x1 q1.1 1 14 x1 q1.2
  else none)
def F_X7_minute_L71 (k : Nat) : Nat → Int32 → Int32 → xM → Option (Int32 × xM)
  | 0, _, _, _ => none
  | N + 1, x2, x3, σ =>
    if inb 7 196 then
    if (σ (k + 1) (Int32.toNatClampNeg 7)) ≤ x3 then
    if inb 8 196 then
    if inb 8 196 then
    nm (xup σ (k + 1) (Int32.toNatClampNeg 8) ((σ (k + 1) (Int32.toNatClampNeg 8)) + 1)) (fun σ11 =>
    some (x2, σ11))
    else none
    else none
    else
    (F_X7_turns k x3 σ).bind (fun q12 =>
    nm (x2 + q12.1) (fun x2_13 =>
    F_X7_minute_L71 k N x2_13 (x3 + 1) q12.2))
    else none
def F_X7_minute_L44 (k : Nat) : Nat → Int32 → Int32 → xM → Option (Int32 × xM)
  | 0, _, _, _ => none
  | N + 1, x1, x2, σ =>
    if inb 7 196 then
    if (σ (k + 1) (Int32.toNatClampNeg 7)) ≤ x2 then
    F_X7_minute_L71 k FU 0 0 σ
    else
    (F_X7_flows k x2 x1 σ).bind (fun q14 =>
    F_X7_minute_L44 k N x1 (x2 + 1) q14.2)
    else none
def F_X7_minute_L14 (k : Nat) : Nat → Int32 → Int32 → xM → Option (Int32 × xM)
  | 0, _, _, _ => none
  | N + 1, x1, x2, σ =>
    if inb 7 196 then
    if (σ (k + 1) (Int32.toNatClampNeg 7)) ≤ x2 then
    F_X7_minute_L44 k FU x1 0 σ
    else
    (F_X7_temperature k x2 σ).bind (fun q15 =>
    if inb x2 6 then
    nm (xup q15.2 (k + 6) (Int32.toNatClampNeg x2) q15.1) (fun σ17 =>
    F_X7_minute_L14 k N x1 (x2 + 1) σ17)
    else none)
    else none
def F_X7_minute (k : Nat) (σ : xM) : Option (Int32 × xM) :=
  if inb 8 196 then
  (F_X7_air k (σ (k + 1) (Int32.toNatClampNeg 8)) σ).bind (fun q2 =>
  F_X7_minute_L14 k FU q2.1 0 q2.2)
  else none
def F_X7_minutes_L4 (k : Nat) : Nat → Int32 → Int32 → Int32 → xM → Option (Int32 × xM)
  | 0, _, _, _, _ => none
  | N + 1, x1, x2, x3, σ =>
    if x1 ≤ x3 then
    some (x2, σ)
    else
    (F_X7_minute k σ).bind (fun q2 =>
    nm (x2 + q2.1) (fun x2_3 =>
    F_X7_minutes_L4 k N x1 x2_3 (x3 + 1) q2.2))
def F_X7_minutes (k : Nat) (x1 : Int32) (σ : xM) : Option (Int32 × xM) :=
  F_X7_minutes_L4 k FU x1 0 0 σ
def F_X7_pass (k : Nat) (x1 : Int32) (σ : xM) : Option (Int32 × xM) :=
  (F_X7_in x1 1 500 σ).bind (fun q1 =>
  if (bz q1.1) = 0 then
  some ((-1000001), q1.2)
  else
  if inb 7 196 then
  if (q1.2 (k + 1) (Int32.toNatClampNeg 7)) = 0 then
  some ((-1000002), q1.2)
  else
  if inb 8 196 then
  if ((q1.2 (k + 1) (Int32.toNatClampNeg 8)) + x1) ≤ 20000 then
  (F_X7_notes k q1.2).bind (fun q7 =>
  (F_X7_minutes k x1 q7.2).bind (fun q8 =>
  some (q8.1, q8.2)))
  else
  some ((-1000003), q1.2)
  else none
  else none)
def F_X7_keeps_L2 (k : Nat) : Nat → Int32 → xM → Option (Unit × xM)
  | 0, _, _ => none
  | N + 1, x1, σ =>
    if 196 ≤ x1 then
    some ((), σ)
    else
    if inb x1 196 then
    if inb x1 196 then
    nm (xup σ (k + 4) (Int32.toNatClampNeg x1) (σ (k + 1) (Int32.toNatClampNeg x1))) (fun σ4 =>
    F_X7_keeps_L2 k N (x1 + 1) σ4)
    else none
    else none
def F_X7_keeps (k : Nat) (σ : xM) : Option (Unit × xM) :=
  F_X7_keeps_L2 k FU 0 σ
def F_X7_restores_L2 (k : Nat) : Nat → Int32 → xM → Option (Unit × xM)
  | 0, _, _ => none
  | N + 1, x1, σ =>
    if 196 ≤ x1 then
    some ((), σ)
    else
    if inb x1 196 then
    if inb x1 196 then
    nm (xup σ (k + 1) (Int32.toNatClampNeg x1) (σ (k + 4) (Int32.toNatClampNeg x1))) (fun σ4 =>
    F_X7_restores_L2 k N (x1 + 1) σ4)
    else none
    else none
def F_X7_restores (k : Nat) (σ : xM) : Option (Unit × xM) :=
  F_X7_restores_L2 k FU 0 σ
def F_X7_minutesToSuspect_J64 (k : Nat) (x2 : Int32) (y0 : Int32) (σ : xM) : Option (Int32 × xM) :=
  (F_X7_restores k σ).bind (fun q7 =>
  if y0 = 0 then
  some ((-1000009), q7.2)
  else
  some (x2, q7.2))
def F_X7_minutesToSuspect_J63 (k : Nat) (x2 : Int32) (σ : xM) : Option (Int32 × xM) :=
  F_X7_minutesToSuspect_J64 k x2 0 σ
def F_X7_minutesToSuspect_J47 (k : Nat) (x1 : Int32) (x2 : Int32) (x3 : Int32) (σ : xM) : Option (Int32 × xM) :=
  (F_X7_isSuspect k x1 σ).bind (fun q5 =>
  if (bz q5.1) = 0 then
  F_X7_minutesToSuspect_J63 k x2 q5.2
  else
  if x3 < 0 then
  F_X7_minutesToSuspect_J63 k x2 q5.2
  else
  F_X7_minutesToSuspect_J64 k x2 1 q5.2)
def F_X7_minutesToSuspect_L19 (k : Nat) : Nat → Int32 → Int32 → Int32 → xM → Option (Int32 × xM)
  | 0, _, _, _, _ => none
  | N + 1, x1, x2, x3, σ =>
    if 1000 ≤ x2 then
    F_X7_minutesToSuspect_J47 k x1 x2 x3 σ
    else
    (F_X7_isSuspect k x1 σ).bind (fun q10 =>
    if (bz q10.1) = 0 then
    (F_X7_minute k q10.2).bind (fun q12 =>
    nm (x3 + q12.1) (fun x3_13 =>
    F_X7_minutesToSuspect_L19 k N x1 (x2 + 1) x3_13 q12.2))
    else
    F_X7_minutesToSuspect_J47 k x1 x2 x3 q10.2)
def F_X7_minutesToSuspect (k : Nat) (x1 : Int32) (σ : xM) : Option (Int32 × xM) :=
  (F_X7_isRoom k x1 σ).bind (fun q1 =>
  if (bz q1.1) = 0 then
  some ((-1000001), q1.2)
  else
  (F_X7_keeps k q1.2).bind (fun q3 =>
  F_X7_minutesToSuspect_L19 k FU x1 0 0 q3.2))
def F_X7_heated_L4 (k : Nat) : Nat → Int32 → Int32 → xM → Option (Int32 × xM)
  | 0, _, _, _ => none
  | N + 1, x1, x2, σ =>
    if inb 7 196 then
    if (σ (k + 1) (Int32.toNatClampNeg 7)) ≤ x2 then
    some (x1, σ)
    else
    (F_X7_of k x2 17 σ).bind (fun q3 =>
    nm (x1 + q3.1) (fun x1_4 =>
    F_X7_heated_L4 k N x1_4 (x2 + 1) q3.2))
    else none
def F_X7_heated (k : Nat) (σ : xM) : Option (Int32 × xM) :=
  F_X7_heated_L4 k FU 0 0 σ
def F_X7_heatIn_J41 (k : Nat) (x2 : Int32) (y0 : Int32) (σ : xM) : Option (Int32 × xM) :=
  (F_X7_restores k σ).bind (fun q8 =>
  some ((y0 - x2), q8.2))
def F_X7_heatIn (k : Nat) (x1 : Int32) (σ : xM) : Option (Int32 × xM) :=
  (F_X7_in x1 1 1000 σ).bind (fun q1 =>
  if (bz q1.1) = 0 then
  some ((-1000001), q1.2)
  else
  (F_X7_keeps k q1.2).bind (fun q3 =>
  (F_X7_heated k q3.2).bind (fun q4 =>
  (F_X7_minutes k x1 q4.2).bind (fun q5 =>
  if 0 ≤ q5.1 then
  (F_X7_heated k q5.2).bind (fun q7 =>
  F_X7_heatIn_J41 k q4.1 q7.1 q7.2)
  else
  F_X7_heatIn_J41 k q4.1 q4.1 q5.2))))
def F_X7_fined_J44 (k : Nat) (x4 : Int32) (y0 : Int32) (σ : xM) : Option (Int32 × xM) :=
  (F_X7_restores k σ).bind (fun q7 =>
  some ((y0 - x4), q7.2))
def F_X7_fined (k : Nat) (x1 : Int32) (x2 : Int32) (x3 : Int32) (σ : xM) : Option (Int32 × xM) :=
  (F_X7_keeps k σ).bind (fun q1 =>
  (F_X7_of k x1 12 q1.2).bind (fun q2 =>
  (F_X7_puts k x1 5 x2 q2.2).bind (fun q3 =>
  (F_X7_minutes k x3 q3.2).bind (fun q4 =>
  if 0 ≤ q4.1 then
  (F_X7_of k x1 12 q4.2).bind (fun q6 =>
  F_X7_fined_J44 k q2.1 q6.1 q6.2)
  else
  F_X7_fined_J44 k q2.1 q2.1 q4.2))))
def F_X7_finesWith (k : Nat) (x1 : Int32) (x2 : Int32) (x3 : Int32) (σ : xM) : Option (Int32 × xM) :=
  (F_X7_isRoom k x1 σ).bind (fun q1 =>
  if (bz q1.1) = 0 then
  some ((-1000001), q1.2)
  else
  (F_X7_in x2 100 5000 q1.2).bind (fun q3 =>
  if (bz q3.1) = 0 then
  some ((-1000001), q3.2)
  else
  (F_X7_in x3 1 1000 q3.2).bind (fun q5 =>
  if (bz q5.1) = 0 then
  some ((-1000001), q5.2)
  else
  (F_X7_fined k x1 x2 x3 q5.2).bind (fun q7 =>
  some (q7.1, q7.2)))))
def F_X7_quietBand_J48  (x3 : Int32) (σ : xM) : Option (Int32 × xM) :=
  if 5000 < x3 then
  some ((-1000009), σ)
  else
  some (x3, σ)
def F_X7_quietBand_L25 (k : Nat) : Nat → Int32 → Int32 → Int32 → xM → Option (Int32 × xM)
  | 0, _, _, _, _ => none
  | N + 1, x1, x2, x3, σ =>
    if 5000 < x3 then
    F_X7_quietBand_J48  x3 σ
    else
    (F_X7_fined k x1 x3 x2 σ).bind (fun q7 =>
    if q7.1 ≤ 0 then
    F_X7_quietBand_J48  x3 q7.2
    else
    F_X7_quietBand_L25 k N x1 x2 (x3 + 100) q7.2)
def F_X7_quietBand (k : Nat) (x1 : Int32) (x2 : Int32) (σ : xM) : Option (Int32 × xM) :=
  (F_X7_isRoom k x1 σ).bind (fun q1 =>
  if (bz q1.1) = 0 then
  some ((-1000001), q1.2)
  else
  (F_X7_in x2 1 300 q1.2).bind (fun q3 =>
  if (bz q3.1) = 0 then
  some ((-1000001), q3.2)
  else
  F_X7_quietBand_L25 k FU x1 x2 100 q3.2))
end
section
def rm_X0_begin : Jvm.Room := { frames := 0, cells := 0, slots := 0, locals := 0 }
set_option maxHeartbeats 4000000 in
set_option maxRecDepth 100000 in
theorem c_X0_begin (l : Launch) (E : xE) (B : Nat) {k : Nat} {x1 : Int32} {σ : xM} {q : Unit × xM} (hk_k : kd k = 0) (h : F_X0_begin k x1 σ = some q) : Met l yX0_begin (Cond.code yX0_begin cX0_begin 2 none :: AL) rm_X0_begin (xP E B 160 (layX E B) [.ref (B + k), .int x1] σ) (xQ E B 160 (layX E B) none q.2) 0 0 (wA B 160) := by
  refine x_met (plainFor_of_name (by decide +kernel)) (Nat.le_of_ble_eq_true rfl) rfl ?_
  intro p e s m below meth c ls CX hr hlk hM hl
  have hx := CX.1.1
  have hb := CX.1.2.1
  unfold F_X0_begin at h
  refine lv_aload_n hx hb dX0_begin_0 rfl (lv_at hl 0 rfl) ?_
  refine lv_iload_n hx hb dX0_begin_1 rfl (lv_at hl 1 rfl) ?_
  refine p0_0 (y := x1) CX hM hk_k wf_X0_9 dX0_begin_2 (fun H locs σ1 eσ1 hM => ?_)
  replace h := nm_h eσ1 h
  refine lv_aload_n hx hb dX0_begin_5 rfl (lv_at hl 0 rfl) ?_
  refine lv_iconst (v := 0) hx hb dX0_begin_6 (by decide) ?_
  refine p0_1 (y := 0) CX hM hk_k wf_X0_15 dX0_begin_7 (fun H locs σ2 eσ2 hM => ?_)
  replace h := nm_h eσ2 h
  refine lv_aload_n hx hb dX0_begin_10 rfl (lv_at hl 0 rfl) ?_
  refine lv_iconst (v := 0) hx hb dX0_begin_11 (by decide) ?_
  refine p0_2 (y := 0) CX hM hk_k wf_X0_18 dX0_begin_12 (fun H locs σ3 eσ3 hM => ?_)
  replace h := nm_h eσ3 h
  refine lv_aload_n hx hb dX0_begin_15 rfl (lv_at hl 0 rfl) ?_
  refine lv_iconst (v := 0) hx hb dX0_begin_16 (by decide) ?_
  refine p0_3 (y := 0) CX hM hk_k wf_X0_21 dX0_begin_17 (fun H locs σ4 eσ4 hM => ?_)
  replace h := nm_h eσ4 h
  refine lv_aload_n hx hb dX0_begin_20 rfl (lv_at hl 0 rfl) ?_
  refine lv_iconst (v := 0) hx hb dX0_begin_21 (by decide) ?_
  refine p0_4 (y := 0) CX hM hk_k wf_X0_24 dX0_begin_22 (fun H locs σ5 eσ5 hM => ?_)
  replace h := nm_h eσ5 h
  obtain rfl := Option.some.inj h
  exact x_vret CX hr hlk hM rfl dX0_begin_25
def rm_X0_copyFrom : Jvm.Room := { frames := 0, cells := 0, slots := 0, locals := 0 }
set_option maxHeartbeats 4000000 in
set_option maxRecDepth 100000 in
theorem c_X0_copyFrom (l : Launch) (E : xE) (B : Nat) {k : Nat} {r1 : Nat} {σ : xM} {q : Unit × xM} (hk_k : kd k = 0) (hk_r1 : kd r1 = 0) (h : F_X0_copyFrom k r1 σ = some q) : Met l yX0_copyFrom (Cond.code yX0_copyFrom cX0_copyFrom 2 none :: AL) rm_X0_copyFrom (xP E B 160 (layX E B) [.ref (B + k), .ref (B + r1)] σ) (xQ E B 160 (layX E B) none q.2) 0 0 (wA B 160) := by
  refine x_met (plainFor_of_name (by decide +kernel)) (Nat.le_of_ble_eq_true rfl) rfl ?_
  intro p e s m below meth c ls CX hr hlk hM hl
  have hx := CX.1.1
  have hb := CX.1.2.1
  unfold F_X0_copyFrom at h
  refine lv_aload_n hx hb dX0_copyFrom_0 rfl (lv_at hl 0 rfl) ?_
  refine lv_aload_n hx hb dX0_copyFrom_1 rfl (lv_at hl 1 rfl) ?_
  refine g0_0 CX hM hk_r1 wf_X0_9 dX0_copyFrom_2 ?_
  refine p0_0 (y := (σ r1 0)) CX hM hk_k wf_X0_9 dX0_copyFrom_5 (fun H locs σ1 eσ1 hM => ?_)
  replace h := nm_h eσ1 h
  refine lv_aload_n hx hb dX0_copyFrom_8 rfl (lv_at hl 0 rfl) ?_
  refine lv_aload_n hx hb dX0_copyFrom_9 rfl (lv_at hl 1 rfl) ?_
  refine g0_1 CX hM hk_r1 wf_X0_15 dX0_copyFrom_10 ?_
  refine p0_1 (y := (σ1 r1 1)) CX hM hk_k wf_X0_15 dX0_copyFrom_13 (fun H locs σ2 eσ2 hM => ?_)
  replace h := nm_h eσ2 h
  refine lv_aload_n hx hb dX0_copyFrom_16 rfl (lv_at hl 0 rfl) ?_
  refine lv_aload_n hx hb dX0_copyFrom_17 rfl (lv_at hl 1 rfl) ?_
  refine g0_2 CX hM hk_r1 wf_X0_18 dX0_copyFrom_18 ?_
  refine p0_2 (y := (σ2 r1 2)) CX hM hk_k wf_X0_18 dX0_copyFrom_21 (fun H locs σ3 eσ3 hM => ?_)
  replace h := nm_h eσ3 h
  refine lv_aload_n hx hb dX0_copyFrom_24 rfl (lv_at hl 0 rfl) ?_
  refine lv_aload_n hx hb dX0_copyFrom_25 rfl (lv_at hl 1 rfl) ?_
  refine g0_3 CX hM hk_r1 wf_X0_21 dX0_copyFrom_26 ?_
  refine p0_3 (y := (σ3 r1 3)) CX hM hk_k wf_X0_21 dX0_copyFrom_29 (fun H locs σ4 eσ4 hM => ?_)
  replace h := nm_h eσ4 h
  refine lv_aload_n hx hb dX0_copyFrom_32 rfl (lv_at hl 0 rfl) ?_
  refine lv_aload_n hx hb dX0_copyFrom_33 rfl (lv_at hl 1 rfl) ?_
  refine g0_4 CX hM hk_r1 wf_X0_24 dX0_copyFrom_34 ?_
  refine p0_4 (y := (σ4 r1 4)) CX hM hk_k wf_X0_24 dX0_copyFrom_37 (fun H locs σ5 eσ5 hM => ?_)
  replace h := nm_h eσ5 h
  obtain rfl := Option.some.inj h
  exact x_vret CX hr hlk hM rfl dX0_copyFrom_40
def rm_X0_sum : Jvm.Room := { frames := 0, cells := 0, slots := 0, locals := 0 }
set_option maxHeartbeats 4000000 in
set_option maxRecDepth 100000 in
theorem c_X0_sum (l : Launch) (E : xE) (B : Nat) {k : Nat} {x1 : Int32} {σ : xM} {q : Int32 × xM} (hk_k : kd k = 0) (h : F_X0_sum k x1 σ = some q) : Met l yX0_sum (Cond.code yX0_sum cX0_sum 2 (some .int) :: AL) rm_X0_sum (xP E B 160 (layX E B) [.ref (B + k), .int x1] σ) (xQ E B 160 (layX E B) (some (.int q.1)) q.2) 0 0 (wA B 160) := by
  refine x_met (plainFor_of_name (by decide +kernel)) (Nat.le_of_ble_eq_true rfl) rfl ?_
  intro p e s m below meth c ls CX hr hlk hM hl
  have hx := CX.1.1
  have hb := CX.1.2.1
  unfold F_X0_sum at h
  refine lv_iload_n hx hb dX0_sum_0 rfl (lv_at hl 1 rfl) ?_
  by_cases c1 : x1 = 0
  · replace h := it_h c1 h
    refine lv_tableIn (off := 35) (tgt := 36) hx hb dX0_sum_1 (by rw [c1]; decide) (by rw [c1]; decide) (by rw [c1]; decide) (by decide) ?_
    refine lv_aload_n hx hb dX0_sum_36 rfl (lv_at hl 0 rfl) ?_
    refine g0_0 CX hM hk_k wf_X0_9 dX0_sum_37 ?_
    obtain rfl := Option.some.inj h
    exact x_iret CX hr hlk hM rfl dX0_sum_40
  · replace h := if_h c1 h
    by_cases c2 : x1 = 1
    · replace h := it_h c2 h
      refine lv_tableIn (off := 40) (tgt := 41) hx hb dX0_sum_1 (by rw [c2]; decide) (by rw [c2]; decide) (by rw [c2]; decide) (by decide) ?_
      refine lv_aload_n hx hb dX0_sum_41 rfl (lv_at hl 0 rfl) ?_
      refine g0_1 CX hM hk_k wf_X0_15 dX0_sum_42 ?_
      obtain rfl := Option.some.inj h
      exact x_iret CX hr hlk hM rfl dX0_sum_45
    · replace h := if_h c2 h
      by_cases c3 : x1 = 2
      · replace h := it_h c3 h
        refine lv_tableIn (off := 45) (tgt := 46) hx hb dX0_sum_1 (by rw [c3]; decide) (by rw [c3]; decide) (by rw [c3]; decide) (by decide) ?_
        refine lv_aload_n hx hb dX0_sum_46 rfl (lv_at hl 0 rfl) ?_
        refine g0_2 CX hM hk_k wf_X0_18 dX0_sum_47 ?_
        obtain rfl := Option.some.inj h
        exact x_iret CX hr hlk hM rfl dX0_sum_50
      · replace h := if_h c3 h
        by_cases c4 : x1 = 3
        · replace h := it_h c4 h
          refine lv_tableIn (off := 50) (tgt := 51) hx hb dX0_sum_1 (by rw [c4]; decide) (by rw [c4]; decide) (by rw [c4]; decide) (by decide) ?_
          refine lv_aload_n hx hb dX0_sum_51 rfl (lv_at hl 0 rfl) ?_
          refine g0_3 CX hM hk_k wf_X0_21 dX0_sum_52 ?_
          obtain rfl := Option.some.inj h
          exact x_iret CX hr hlk hM rfl dX0_sum_55
        · replace h := if_h c4 h
          by_cases c5 : x1 = 4
          · replace h := it_h c5 h
            refine lv_tableIn (off := 55) (tgt := 56) hx hb dX0_sum_1 (by rw [c5]; decide) (by rw [c5]; decide) (by rw [c5]; decide) (by decide) ?_
            refine lv_aload_n hx hb dX0_sum_56 rfl (lv_at hl 0 rfl) ?_
            refine g0_4 CX hM hk_k wf_X0_24 dX0_sum_57 ?_
            obtain rfl := Option.some.inj h
            exact x_iret CX hr hlk hM rfl dX0_sum_60
          · replace h := if_h c5 h
            refine lv_tableOut (tgt := 61) hx hb dX0_sum_1 (tsw_out [0, 1, 2, 3, 4] (by decide) (by decide) (List.forall_mem_cons.mpr ⟨c1, (List.forall_mem_cons.mpr ⟨c2, (List.forall_mem_cons.mpr ⟨c3, (List.forall_mem_cons.mpr ⟨c4, (List.forall_mem_cons.mpr ⟨c5, (fun _ h => absurd h List.not_mem_nil)⟩)⟩)⟩)⟩)⟩)) (by decide) ?_
            refine lv_ldc (v := (-1000001)) hx hb CX.1.2.2.2.1 (x_hts CX wc_X0_27) dX0_sum_61 ?_
            obtain rfl := Option.some.inj h
            exact x_iret CX hr hlk hM rfl dX0_sum_63
def rm_X4_copyFrom : Jvm.Room := { frames := 1, cells := 0, slots := 0, locals := 26 }
set_option maxHeartbeats 4000000 in
set_option maxRecDepth 100000 in
theorem c_X4_copyFrom (l : Launch) (E : xE) (B : Nat) {k : Nat} {r1 : Nat} {σ : xM} {q : Unit × xM} (hk_k : kd k = 4) (hk_r1 : kd r1 = 4) (h : F_X4_copyFrom k r1 σ = some q) : Met l yX4_copyFrom (Cond.code yX4_copyFrom cX4_copyFrom 2 none :: AL) rm_X4_copyFrom (xP E B 160 (layX E B) [.ref (B + k), .ref (B + r1)] σ) (xQ E B 160 (layX E B) none q.2) 0 0 (wA B 160) := by
  refine x_met (plainFor_of_name (by decide +kernel)) (Nat.le_of_ble_eq_true rfl) rfl ?_
  intro p e s m below meth c ls CX hr hlk hM hl
  have hx := CX.1.1
  have hb := CX.1.2.1
  unfold F_X4_copyFrom at h
  refine lv_aload_n hx hb dX4_copyFrom_0 rfl (lv_at hl 1 rfl) ?_
  refine g4_0 CX hM hk_r1 wf_X4_9 dX4_copyFrom_1 ?_
  refine lv_iconst (v := 0) hx hb dX4_copyFrom_4 (by decide) ?_
  refine lv_aload_n hx hb dX4_copyFrom_5 rfl (lv_at hl 0 rfl) ?_
  refine g4_0 CX hM hk_k wf_X4_9 dX4_copyFrom_6 ?_
  refine lv_iconst (v := 0) hx hb dX4_copyFrom_9 (by decide) ?_
  refine lv_bipush (v := 12) hx hb dX4_copyFrom_10 (by decide) ?_
  refine x_acopy (nn := 12) CX hM (kdl (kd4_f hk_r1).1 rfl) (kdl (kd4_f hk_k).1 rfl) (ly13 (kd4_f hk_r1).1 _) (fun f => ly13 (kd4_f hk_k).1 f) (by decide) (by decide) (by decide) (by decide) hl.1 lk_X4_18 (by decide) (by decide) dX4_copyFrom_12 (fun H locs σ1 eσ1 hM => ?_)
  replace h := nm_h eσ1 h
  refine lv_aload_n hx hb dX4_copyFrom_15 rfl (lv_at hl 1 rfl) ?_
  refine g4_1 CX hM hk_r1 wf_X4_15 dX4_copyFrom_16 ?_
  refine lv_iconst (v := 0) hx hb dX4_copyFrom_19 (by decide) ?_
  refine lv_aload_n hx hb dX4_copyFrom_20 rfl (lv_at hl 0 rfl) ?_
  refine g4_1 CX hM hk_k wf_X4_15 dX4_copyFrom_21 ?_
  refine lv_iconst (v := 0) hx hb dX4_copyFrom_24 (by decide) ?_
  refine lv_bipush (v := 12) hx hb dX4_copyFrom_25 (by decide) ?_
  refine x_acopy (nn := 12) CX hM (kdl (kd4_f hk_r1).2 rfl) (kdl (kd4_f hk_k).2 rfl) (ly13 (kd4_f hk_r1).2 _) (fun f => ly13 (kd4_f hk_k).2 f) (by decide) (by decide) (by decide) (by decide) hl.1 lk_X4_18 (by decide) (by decide) dX4_copyFrom_27 (fun H locs σ2 eσ2 hM => ?_)
  replace h := nm_h eσ2 h
  refine lv_aload_n hx hb dX4_copyFrom_30 rfl (lv_at hl 0 rfl) ?_
  refine lv_aload_n hx hb dX4_copyFrom_31 rfl (lv_at hl 1 rfl) ?_
  refine g4_2 CX hM hk_r1 wf_X4_24 dX4_copyFrom_32 ?_
  refine p4_2 (y := (σ2 r1 2)) CX hM hk_k wf_X4_24 dX4_copyFrom_35 (fun H locs σ3 eσ3 hM => ?_)
  replace h := nm_h eσ3 h
  obtain rfl := Option.some.inj h
  exact x_vret CX hr hlk hM rfl dX4_copyFrom_38
def rm_X1_roomAt : Jvm.Room := { frames := 0, cells := 0, slots := 0, locals := 0 }
set_option maxHeartbeats 4000000 in
set_option maxRecDepth 100000 in
theorem c_X1_roomAt (l : Launch) (E : xE) (B : Nat) {k : Nat} {x1 : Int32} {σ : xM} {q : Option Nat × xM} (hk_k : kd k = 1) (h : F_X1_roomAt k x1 σ = some q) : Met l yX1_roomAt (Cond.code yX1_roomAt cX1_roomAt 2 (some (.object "ThermostatColony$Room")) :: AL) rm_X1_roomAt (xP E B 160 (layX E B) [.ref (B + k), .int x1] σ) (xQ E B 160 (layX E B) (some (va_rf (q.1.map (fun k => B + k)))) q.2) 0 0 (wA B 160) := by
  refine x_met (plainFor_of_name (by decide +kernel)) (Nat.le_of_ble_eq_true rfl) rfl ?_
  intro p e s m below meth c ls CX hr hlk hM hl
  have hx := CX.1.1
  have hb := CX.1.2.1
  unfold F_X1_roomAt at h
  refine lv_iload_n hx hb dX1_roomAt_0 rfl (lv_at hl 1 rfl) ?_
  refine lv_if_lt (tgt := 30) hx hb dX1_roomAt_1 (by decide) (fun c1 => ?_) (fun c1 => ?_)
  · replace h := it_h c1 h
    refine lv_null hx hb dX1_roomAt_30 ?_
    obtain rfl := Option.some.inj h
    exact x_aret CX hr hlk hM (Or.inl rfl) rfl dX1_roomAt_31
  · replace h := if_h c1 h
    refine lv_iload_n hx hb dX1_roomAt_4 rfl (lv_at hl 1 rfl) ?_
    refine lv_aload_n hx hb dX1_roomAt_5 rfl (lv_at hl 0 rfl) ?_
    refine g1_4 CX hM hk_k wf_X1_45 dX1_roomAt_6 ?_
    refine lv_icmp_ge (tgt := 30) hx hb dX1_roomAt_9 (by decide) (fun c2 => ?_) (fun c2 => ?_)
    · replace h := it_h c2 h
      refine lv_null hx hb dX1_roomAt_30 ?_
      obtain rfl := Option.some.inj h
      exact x_aret CX hr hlk hM (Or.inl rfl) rfl dX1_roomAt_31
    · replace h := if_h c2 h
      refine lv_iload_n hx hb dX1_roomAt_12 rfl (lv_at hl 1 rfl) ?_
      refine lv_aload_n hx hb dX1_roomAt_13 rfl (lv_at hl 0 rfl) ?_
      refine g1_1 CX hM hk_k wf_X1_17 dX1_roomAt_14 ?_
      refine x_alen (v := 6) CX hM 2 (kdl (kd1_f hk_k).2.1 rfl) (ly11 (kd1_f hk_k).2.1 _) rfl rfl dX1_roomAt_17 ?_
      refine lv_icmp_ge (tgt := 30) hx hb dX1_roomAt_18 (by decide) (fun c3 => ?_) (fun c3 => ?_)
      · replace h := it_h c3 h
        refine lv_null hx hb dX1_roomAt_30 ?_
        obtain rfl := Option.some.inj h
        exact x_aret CX hr hlk hM (Or.inl rfl) rfl dX1_roomAt_31
      · replace h := if_h c3 h
        refine lv_aload_n hx hb dX1_roomAt_21 rfl (lv_at hl 0 rfl) ?_
        refine g1_1 CX hM hk_k wf_X1_17 dX1_roomAt_22 ?_
        refine lv_iload_n hx hb dX1_roomAt_25 rfl (lv_at hl 1 rfl) ?_
        obtain ⟨g4, h⟩ := ck_h h
        refine x_aald CX hM 2 (kdl (kd1_f hk_k).2.1 rfl) (ly11 (kd1_f hk_k).2.1 _) rfl g4 rfl dX1_roomAt_26 ?_
        refine lv_goto (tgt := 31) hx hb dX1_roomAt_27 (by decide) ?_
        obtain rfl := Option.some.inj h
        exact x_aret CX hr hlk hM (Or.inr ⟨_, rfl⟩) rfl dX1_roomAt_31
def rm_J9_floorDiv_7cf53 : Jvm.Room := { frames := 0, cells := 0, slots := 0, locals := 0 }
set_option maxHeartbeats 4000000 in
set_option maxRecDepth 100000 in
theorem c_J9_floorDiv_7cf53 (l : Launch) (E : xE) (B : Nat) {x0 : Int32} {x1 : Int32} {σ : xM} {q : Int32 × xM}  (h : F_J9_floorDiv_7cf53 x0 x1 σ = some q) : Met l yJ9_floorDiv_7cf53 (Cond.code yJ9_floorDiv_7cf53 cJ9_floorDiv_7cf53 3 (some .int) :: AL) rm_J9_floorDiv_7cf53 (xP E B 160 (layX E B) [.int x0, .int x1] σ) (xQ E B 160 (layX E B) (some (.int q.1)) q.2) 0 0 (wA B 160) := by
  refine x_met (by decide +kernel) (Nat.le_of_ble_eq_true rfl) rfl ?_
  intro p e s m below meth c ls CX hr hlk hM hl
  have hx := CX.1.1
  have hb := CX.1.2.1
  unfold F_J9_floorDiv_7cf53 at h
  refine lv_iload_n hx hb dJ9_floorDiv_7cf53_0 rfl (lv_at hl 0 rfl) ?_
  refine lv_iload_n hx hb dJ9_floorDiv_7cf53_1 rfl (lv_at hl 1 rfl) ?_
  obtain ⟨g4, h⟩ := nz_h h
  refine lv_idiv hx hb dJ9_floorDiv_7cf53_2 g4 ?_
  refine lv_topi (fun x2_1 ex2_1 => ?_)
  replace h := nm_h ex2_1 h
  refine lv_istore_n (lv' := [(2, .int x2_1), (0, .int x0), (1, .int x1)]) hx hb dJ9_floorDiv_7cf53_3 rfl hl (by decide) rfl (fun ls hl => ?_)
  refine lv_iload_n hx hb dJ9_floorDiv_7cf53_4 rfl (lv_at hl 1 rfl) ?_
  refine lv_iload_n hx hb dJ9_floorDiv_7cf53_5 rfl (lv_at hl 2 rfl) ?_
  refine lv_ixor hx hb dJ9_floorDiv_7cf53_6 ?_
  refine lv_if_ge (tgt := 21) hx hb dJ9_floorDiv_7cf53_7 (by decide) (fun c2 => ?_) (fun c2 => ?_)
  · replace h := it_h c2 h
    refine lv_iload_n hx hb dJ9_floorDiv_7cf53_21 rfl (lv_at hl 0 rfl) ?_
    obtain rfl := Option.some.inj h
    exact x_iret CX hr hlk hM rfl dJ9_floorDiv_7cf53_22
  · replace h := if_h c2 h
    refine lv_iload_n hx hb dJ9_floorDiv_7cf53_10 rfl (lv_at hl 0 rfl) ?_
    refine lv_iload_n hx hb dJ9_floorDiv_7cf53_11 rfl (lv_at hl 2 rfl) ?_
    refine lv_imul hx hb dJ9_floorDiv_7cf53_12 ?_
    refine lv_iload_n hx hb dJ9_floorDiv_7cf53_13 rfl (lv_at hl 1 rfl) ?_
    refine lv_icmp_eq (tgt := 21) hx hb dJ9_floorDiv_7cf53_14 (by decide) (fun c3 => ?_) (fun c3 => ?_)
    · replace h := it_h c3 h
      refine lv_iload_n hx hb dJ9_floorDiv_7cf53_21 rfl (lv_at hl 0 rfl) ?_
      obtain rfl := Option.some.inj h
      exact x_iret CX hr hlk hM rfl dJ9_floorDiv_7cf53_22
    · replace h := if_h c3 h
      refine lv_iload_n hx hb dJ9_floorDiv_7cf53_17 rfl (lv_at hl 0 rfl) ?_
      refine lv_iconst (v := 1) hx hb dJ9_floorDiv_7cf53_18 (by decide) ?_
      refine lv_isub hx hb dJ9_floorDiv_7cf53_19 ?_
      obtain rfl := Option.some.inj h
      exact x_iret CX hr hlk hM rfl dJ9_floorDiv_7cf53_20
def rm_J9_min_7cf53 : Jvm.Room := { frames := 0, cells := 0, slots := 0, locals := 0 }
set_option maxHeartbeats 4000000 in
set_option maxRecDepth 100000 in
theorem c_J9_min_7cf53 (l : Launch) (E : xE) (B : Nat) {x0 : Int32} {x1 : Int32} {σ : xM} {q : Int32 × xM}  (h : F_J9_min_7cf53 x0 x1 σ = some q) : Met l yJ9_min_7cf53 (Cond.code yJ9_min_7cf53 cJ9_min_7cf53 2 (some .int) :: AL) rm_J9_min_7cf53 (xP E B 160 (layX E B) [.int x0, .int x1] σ) (xQ E B 160 (layX E B) (some (.int q.1)) q.2) 0 0 (wA B 160) := by
  refine x_met (by decide +kernel) (Nat.le_of_ble_eq_true rfl) rfl ?_
  intro p e s m below meth c ls CX hr hlk hM hl
  have hx := CX.1.1
  have hb := CX.1.2.1
  unfold F_J9_min_7cf53 at h
  refine lv_iload_n hx hb dJ9_min_7cf53_0 rfl (lv_at hl 0 rfl) ?_
  refine lv_iload_n hx hb dJ9_min_7cf53_1 rfl (lv_at hl 1 rfl) ?_
  refine lv_icmp_gt (tgt := 9) hx hb dJ9_min_7cf53_2 (by decide) (fun c1 => ?_) (fun c1 => ?_)
  · replace h := it_h c1 h
    refine lv_iload_n hx hb dJ9_min_7cf53_9 rfl (lv_at hl 1 rfl) ?_
    obtain rfl := Option.some.inj h
    exact x_iret CX hr hlk hM rfl dJ9_min_7cf53_10
  · replace h := if_h c1 h
    refine lv_iload_n hx hb dJ9_min_7cf53_5 rfl (lv_at hl 0 rfl) ?_
    refine lv_goto (tgt := 10) hx hb dJ9_min_7cf53_6 (by decide) ?_
    obtain rfl := Option.some.inj h
    exact x_iret CX hr hlk hM rfl dJ9_min_7cf53_10
def rm_X3_temperatureWith : Jvm.Room := { frames := 1, cells := 0, slots := 0, locals := 22 }
set_option maxHeartbeats 4000000 in
set_option maxRecDepth 100000 in
theorem c_X3_temperatureWith (l : Launch) (E : xE) (B : Nat) {k : Nat} {x1 : Int32} {σ : xM} {q : Int32 × xM} (hk_k : kd k = 3) (h : F_X3_temperatureWith k x1 σ = some q) : Met l yX3_temperatureWith (Cond.code yX3_temperatureWith cX3_temperatureWith 2 (some .int) :: AL) rm_X3_temperatureWith (xP E B 160 (layX E B) [.ref (B + k), .int x1] σ) (xQ E B 160 (layX E B) (some (.int q.1)) q.2) 0 0 (wA B 160) := by
  refine x_met (plainFor_of_name (by decide +kernel)) (Nat.le_of_ble_eq_true rfl) rfl ?_
  intro p e s m below meth c ls CX hr hlk hM hl
  have hx := CX.1.1
  have hb := CX.1.2.1
  unfold F_X3_temperatureWith at h
  refine lv_aload_n hx hb dX3_temperatureWith_0 rfl (lv_at hl 0 rfl) ?_
  refine g3_1 CX hM hk_k wf_X3_18 dX3_temperatureWith_1 ?_
  refine lv_if_le (tgt := 22) hx hb dX3_temperatureWith_4 (by decide) (fun c1 => ?_) (fun c1 => ?_)
  · replace h := it_h c1 h
    refine lv_iconst (v := 0) hx hb dX3_temperatureWith_22 (by decide) ?_
    obtain rfl := Option.some.inj h
    exact x_iret CX hr hlk hM rfl dX3_temperatureWith_23
  · replace h := if_h c1 h
    refine lv_sipush (v := 1000) hx hb dX3_temperatureWith_7 (by decide) ?_
    refine lv_iload_n hx hb dX3_temperatureWith_10 rfl (lv_at hl 1 rfl) ?_
    refine lv_imul hx hb dX3_temperatureWith_11 ?_
    refine lv_aload_n hx hb dX3_temperatureWith_12 rfl (lv_at hl 0 rfl) ?_
    refine g3_1 CX hM hk_k wf_X3_18 dX3_temperatureWith_13 ?_
    obtain ⟨q2, eq2, h⟩ := bd_h h
    refine x_callS (As := [.int (1000 * x1), .int (σ k 1)]) CX hM lk_X3_88 (c_J9_floorDiv_7cf53 l E B  eq2) ⟨rfl, rfl, by decide, by decide⟩ rfl hl.1 rfl (by decide) dX3_temperatureWith_16 (fun H locs hM => ?_)
    refine W.eq (g2 := F0 m 19 ls [.int q2.1]) rfl ?_
    refine lv_goto (tgt := 23) hx hb dX3_temperatureWith_19 (by decide) ?_
    obtain rfl := Option.some.inj h
    exact x_iret CX hr hlk hM rfl dX3_temperatureWith_23
def rm_X3_temperature : Jvm.Room := { frames := 2, cells := 0, slots := 0, locals := 43 }
set_option maxHeartbeats 4000000 in
set_option maxRecDepth 100000 in
theorem c_X3_temperature (l : Launch) (E : xE) (B : Nat) {k : Nat} {σ : xM} {q : Int32 × xM} (hk_k : kd k = 3) (h : F_X3_temperature k σ = some q) : Met l yX3_temperature (Cond.code yX3_temperature cX3_temperature 1 (some .int) :: AL) rm_X3_temperature (xP E B 160 (layX E B) [.ref (B + k)] σ) (xQ E B 160 (layX E B) (some (.int q.1)) q.2) 0 0 (wA B 160) := by
  refine x_met (plainFor_of_name (by decide +kernel)) (Nat.le_of_ble_eq_true rfl) rfl ?_
  intro p e s m below meth c ls CX hr hlk hM hl
  have hx := CX.1.1
  have hb := CX.1.2.1
  unfold F_X3_temperature at h
  refine lv_aload_n hx hb dX3_temperature_0 rfl (lv_at hl 0 rfl) ?_
  refine lv_aload_n hx hb dX3_temperature_1 rfl (lv_at hl 0 rfl) ?_
  refine g3_4 CX hM hk_k wf_X3_28 dX3_temperature_2 ?_
  obtain ⟨q1, eq1, h⟩ := bd_h h
  refine x_callV (As := [.int (σ k 4)]) CX hM (kdl hk_k rfl) (ly3 hk_k _) rfl lk_X3_84 (c_X3_temperatureWith l E B hk_k eq1) ⟨rfl, rfl, by decide, by decide⟩ rfl hl.1 rfl (by decide) dX3_temperature_5 (fun H locs hM => ?_)
  refine W.eq (g2 := F0 m 8 ls [.int q1.1]) rfl ?_
  obtain rfl := Option.some.inj h
  exact x_iret CX hr hlk hM rfl dX3_temperature_8
end
