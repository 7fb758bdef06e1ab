/-! THE CLAIM OUT OF ONE WALK OF THE LAW'S BODY. Your part is whole_start (and what it stands on); all else here is the same for every law, but numbers. -/
def R_law : String := "ThermostatColonyLaw"
def lw_P (b : Addr) (xs : List Int32) (args : Array Value) (s : State) : Prop := args = #[.ref b] ∧ s.IntsAt b xs ∧ xs.length ≤ 260 ∧ (Jvm.Cond.and given_1 narrow_1).before args s = true
def lw_Q (_ : Array Value) (s : State) (o : Outcome) (t : State) : Prop := o = .returned (some (.int 1)) ∧ Framed s o t [] 600000 7302250
def lw_Z (below : List Frame) (a : Array Value) (s : State) : State → Prop := fun t => ∃ o, t.status = .running ∧ Ended t below o ∧ lw_Q a s o t
/-- the law's own end, with 1 on the stack, nothing written that was there before, its room as the claim has it -/
theorem lw_ret {p : Program} {l : Launch} {e : Env} {s : State} {m : MethodId} {below : List Frame} {meth : Method} {c : Code} {b : Nat} (hx : p.tables.exec = Jvm.exec) (hb : c.code = code) (hr : meth.sig.returnType = ret) (hlocks : meth.locks = false) {pc : Nat} {H : Heap} {ls : Array Slot} (hdg : decode code pc = .ok (.ireturn, 1)) : W p l e room_1 s m #[Value.ref b] below meth c H [] 600000 7302250 (lw_Z below #[Value.ref b] s) (F0 m pc ls [.int 1]) := by
  intro T hT X
  obtain ⟨fs, hret, hrun, hended, hW, hframe⟩ := X.leave (v := some (.int 1)) (hlocks := hlocks) (fun h => by rw [hr] at h; cases h)
  have hmeth' : T.vm.method? m = some meth := X.method'
  refine ⟨T.setFrames fs, ?_, .returned (some (.int 1)), hrun, hended, rfl, ⟨_, rfl⟩, hW, hframe⟩
  jvm_step X.here [X.here.top, hx, hb, hdg, hmeth', hr, ret, narrow_b1]
  (try refine ⟨rfl, ?_⟩); (try refine ⟨rfl, ?_⟩)
  first | (intro acts; rw [hret _ acts rfl rfl rfl]) | rw [hret _ _ rfl rfl rfl]
  exact Steps.refl _
/-- what holds at the law's entry: the machine, the code, the tables' words (any of lw_tbl by 'hts w (by decide +kernel)'), the script of L ints xs at the cell b, what the Statement gives of the start (any of its parts by flat_of_before) -/
def lw_At (p : Program) (s : State) (m : MethodId) (meth : Method) (c : Code) (b L : Nat) (xs : Nat → Int32) : Prop :=
  p.tables.exec = Jvm.exec ∧ c.code = code ∧ meth.sig.returnType = ret ∧ c.maxLocals = 17 ∧ s.vm.findClass R_law = some m.cls ∧ (∀ w ∈ lw_tbl, w.before #[Value.ref b] s = true) ∧ va_X b L xs s s.heap ∧ b < s.heap.size ∧ meth.locks = false ∧ (Jvm.Cond.and given_1 narrow_1).before #[Value.ref b] s = true
/-! the words of the law -/
theorem wk_L_cell : Cond.code yL_cell cL_cell 2 (some .int) ∈ AL := AL_mem (AL_2 (List.mem_of_getElem? (i := 158) rfl)) rfl
theorem ws_L_cell : Cond.static yL_cell ∈ AL := AL_mem (AL_2 (List.mem_of_getElem? (i := 157) rfl)) rfl
theorem lk_L_67 : xLS RL 67 yL_cell cL_cell 2 (some .int) 2 := ⟨⟨AL_mem (AL_2 (List.mem_of_getElem? (i := 156) rfl)) rfl, ws_L_cell, wi_L, wk_L_cell⟩, by decide, by decide, by decide +kernel⟩
theorem wk_L_tale : Cond.code yL_tale cL_tale 5 (some .long) ∈ AL := AL_mem (AL_2 (List.mem_of_getElem? (i := 161) rfl)) rfl
theorem ws_L_tale : Cond.static yL_tale ∈ AL := AL_mem (AL_2 (List.mem_of_getElem? (i := 160) rfl)) rfl
theorem lk_L_71 : xLS RL 71 yL_tale cL_tale 5 (some .long) 1 := ⟨⟨AL_mem (AL_2 (List.mem_of_getElem? (i := 159) rfl)) rfl, ws_L_tale, wi_L, wk_L_tale⟩, by decide, by decide, by decide +kernel⟩
theorem wk_L_does : Cond.code yL_does cL_does 3 (some .int) ∈ AL := AL_mem (AL_2 (List.mem_of_getElem? (i := 178) rfl)) rfl
theorem ws_L_does : Cond.static yL_does ∈ AL := AL_mem (AL_2 (List.mem_of_getElem? (i := 177) rfl)) rfl
theorem lk_L_75 : xLS RL 75 yL_does cL_does 3 (some .int) 2 := ⟨⟨AL_mem (AL_2 (List.mem_of_getElem? (i := 176) rfl)) rfl, ws_L_does, wi_L, wk_L_does⟩, by decide, by decide, by decide +kernel⟩
theorem wk_X6_undo : Cond.code yX6_undo cX6_undo 1 (some .int) ∈ AL := AL_mem (AL_2 (List.mem_of_getElem? (i := 145) rfl)) rfl
theorem ws_X6_undo : Cond.instanceMethod yX6_undo ∈ AL := AL_mem (AL_2 (List.mem_of_getElem? (i := 143) rfl)) rfl
theorem wv_X6_undo : Cond.selects yX6_undo.cls yX6_undo yX6_undo ∈ AL := AL_mem (AL_2 (List.mem_of_getElem? (i := 144) rfl)) rfl
theorem lk_L_80 : xLV RL 80 yX6_undo cX6_undo 1 (some .int) 0 := ⟨⟨AL_mem (AL_2 (List.mem_of_getElem? (i := 142) rfl)) rfl, ws_X6_undo, wv_X6_undo, wi_X6, wk_X6_undo⟩, by decide, by decide, by decide +kernel⟩
theorem wk_X6_heatIn : Cond.code yX6_heatIn cX6_heatIn 2 (some .int) ∈ AL := AL_mem (AL_2 (List.mem_of_getElem? (i := 132) rfl)) rfl
theorem ws_X6_heatIn : Cond.instanceMethod yX6_heatIn ∈ AL := AL_mem (AL_2 (List.mem_of_getElem? (i := 130) rfl)) rfl
theorem wv_X6_heatIn : Cond.selects yX6_heatIn.cls yX6_heatIn yX6_heatIn ∈ AL := AL_mem (AL_2 (List.mem_of_getElem? (i := 131) rfl)) rfl
theorem lk_L_84 : xLV RL 84 yX6_heatIn cX6_heatIn 2 (some .int) 1 := ⟨⟨AL_mem (AL_2 (List.mem_of_getElem? (i := 129) rfl)) rfl, ws_X6_heatIn, wv_X6_heatIn, wi_X6, wk_X6_heatIn⟩, by decide, by decide, by decide +kernel⟩
theorem wk_X6_minutesToSuspect : Cond.code yX6_minutesToSuspect cX6_minutesToSuspect 4 (some .int) ∈ AL := AL_mem (AL_2 (List.mem_of_getElem? (i := 50) rfl)) rfl
theorem ws_X6_minutesToSuspect : Cond.instanceMethod yX6_minutesToSuspect ∈ AL := AL_mem (AL_2 (List.mem_of_getElem? (i := 48) rfl)) rfl
theorem wv_X6_minutesToSuspect : Cond.selects yX6_minutesToSuspect.cls yX6_minutesToSuspect yX6_minutesToSuspect ∈ AL := AL_mem (AL_2 (List.mem_of_getElem? (i := 49) rfl)) rfl
theorem lk_L_87 : xLV RL 87 yX6_minutesToSuspect cX6_minutesToSuspect 4 (some .int) 1 := ⟨⟨AL_mem (AL_2 (List.mem_of_getElem? (i := 47) rfl)) rfl, ws_X6_minutesToSuspect, wv_X6_minutesToSuspect, wi_X6, wk_X6_minutesToSuspect⟩, by decide, by decide, by decide +kernel⟩
theorem wc_L_79 : Jvm.Cond.constant RL 79 (-1000000) ∈ AL := AL_mem (AL_3 (List.mem_of_getElem? (i := 35) rfl)) rfl
theorem wc_L_90 : Jvm.Cond.constant RL 90 (-1000002) ∈ AL := AL_mem (AL_3 (List.mem_of_getElem? (i := 36) rfl)) rfl
/-- the law's end with 1 -/
theorem l_exit {p : Program} {l : Launch} {e : Env} {s : State} {m : MethodId} {below : List Frame} {meth : Method} {c : Code} {E : xE} {B b : Nat} {LX : Nat × (Nat → Int32)} (CX : lCX p m c s E B b LX) (hr : meth.sig.returnType = ret) (hlk : meth.locks = false) {σ : xM} {H : Heap} {locs : List Loc} {ls : Array Slot} {pc : Nat} (hM : lX E B s σ H locs) (hdg : decode cL_law pc = .ok (.ireturn, 1)) : W p l e room_1 s m #[.ref b] below meth c H locs 160 1904 (lw_Z below #[Value.ref b] s) (F0 m pc ls [.int 1]) := by
  obtain ⟨⟨hCF, hE⟩, hX, hbl, hB⟩ := CX
  refine va_forget (fun q hq => by rw [← hB]; exact hM.2.2.2 q hq) ?_
  refine W.widen (k := 600000) (n := 7302250) (Nat.le_of_ble_eq_true rfl) (Nat.le_of_ble_eq_true rfl) ?_
  exact lw_ret hCF.1 hCF.2.1 hr hlk hdg
