/-! the law's rows -/
abbrev lCX (p : Program) (m : MethodId) (c : Code) (s : State) (E : xE) (B b : Nat) (LX : Nat × (Nat → Int32)) : Prop :=
  (CallFix p m c cL_law 17 s #[.ref b] (Cond.initialized RX1 :: AL) RL ∧ Ev E (iA B) s s.heap) ∧ va_X b LX.1 LX.2 s s.heap ∧ b < s.heap.size ∧ B = s.heap.size
def lX (E : xE) (B : Nat) (s : State) (σ : xM) (H : Heap) (locs : List Loc) : Prop := va_P E.1 vwCl (wl B (layX E B) 160 σ) H ∧ va_S (iA B) s.heap H locs
theorem wA_iA {B : Nat} : ∀ q, wA B 160 q → iA B q := fun _ h => h.1
def cellV (LX : Nat × (Nat → Int32)) (k : Int32) : Int32 := if nI LX.1 ≤ k then (7919 * (k + 3)) * (k + 11) else LX.2 (Int32.toNatClampNeg k)
section LROW
variable {p : Program} {l : Launch} {e : Env} {s : State} {m : MethodId} {below : List Frame} {meth : Method} {c : Code} {H : Heap} {locs : List Loc} {Q : State → Prop}
variable {pc : Nat} {ls : Array Slot} {rest : List Value} {E : xE} {B b : Nat} {LX : Nat × (Nat → Int32)} {σ : xM}
theorem l_hts (CX : lCX p m c s E B b LX) {w : Cond} (h : w ∈ AL) : w.before #[.ref b] s = true := CX.1.1.2.2.2.2 w (List.mem_cons_of_mem _ h)
theorem l_back {v : Option Value} {σ' : xM} {st0 : List Value} {a : Array Value} (hM : lX E B s σ H locs) (hr : va_Run p l e room_1 s m #[.ref b] below meth c H locs 160 1904 0 0 (F0 m pc ls st0) rest (xQ E B 160 (layX E B) v σ' a) (wA B 160))
    (kk : ∀ (H1 : Heap) (locs1 : List Loc), lX E B s σ' H1 locs1 → W p l e room_1 s m #[.ref b] below meth c H1 locs1 160 1904 Q (F0 m (pc + 3) ls (v.toList ++ rest))) : W p l e room_1 s m #[.ref b] below meth c H locs 160 1904 Q (F0 m pc ls st0) := by
  intro T hT X
  obtain ⟨v', st₀, t, T', L, h0, X', hL, e1, e2, ⟨⟨hv, hb⟩, hz, hk⟩, st⟩ := hr T hT X
  cases hv
  rw [h0] at hz hk
  have hS := hM.2
  obtain ⟨t2, a1, b1⟩ := kk T'.heap (locs ++ L) ⟨by rw [e1]; exact hb, Nat.le_trans hS.1 (by rw [e1]; exact hz), fun q h1 h2 => by rw [e1, hk q (Nat.lt_of_lt_of_le h1 hS.1) (fun z => h2 (wA_iA q z))]; exact hS.2.1 q h1 h2, fun q hq => by
      rcases List.mem_append.mp hq with h | h
      · exact hS.2.2 q h
      · exact wA_iA _ (hL q h)⟩ T' rfl X'
  exact ⟨t2, st t2 a1, b1⟩
theorem l_pre (CX : lCX p m c s E B b LX) (hM : lX E B s σ H locs) {av : List Value} : FrameBlind (xP E B 160 (layX E B) av σ) ∧ ∀ U : State, U.heap = H → s.WarmedH U.vm → xP E B 160 (layX E B) av σ av.toArray U :=
  ⟨fun a U g mk q => ⟨q.1, Ev.call q.2.1, q.2.2⟩, fun U hU hW => ⟨rfl, by rw [hU]; exact ((CX.1.2.warm hW).kept hM.2.2.1).mono wA_iA, by rw [hU]; exact hM.1⟩⟩
variable {y : MethodName} {bb : ByteArray} {mL index na : Nat} {ret : Option FieldType} {rm : Room} {As st0 : List Value} {v : Option Value} {σ' : xM}
theorem l_callV (CX : lCX p m c s E B b LX) (hM : lX E B s σ H locs) {ci : Nat} {fs : List Value} {T : u_T} {N : Nat} (hk : 0 < 160) (hlay : layX E B 0 (σ 0) = .inr (ci, fs)) (hc : vwCl[ci]? = some (y.cls, T, N)) (hL : xLV RL index y bb mL ret na)
    (hm : Met l y (Cond.code y bb mL ret :: AL) rm (xP E B 160 (layX E B) (.ref (B + 0) :: As) σ) (xQ E B 160 (layX E B) v σ') 0 0 (wA B 160)) (hr : rm.cells = 0 ∧ rm.slots = 0 ∧ rm.frames + 1 ≤ room_1.frames ∧ 8 + (mL + 11) + rm.locals ≤ room_1.locals) (hn : As.length = na) (hls : ls.size = 17) (hst : st0 = As.reverse ++ .ref (B + 0) :: rest) (hW : (rest.map fun v => v.category).sum ≤ 8) (hdg : decode cL_law pc = .ok (.invokevirtual index, 3))
    (kk : ∀ (H1 : Heap) (locs1 : List Loc), lX E B s σ' H1 locs1 → W p l e room_1 s m #[.ref b] below meth c H1 locs1 160 1904 Q (F0 m (pc + 3) ls (v.toList ++ rest))) : W p l e room_1 s m #[.ref b] below meth c H locs 160 1904 Q (F0 m pc ls st0) := by
  subst hst
  obtain ⟨⟨w1, w2, w3, w4, w5⟩, d1, d2, d3⟩ := hL
  have hp := l_pre CX hM (av := .ref (B + 0) :: As)
  refine l_back hM (va_runV (b := B + 0) (As := As) (rest := rest) (C := y.cls) CX.1.1 hm (cwV na CX.1.1.2.2.2.2 ?_ rfl hr.1 hr.2.1 ⟨rfl, d1, d2, d3⟩ hr.2.2) ⟨hp.1, va_recv CX.1.2.1 hM.1 hc (by rw [wl_get hk, hlay]), hp.2⟩ rfl hn hls rfl (lv_room (pc := pc) hW) hdg ⟨Nat.le_of_ble_eq_true rfl, Nat.le_of_ble_eq_true rfl⟩) kk
  refine AL_gi ?_
  intro w hw
  rcases List.mem_append.mp hw with hw | hw
  · simp only [List.mem_cons, List.not_mem_nil, or_false] at hw
    rcases hw with rfl | rfl | rfl | rfl <;> assumption
  · rcases List.mem_cons.mp hw with rfl | hw
    · exact w5
    · exact hw
theorem l_callS (CX : lCX p m c s E B b LX) (hM : lX E B s σ H locs) (hL : xLS RL index y bb mL ret na)
    (hm : Met l y (Cond.code y bb mL ret :: AL) rm (xP E B 160 (layX E B) As σ) (xQ E B 160 (layX E B) v σ') 0 0 (wA B 160)) (hr : rm.cells = 0 ∧ rm.slots = 0 ∧ rm.frames + 1 ≤ room_1.frames ∧ 8 + (mL + 11) + rm.locals ≤ room_1.locals) (hn : As.length = na) (hls : ls.size = 17) (hst : st0 = As.reverse ++ rest) (hW : (rest.map fun v => v.category).sum ≤ 8) (hdg : decode cL_law pc = .ok (.invokestatic index, 3))
    (kk : ∀ (H1 : Heap) (locs1 : List Loc), lX E B s σ' H1 locs1 → W p l e room_1 s m #[.ref b] below meth c H1 locs1 160 1904 Q (F0 m (pc + 3) ls (v.toList ++ rest))) : W p l e room_1 s m #[.ref b] below meth c H locs 160 1904 Q (F0 m pc ls st0) := by
  subst hst
  obtain ⟨⟨w1, w2, w3, w5⟩, d1, d2, d3⟩ := hL
  have hp := l_pre CX hM (av := As)
  refine l_back hM (va_runS (As := As) (rest := rest) CX.1.1 hm (va_cwS na CX.1.1.2.2.2.2 ?_ rfl hr.1 hr.2.1 ⟨d1, d2, d3⟩ hr.2.2) hp rfl hn hls rfl (lv_room (pc := pc) hW) hdg ⟨Nat.le_of_ble_eq_true rfl, Nat.le_of_ble_eq_true rfl⟩) kk
  refine AL_gi ?_
  intro w hw
  rcases List.mem_append.mp hw with hw | hw
  · simp only [List.mem_cons, List.not_mem_nil, or_false] at hw
    rcases hw with rfl | rfl | rfl <;> assumption
  · rcases List.mem_cons.mp hw with rfl | hw
    · exact w5
    · exact hw
/-! the script's cell -/
def cP (b : Nat) (LX : Nat × (Nat → Int32)) (k : Int32) : Array Value → State → Prop := va_Pc [.ref b, .int k] (fun U => va_X b LX.1 LX.2 U U.heap ∧ b < U.heap.size)
def cQ (v : Int32) : Array Value → State → Outcome → State → Prop := fun _ st oc t => oc = .returned (some (.int v)) ∧ va_F (fun _ => False) st t
def rm_cell : Jvm.Room := { frames := 0, cells := 0, slots := 0, locals := 0 }
theorem c_cell (l : Launch) {b : Nat} {LX : Nat × (Nat → Int32)} {k : Int32} (hL : LX.1 ≤ 260) (hk : ¬ k < 0) : Met l yL_cell (Cond.code yL_cell cL_cell 2 (some .int) :: AL) rm_cell (cP b LX k) (cQ (cellV LX k)) 0 0 (fun _ => False) := by
  refine va_MetF (cc := cL_cell) (maxL := 2) (ret := some .int) (plainFor_of_name (by decide +kernel)) rfl ?_
  intro p e s m args below meth c s₁ BB hml hv
  obtain ⟨rfl, hX, hbl⟩ := hv
  have hx : p.tables.exec = Jvm.exec := BB.exec
  have hb := BB.bytes
  have hl := lv_entry ([.ref b, .int k] : List Value) (n := 2) (Nat.le_of_ble_eq_true rfl)
  rw [lg_entry_eq]
  generalize (lg_sl ([.ref b, .int k]) ++ List.replicate (2 - (lg_sl ([.ref b, .int k])).length) Slot.unset).toArray = ls at hl ⊢
  have hl : lv_has ls 2 [(0, .ref b), (1, .int k)] := hl
  have hS : va_S (fun _ => False) s.heap s.heap [] := va_S.rf
  have hr := BB.returns
  have hlk := BB.notSynchronized
  refine lv_iload_n hx hb dL_cell_0 rfl (lv_at hl 1 rfl) ?_
  refine lv_aload_n hx hb dL_cell_1 rfl (lv_at hl 0 rfl) ?_
  refine va_slen (A := fun _ => False) (H0 := s.heap) hx hb hX hbl (fun h => h) hS dL_cell_2 ?_
  have fin : ∀ x : Int32, x = cellV LX k → W p l e rm_cell s m ([.ref b, .int k] : List Value).toArray below meth c s.heap [] 0 0 (MQ below (cQ (cellV LX k)) ([.ref b, .int k] : List Value).toArray s 0 0 (fun _ => False)) (F0 m 24 ls [.int x]) := by
    intro x hx2
    subst hx2
    exact W.iret hx hb hr (fun t ht _ => ⟨rfl, hS.F ht⟩) (fun _ h => by cases h) dL_cell_24 hlk
  refine lv_icmp_ge (tgt := 12) hx hb dL_cell_3 (by decide) (fun c1 => ?_) (fun c1 => ?_)
  · refine lv_sipush (v := 7919) hx hb dL_cell_12 (by decide) ?_
    refine lv_iload_n hx hb dL_cell_15 rfl (lv_at hl 1 rfl) ?_
    refine lv_iconst (v := 3) hx hb dL_cell_16 (by decide) ?_
    refine lv_iadd hx hb dL_cell_17 ?_
    refine lv_imul hx hb dL_cell_18 ?_
    refine lv_iload_n hx hb dL_cell_19 rfl (lv_at hl 1 rfl) ?_
    refine lv_bipush (v := 11) hx hb dL_cell_20 (by decide) ?_
    refine lv_iadd hx hb dL_cell_22 ?_
    refine lv_imul hx hb dL_cell_23 ?_
    have c1' : nI LX.1 ≤ k := c1
    exact fin _ (by unfold cellV; rw [if_pos c1'])
  · refine lv_aload_n hx hb dL_cell_6 rfl (lv_at hl 0 rfl) ?_
    refine lv_iload_n hx hb dL_cell_7 rfl (lv_at hl 1 rfl) ?_
    obtain ⟨j, hj, rfl⟩ := nI_of hk
    have hjL : j < LX.1 := by
      have c1' : ¬ nI LX.1 ≤ nI j := c1
      rw [nI_leI (by omega) hj] at c1'
      omega
    refine va_sld (A := fun _ => False) (H0 := s.heap) hx hb hX hbl (fun h => h) hS (inb_nI hjL (by omega)) dL_cell_8 ?_
    refine lv_goto (tgt := 24) hx hb dL_cell_9 (by decide) ?_
    exact fin _ (by unfold cellV; rw [if_neg (show ¬ nI LX.1 ≤ nI j from c1)])
theorem l_cell (CX : lCX p m c s E B b LX) (hM : lX E B s σ H locs) (hL : LX.1 ≤ 260) {k : Int32} (hk : ¬ k < 0) (hlk : xLS RL index yL_cell cL_cell 2 (some .int) 2) (hls : ls.size = 17) (hst : st0 = .int k :: .ref b :: rest) (hW : (rest.map fun v => v.category).sum ≤ 8) (hdg : decode cL_law pc = .ok (.invokestatic index, 3))
    (kk : ∀ (H1 : Heap) (locs1 : List Loc), lX E B s σ H1 locs1 → W p l e room_1 s m #[.ref b] below meth c H1 locs1 160 1904 Q (F0 m (pc + 3) ls (.int (cellV LX k) :: rest))) : W p l e room_1 s m #[.ref b] below meth c H locs 160 1904 Q (F0 m pc ls st0) := by
  subst hst
  obtain ⟨⟨w1, w2, w3, w5⟩, d1, d2, d3⟩ := hlk
  obtain ⟨⟨hCF, hE⟩, hX, hbl, hB⟩ := CX
  have hbA : ¬ iA B b := by rw [hB]; exact Nat.not_le.mpr hbl
  have hP : FrameBlind (cP b LX k) ∧ ∀ U : State, U.heap = H → s.WarmedH U.vm → cP b LX k ([.ref b, .int k] : List Value).toArray U := by
    refine ⟨fun a U g mk q => ⟨q.1, va_X.moved (u := U) (U := U.calling g mk a) (Vm.Alike.refl U.vm) q.2.1, q.2.2⟩, fun U hU hW => ⟨rfl, ?_, ?_⟩⟩
    · rw [hU]
      exact (va_X.moved hW.alike hX).kept (hM.2.2.1 b hbl hbA)
    · rw [hU]; exact Nat.lt_of_lt_of_le hbl hM.2.1
  have hG : GoodIn (Cond.initialized RX1 :: AL) (va_wsS RL index yL_cell (Cond.code yL_cell cL_cell 2 (some .int) :: AL)) := AL_gi (fun w hw => by
    rcases List.mem_append.mp hw with hw | hw
    · simp only [List.mem_cons, List.not_mem_nil, or_false] at hw
      rcases hw with rfl | rfl | rfl <;> assumption
    · rcases List.mem_cons.mp hw with rfl | hw
      · exact w5
      · exact hw)
  have hrun := va_runS (l := l) (e := e) (below := below) (meth := meth) (H := H) (locs := locs) (cells := 160) (slots := 1904) (R := room_1) (As := [.ref b, .int k]) (rest := rest) (g := F0 m pc ls (.int k :: .ref b :: rest)) hCF (c_cell l hL hk) (va_cwS 2 hCF.2.2.2.2 hG rfl rfl rfl ⟨d1, d2, d3⟩ ⟨by decide, by decide⟩) hP rfl rfl hls rfl (lv_room (pc := pc) hW) hdg ⟨Nat.le_of_ble_eq_true rfl, Nat.le_of_ble_eq_true rfl⟩
  intro T hT X
  obtain ⟨v', st₀, t, T', Lx, h0, X', hLx, e1, e2, ⟨hv, hz, hkq⟩, st⟩ := hrun T hT X
  cases hv
  rw [h0] at hz hkq
  have hS := hM.2
  have hP2 : va_P E.1 vwCl (wl B (layX E B) 160 σ) T'.heap := hM.1.kept (fun i q hi => by rw [e1]; exact hkq _ (hM.1 i q hi).lt (fun h => h))
  obtain ⟨t2, a1, b1⟩ := kk T'.heap (locs ++ Lx) ⟨hP2, Nat.le_trans hS.1 (by rw [e1]; exact hz), fun q h1 h2 => by rw [e1, hkq q (Nat.lt_of_lt_of_le h1 hS.1) (fun h => h)]; exact hS.2.1 q h1 h2, fun q hq => by
      rcases List.mem_append.mp hq with h | h
      · exact hS.2.2 q h
      · exact (hLx q h).elim⟩ T' rfl X'
  exact ⟨t2, st t2 a1, b1⟩
end LROW
