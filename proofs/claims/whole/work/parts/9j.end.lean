/-! THE CLAIM OUT OF ONE WALK OF THE LAW'S BODY. Your part is whole_start (and what it stands on); all else here is the same for every law, but numbers. -/
def R_law : String := "ThermostatColonyLaw"
def lw_P (b : Addr) (xs : List Int32) (args : Array Value) (s : State) : Prop := args = #[.ref b] ∧ s.IntsAt b xs ∧ xs.length ≤ 2560 ∧ (Jvm.Cond.and given_1 narrow_1).before args s = true
def lw_Q (_ : Array Value) (s : State) (o : Outcome) (t : State) : Prop := o = .returned (some (.int 1)) ∧ Framed s o t [] 600000 7302250
def lw_Z (below : List Frame) (a : Array Value) (s : State) : State → Prop := fun t => ∃ o, t.status = .running ∧ Ended t below o ∧ lw_Q a s o t
/-- the law's own end, with 1 on the stack, nothing written that was there before, its room as the claim has it -/
theorem lw_ret {p : Program} {l : Launch} {e : Env} {s : State} {m : MethodId} {below : List Frame} {meth : Method} {c : Code} {b : Nat} (hx : p.tables.exec = Jvm.exec) (hb : c.code = code) (hr : meth.sig.returnType = ret) (hlocks : meth.locks = false) {pc : Nat} {H : Heap} {ls : Array Slot} (hdg : decode code pc = .ok (.ireturn, 1)) : W p l e room_1 s m #[Value.ref b] below meth c H [] 600000 7302250 (lw_Z below #[Value.ref b] s) (F0 m pc ls [.int 1]) := by
  intro T hT X
  obtain ⟨fs, hret, hrun, hended, hW, hframe⟩ := X.leave (v := some (.int 1)) (hlocks := hlocks) (fun h => by rw [hr] at h; cases h)
  have hmeth' : T.vm.method? m = some meth := X.method'
  refine ⟨T.setFrames fs, ?_, .returned (some (.int 1)), hrun, hended, rfl, ⟨_, rfl⟩, hW, hframe⟩
  jvm_step X.here [X.here.top, hx, hb, hdg, hmeth', hr, ret, narrow_b1]
  (try refine ⟨rfl, ?_⟩); (try refine ⟨rfl, ?_⟩)
  first | (intro acts; rw [hret _ acts rfl rfl rfl]) | rw [hret _ _ rfl rfl rfl]
  exact Steps.refl _
/-- what holds at the law's entry: the machine, the code, the tables' words (any of lw_tbl by 'hts w (by decide +kernel)'), the script of L ints xs at the cell b, what the Statement gives of the start (any of its parts by flat_of_before) -/
def lw_At (p : Program) (s : State) (m : MethodId) (meth : Method) (c : Code) (b L : Nat) (xs : Nat → Int32) : Prop :=
  p.tables.exec = Jvm.exec ∧ c.code = code ∧ meth.sig.returnType = ret ∧ c.maxLocals = 4 ∧ s.vm.findClass R_law = some m.cls ∧ (∀ w ∈ lw_tbl, w.before #[Value.ref b] s = true) ∧ va_X b L xs s s.heap ∧ b < s.heap.size ∧ meth.locks = false ∧ (Jvm.Cond.and given_1 narrow_1).before #[Value.ref b] s = true
theorem law_loop {p : Program} {e : Env} {s : State} {m : MethodId} {below : List Frame} {meth : Method} {c : Code} (l : Launch) {E : xE} {B b L : Nat} {xs : Nat → Int32} {x0 : Cond} (S : CallFix p m c cL_law 4 s #[.ref b] (x0 :: AL) RL) (hr : meth.sig.returnType = ret) (hlocks : meth.locks = false) (hE : Ev E (iA B) s s.heap) (hX : va_X b L xs s s.heap) (hbl : b < s.heap.size) (hB : B = s.heap.size) (hL : L ≤ 2560) :
    ∀ (d k : Nat) (σ τ : xM) (H : Heap) (locs : List Loc) (ls : Array Slot), L ≤ k + d → k ≤ L → lS E B s σ τ H locs → GG σ τ → lv_has ls 4 [(3, .int (nI k)), (2, .ref (B + 160)), (1, .ref B), (0, .ref b)] → W p l e room_1 s m #[.ref b] below meth c H locs 167 3613 (lw_Z below #[Value.ref b] s) (F0 m 18 ls []) := by
  have hx := S.1
  have hb := S.2.1
  have hbA : ¬ iA B b := by rw [hB]; exact Nat.not_le.mpr hbl
  have t5 : (5 : Int32).toInt = 5 := by decide
  have e5 : (nI L - 5).toInt = (L : Int) - 5 := by rw [i_sub (by rw [nI_toInt (by omega), t5]; omega) (by rw [nI_toInt (by omega), t5]; omega), nI_toInt (by omega), t5]
  have exit : ∀ (H : Heap) (locs : List Loc) (ls : Array Slot), va_S (iA B) s.heap H locs → W p l e room_1 s m #[.ref b] below meth c H locs 167 3613 (lw_Z below #[Value.ref b] s) (F0 m 741 ls []) := by
    intro H locs ls hS
    refine va_forget (fun q hq => by rw [← hB]; exact hS.2.2 q hq) ?_
    refine W.widen (k := 600000) (n := 7302250) (Nat.le_of_ble_eq_true rfl) (Nat.le_of_ble_eq_true rfl) ?_
    refine lv_iconst (v := 1) hx hb dL_law_741 (by decide) ?_
    exact lw_ret hx hb hr hlocks dL_law_742
  intro d
  induction d with
  | zero =>
    intro k σ τ H locs ls hd hk hM hG hl
    refine lv_iload_n hx hb dL_law_18 rfl (lv_at hl 0 rfl) ?_
    refine lv_aload_n hx hb dL_law_19 rfl (lv_at hl 3 rfl) ?_
    refine va_slen (A := iA B) (H0 := s.heap) hx hb hX hbl hbA hM.2.2 dL_law_20 ?_
    refine lv_iconst (v := 5) hx hb dL_law_21 (by decide) ?_
    refine lv_isub hx hb dL_law_22 ?_
    refine lv_icmp_gt (tgt := 741) hx hb dL_law_23 (by decide) (fun _ => exit H locs ls hM.2.2) (fun c1 => ?_)
    have c1' : ¬ nI L - 5 < nI k := c1
    rw [i_lt, e5, nI_toInt (by omega)] at c1'
    omega
  | succ d ih =>
    intro k σ τ H locs ls hd hk hM hG hl
    refine lv_iload_n hx hb dL_law_18 rfl (lv_at hl 0 rfl) ?_
    refine lv_aload_n hx hb dL_law_19 rfl (lv_at hl 3 rfl) ?_
    refine va_slen (A := iA B) (H0 := s.heap) hx hb hX hbl hbA hM.2.2 dL_law_20 ?_
    refine lv_iconst (v := 5) hx hb dL_law_21 (by decide) ?_
    refine lv_isub hx hb dL_law_22 ?_
    refine lv_icmp_gt (tgt := 741) hx hb dL_law_23 (by decide) (fun _ => exit H locs ls hM.2.2) (fun c1 => ?_)
    have hk5 : k + 5 ≤ L := by
      have c1' : ¬ nI L - 5 < nI k := c1
      rw [i_lt, e5, nI_toInt (by omega)] at c1'
      omega
    have kk : ∀ (σ' τ' : xM) (H1 : Heap) (locs1 : List Loc), GG σ' τ' → lS E B s σ' τ' H1 locs1 → W p l e room_1 s m #[.ref b] below meth c H1 locs1 167 3613 (lw_Z below #[Value.ref b] s) (F0 m 735 ls []) := by
      intro σ' τ' H1 locs1 hG1 hM1
      refine lv_iinc (v := nI k + 5) (lv' := [(3, .int (nI k + 5)), (2, .ref (B + 160)), (1, .ref B), (0, .ref b)]) hx hb dL_law_735 hl (k := 0) rfl rfl (by decide) rfl (fun ls hl => ?_)
      refine lv_goto (tgt := 18) hx hb dL_law_738 (by decide) ?_
      have e : nI k + 5 = nI (k + 5) := by show nI k + nI 5 = _; rw [nI_add]
      rw [e] at hl
      exact ih (k + 5) σ' τ' H1 locs1 ls (by omega) hk5 hM1 hG1 hl
    refine lv_aload_n hx hb dL_law_26 rfl (lv_at hl 3 rfl) ?_
    refine lv_iload_n hx hb dL_law_27 rfl (lv_at hl 0 rfl) ?_
    refine va_sld (A := iA B) (H0 := s.heap) hx hb hX hbl hbA hM.2.2 (inb_nI (show k < L by omega) (by omega)) dL_law_28 ?_
    refine lv_bipush hx hb (v := 31) dL_law_29 (by decide) ?_
    refine lv_iand hx hb dL_law_31 ?_
    obtain ⟨j, hj, ej⟩ := pk_andE (xs (nI k).toNatClampNeg) (m := 31) 5 (by decide)
    rw [ej]
    by_cases h21 : j < 21
    · have hj' : j = 0 ∨ j = 1 ∨ j = 2 ∨ j = 3 ∨ j = 4 ∨ j = 5 ∨ j = 6 ∨ j = 7 ∨ j = 8 ∨ j = 9 ∨ j = 10 ∨ j = 11 ∨ j = 12 ∨ j = 13 ∨ j = 14 ∨ j = 15 ∨ j = 16 ∨ j = 17 ∨ j = 18 ∨ j = 19 ∨ j = 20 := by omega
      rcases hj' with rfl | rfl | rfl | rfl | rfl | rfl | rfl | rfl | rfl | rfl | rfl | rfl | rfl | rfl | rfl | rfl | rfl | rfl | rfl | rfl | rfl
      · exact lv_tableIn (off := 100) (tgt := 132) hx hb dL_law_32 (by decide) (by decide) (by decide) (by decide) (law_0 S hE hX hbl hB hM hG hl hk5 hL kk)
      · exact lv_tableIn (off := 153) (tgt := 185) hx hb dL_law_32 (by decide) (by decide) (by decide) (by decide) (law_1 S hE hX hbl hB hM hG hl hk5 hL kk)
      · exact lv_tableIn (off := 196) (tgt := 228) hx hb dL_law_32 (by decide) (by decide) (by decide) (by decide) (law_2 S hE hX hbl hB hM hG hl hk5 hL kk)
      · exact lv_tableIn (off := 239) (tgt := 271) hx hb dL_law_32 (by decide) (by decide) (by decide) (by decide) (law_3 S hE hX hbl hB hM hG hl hk5 hL kk)
      · exact lv_tableIn (off := 272) (tgt := 304) hx hb dL_law_32 (by decide) (by decide) (by decide) (by decide) (law_4 S hE hX hbl hB hM hG hl hk5 hL kk)
      · exact lv_tableIn (off := 305) (tgt := 337) hx hb dL_law_32 (by decide) (by decide) (by decide) (by decide) (law_5 S hE hX hbl hB hM hG hl hk5 hL kk)
      · exact lv_tableIn (off := 328) (tgt := 360) hx hb dL_law_32 (by decide) (by decide) (by decide) (by decide) (law_6 S hE hX hbl hB hM hG hl hk5 hL kk)
      · exact lv_tableIn (off := 351) (tgt := 383) hx hb dL_law_32 (by decide) (by decide) (by decide) (by decide) (law_7 S hE hX hbl hB hM hG hl hk5 hL kk)
      · exact lv_tableIn (off := 384) (tgt := 416) hx hb dL_law_32 (by decide) (by decide) (by decide) (by decide) (law_8 S hE hX hbl hB hM hG hl hk5 hL kk)
      · exact lv_tableIn (off := 417) (tgt := 449) hx hb dL_law_32 (by decide) (by decide) (by decide) (by decide) (law_9 S hE hX hbl hB hM hG hl hk5 hL kk)
      · exact lv_tableIn (off := 450) (tgt := 482) hx hb dL_law_32 (by decide) (by decide) (by decide) (by decide) (law_10 S hE hX hbl hB hM hG hl hk5 hL kk)
      · exact lv_tableIn (off := 473) (tgt := 505) hx hb dL_law_32 (by decide) (by decide) (by decide) (by decide) (law_11 S hE hX hbl hB hM hG hl hk5 hL kk)
      · exact lv_tableIn (off := 496) (tgt := 528) hx hb dL_law_32 (by decide) (by decide) (by decide) (by decide) (law_12 S hE hX hbl hB hM hG hl hk5 hL kk)
      · exact lv_tableIn (off := 509) (tgt := 541) hx hb dL_law_32 (by decide) (by decide) (by decide) (by decide) (law_13 S hE hX hbl hB hM hG hl hk5 hL kk)
      · exact lv_tableIn (off := 522) (tgt := 554) hx hb dL_law_32 (by decide) (by decide) (by decide) (by decide) (law_14 S hE hX hbl hB hM hG hl hk5 hL kk)
      · exact lv_tableIn (off := 545) (tgt := 577) hx hb dL_law_32 (by decide) (by decide) (by decide) (by decide) (law_15 S hE hX hbl hB hM hG hl hk5 hL kk)
      · exact lv_tableIn (off := 568) (tgt := 600) hx hb dL_law_32 (by decide) (by decide) (by decide) (by decide) (law_16 S hE hX hbl hB hM hG hl hk5 hL kk)
      · exact lv_tableIn (off := 591) (tgt := 623) hx hb dL_law_32 (by decide) (by decide) (by decide) (by decide) (law_17 S hE hX hbl hB hM hG hl hk5 hL kk)
      · exact lv_tableIn (off := 614) (tgt := 646) hx hb dL_law_32 (by decide) (by decide) (by decide) (by decide) (law_18 S hE hX hbl hB hM hG hl hk5 hL kk)
      · exact lv_tableIn (off := 657) (tgt := 689) hx hb dL_law_32 (by decide) (by decide) (by decide) (by decide) (law_19 S hE hX hbl hB hM hG hl hk5 hL kk)
      · exact lv_tableIn (off := 690) (tgt := 722) hx hb dL_law_32 (by decide) (by decide) (by decide) (by decide) (law_20 S hE hX hbl hB hM hG hl hk5 hL kk)
    · exact lv_tableOut (tgt := 735) hx hb dL_law_32 (Or.inr (by rw [nI_toInt (by omega)]; omega)) (by decide) (kk σ τ H locs hG hM)
/-- YOUR PART: from the entry, for every script of at most 2560 ints, the law comes to its end with true ('hflags': the launch's flags, for a law that throws: no stack traces) -/
theorem whole_start {p : Program} {e : Env} {s : State} {m : MethodId} {below : List Frame} {meth : Method} {c : Code} (l : Launch) (hflags : l.flags = flags0) {b L : Nat} {xs : Nat → Int32} (hL : L ≤ 2560) (C0 : lw_At p s m meth c b L xs) : W p l e room_1 s m #[Value.ref b] below meth c s.heap [] 0 0 (lw_Z below #[Value.ref b] s) (entryFrame m ([Value.ref b] : List Value).toArray 4) := by
  obtain ⟨hx, hb, hr, hml, hown, hts, hX, hbl, hlocks, hgv⟩ := id C0
  obtain ⟨E, hE, h2⟩ := env_start hts hgv
  have hb' : c.code = cL_law := hb
  have S : CallFix p m c cL_law 4 s #[.ref b] (Cond.initialized RX1 :: AL) RL := ⟨hx, hb', hml, hown, fun w hw => hts w (AL_tbl ((List.mem_cons.mp hw).elim (fun h => h ▸ vi_X1) id))⟩
  generalize hB : s.heap.size = B at hE
  have CX : iCX p m c cL_law 4 s #[.ref b] (Cond.initialized RX1) RL E B 0 := ⟨S, hE, h2⟩
  have hM : iS E B 0 0 (layL E B) s z0 s.heap [] := ⟨fun i q hi => by have := (wS_inv hi).1; omega, va_S.rf, hB⟩
  have hl := lv_entry ([.ref b]) (n := 4) (Nat.le_of_ble_eq_true rfl)
  rw [lg_entry_eq]
  generalize (lg_sl ([.ref b]) ++ List.replicate (4 - (lg_sl ([.ref b])).length) Slot.unset).toArray = ls at hl ⊢
  have hl : lv_has ls 4 [(0, .ref b)] := hl
  refine i_newc (ci := 6) (fs := [.null, .null, .null, .null, .null]) CX hM in_X6 tyX6 tyX6_ok vl_L_7 vn_X6 vi_X6 rfl (by decide) rfl (Nat.le_of_ble_eq_true rfl) (Nat.le_of_ble_eq_true rfl) dL_law_0 (fun H hM => ?_)
  refine lv_dup hx hb' dL_law_3 rfl ?_
  refine i_call (i := 0) (mm := 160) CX hM rfl ⟨⟨vm_L_9, vs_X6, vi_X6, vk_X6⟩, by decide, by decide, by decide, by decide +kernel⟩ (n_X6L l E B (fun q _ => rfl)) ⟨rfl, rfl, Nat.le_of_ble_eq_true rfl, Nat.le_of_ble_eq_true rfl⟩ ⟨Nat.le_of_ble_eq_true rfl, Nat.le_of_ble_eq_true rfl⟩ hl.1 (Nat.le_of_ble_eq_true rfl) dL_law_4 (fun H locs σ1 a1 a2 a3 hM => ?_)
  refine lv_astore_n (lv' := [(1, .ref B), (0, .ref b)]) hx hb' dL_law_7 rfl hl (by decide) rfl (fun ls hl => ?_)
  have z1 : ∀ q, 160 ≤ q → σ1 q = fun _ => 0 := fun q hq => a3 q (by omega)
  refine i_newc (n := 160) (ci := 7) (fs := [.null, .null, .int 0, .null, .int 0, .null, .null, .int 0, .int 0, .int 0, .null]) CX hM in_X7 tyX7 tyX7_ok vl_L_10 vn_X7 vi_X7 rfl (by decide) (by rw [z1 _ (by omega)]; rfl) (Nat.le_of_ble_eq_true rfl) (Nat.le_of_ble_eq_true rfl) dL_law_8 (fun H hM => ?_)
  refine lv_dup hx hb' dL_law_11 rfl ?_
  refine i_call (i := 160) (mm := 7) (σc := zL) CX hM rfl ⟨⟨vm_L_12, vs_X7, vi_X7, vk_X7⟩, by decide, by decide, by decide, by decide +kernel⟩ (n_X7L l E B z1) ⟨rfl, rfl, Nat.le_of_ble_eq_true rfl, Nat.le_of_ble_eq_true rfl⟩ ⟨Nat.le_of_ble_eq_true rfl, Nat.le_of_ble_eq_true rfl⟩ hl.1 (Nat.le_of_ble_eq_true rfl) dL_law_12 (fun H locs σ2 b1 b2 b3 hM => ?_)
  refine lv_astore_n (lv' := [(2, .ref (B + 160)), (1, .ref B), (0, .ref b)]) hx hb' dL_law_15 rfl hl (by decide) rfl (fun ls hl => ?_)
  refine lv_iconst (v := 0) hx hb' dL_law_16 (by decide) ?_
  refine lv_istore_n (lv' := [(3, .int (nI 0)), (2, .ref (B + 160)), (1, .ref B), (0, .ref b)]) hx hb' dL_law_17 rfl hl (by decide) rfl (fun ls hl => ?_)
  obtain ⟨hP1, hP2⟩ := L_end (σ := σ2) hM.1 (fun q hq => by rw [b1 q (by omega), a2 q (by omega) (by omega)]) (fun q h1 h2 => b2 q (by omega) (by omega))
  exact law_loop l S hr hlocks hE hX hbl hB.symm hL L 0 zF zY H locs ls (by omega) (by omega) ⟨hP1, hP2, hM.2.1⟩ GG_start hl
set_option maxHeartbeats 4000000 in
theorem lw_walk (l : Launch) (hflags : l.flags = flags0) (b : Addr) (xs : List Int32) : MetFree l x (headSpec (Jvm.Cond.code x code maxLocals ret :: tables_1) room_1) (lw_P b xs) (fun _ _ _ _ _ => True) lw_Q := by
  refine MetFree.of_bodyS (code := code) (maxLocals := maxLocals) (ret := ret) (by decide) ?_ ?_
  · intro args s m h hn
    obtain ⟨meth, c, h1, h2, h3, h4, h5, h6, -, -⟩ := Cond.code_spec hn (atoms_spec (ws := Jvm.Cond.code x code maxLocals ret :: tables_1) h _ List.mem_cons_self)
    exact ⟨meth, c, h1, h2, h3, h4, h5, h6⟩
  · intro p e s m args below meth c s₁ B hml0 hP _
    obtain ⟨rfl, hx, hbd, hgv⟩ := hP
    obtain ⟨scr, harrAt, hlist, hof, hsmall⟩ := hx
    obtain ⟨hcb, hkn, -, -⟩ := State.arrayAt?_spec harrAt
    have hown : s.vm.findClass R_law = some m.cls := findClass_of_methodNamed B.named
    have hts0 : ∀ c ∈ (Jvm.Cond.code x code maxLocals ret :: tables_1), c.before #[Value.ref b] s = true := atoms_spec (ws := Jvm.Cond.code x code maxLocals ret :: tables_1) B.pre
    have hts : ∀ w ∈ lw_tbl, w.before #[Value.ref b] s = true := k2_hts_sels lw_privs (fun w hw => hts0 w (List.mem_cons_of_mem _ hw)) lw_privs_ok
    have hml : c.maxLocals = 4 := B.maxLocals_eq (hts0 _ List.mem_cons_self)
    have X₀ : Stand p l e room_1 s m #[Value.ref b] below meth c s₁ [] 0 0 := Stand.of_body B
    have hh0 : s₁.heap = s.heap := by rw [B.state]; rfl
    have hsz : scr.slots.size = xs.length := by rw [← Array.length_toList, hlist, List.length_map]
    have hval : ∀ j : Nat, j < xs.length → scr.slots[j]? = some (.int (xs.getD j 0)) := fun j hj => by
      rw [← Array.getElem?_toList, hlist]
      simp [hj]
    have hbl : b < s.heap.size := (Array.getElem?_eq_some_iff.mp hcb).1
    have hX : va_X b xs.length (fun j => xs.getD j 0) s s.heap := ⟨scr, hcb, hof, hkn, hsz, hval⟩
    have K : W p l e room_1 s m #[Value.ref b] below meth c s₁.heap [] 0 0 (lw_Z below #[Value.ref b] s) (entryFrame m ([Value.ref b] : List Value).toArray 4) := by
      rw [hh0]
      exact whole_start l hflags hbd ⟨B.exec, B.bytes, B.returns, hml, hown, hts, hX, hbl, B.notSynchronized, hgv⟩
    obtain ⟨t, a1, o, b1, b2, b3⟩ := K s₁ rfl X₀
    exact ⟨t, o, a1, b1, b2, b3⟩
theorem lw_pre_spec {args : Array Value} {s : State} (h : (Jvm.Cond.and given_1 narrow_1).before args s = true) (hr : rest_1_c.before args s = true) : ∃ (b : Addr) (xs : List Int32), lw_P b xs args s := by
  have hs := flat_of_before _ h
  have hq := flat_of_before _ hr
  have hc : (Cond.count 1).before args s = true := hs _ (by decide +kernel)
  have harr : (Cond.arrayOf (.arg 0) .int).before args s = true := hs _ (by decide +kernel)
  have hle : (Cond.le (.length (.arg 0)) (.int 2560)).before args s = true := hs _ (by decide +kernel)
  have hlen : (Cond.isInt (.length (.arg 0))).before args s = true := hq _ (by decide +kernel)
  have hall : (Cond.all (.arg 0) (.isInt (.elem (.arg 0) (.index 0)))).before args s = true := hq _ (by decide +kernel)
  obtain ⟨b, xs, hb, hx⟩ := State.ints_of_pre rfl harr hlen hall
  have hsm : xs.length < 2 ^ 31 := hx.choose_spec.2.2.2
  have hev : (Term.length (.arg 0)).eval args s none [] s = some (.int xs.length.toInt32) := hx.length_eval hb
  have hv := Cond.le_ints hev (show (Term.int 2560).eval args s none [] s = some (.int 2560) from rfl)
  have hd : xs.length.toInt32 ≤ 2560 := by
    simpa [Cond.before, Cond.holds, hv] using hle
  have hN : xs.length ≤ 2560 := (Int32.ofNat_le_ofNat hsm (by decide)).mp (show Int32.ofNat xs.length ≤ Int32.ofNat 2560 from hd)
  exact ⟨b, xs, Cond.one_arg hc (show args[0]? = some (.ref b) from hb), hx, hN, h⟩
theorem lw_comes (l : Launch) (hflags : l.flags = flags0) : Comes l x (Jvm.Cond.code x code maxLocals ret :: tables_1) room_1 (fun tb e args s => Calls_1 tb e args s ∧ rest_1 tb e args s ∧ Pre_1 tb e args s)
    (fun _ _ args s o t => lw_Q args s o t) := by
  intro p e ha hc hk s m args below hf hfit hheap happ hpre
  obtain ⟨b, xs, hP⟩ := lw_pre_spec hpre.2.2 hpre.2.1
  obtain ⟨k, o, h1, h2, h3, hQ⟩ := lw_walk l hflags b xs p e ha hc hk s m args below hf ((Spec.applies_iff_loose hf).mp happ).1 hP trivial
  exact ⟨k, o, h1, h2, h3, hQ⟩
theorem lw_frame {s t : State} {o : Outcome} {args : Array Value} (h : Framed s o t [] 600000 7302250) :
    Framed s o t (fieldLocs frame_1_writes args s ++ arrayLocs frame_1_arrays args s ++ staticLocs frame_1_statics s) 600000 7302250 := h
theorem lw_limb (L : Cond) (hL : ∀ (args : Array Value) (s t : State), L.after args s (.returned (some (.int 1))) t = true) :
    ArmFor flags0 classFile x code maxLocals ret World_1 tables_1 room_1 Calls_1 rest_1 Pre_1
      (fun tb e a s o t => postC L tb e a s o t ∧ Framed s o t (fieldLocs frame_1_writes a s ++ arrayLocs frame_1_arrays a s ++ staticLocs frame_1_statics s) 600000 7302250) := by
  intro l hflags _ _ p e ha hc hk s m args below hf hfit hheap happ hpre
  obtain ⟨k, o, h1, h2, h3, rfl, hF⟩ := lw_comes l hflags p e ha hc hk s m args below hf hfit hheap happ hpre
  exact ⟨k, _, h1, h2, h3, hL args s _, lw_frame hF⟩
theorem i_vc : Claimed_1_1 ∧ Claimed_1_2 := ⟨lw_limb limb_1_1 (fun args s t => by simp [limb_1_1, Cond.after, Cond.holds, Cond.value]), lw_limb limb_1_2 (fun args s t => Cond.after_iff.mpr (by
  first | (rw [show limb_1_2 = Cond.eq .result (.int 1) from rfl, Cond.eq_ints (x := 1) (y := 1) rfl rfl]; simp; done) | (simp [limb_1_2, Cond.value, Term.eval]; done)))⟩
