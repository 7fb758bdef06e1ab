/-! constructors: worlds that grow. A world at a place k: n cells from B + k on; a reference not yet set is 0 in σ -/
def rv (x : Int32) (a : Nat) : Value := if x = 0 then .null else .ref a
def rq (x : Int32) (a : Nat) : Option Nat := if x = 0 then none else some a
theorem rv_0 {a : Nat} : rv 0 a = .null := if_pos rfl
theorem rv_1 {a : Nat} : rv 1 a = .ref a := if_neg (by decide)
theorem rq_0 {a : Nat} : rq 0 a = none := if_pos rfl
theorem rq_1 {a : Nat} : rq 1 a = some a := if_neg (by decide)
def iA (a : Nat) : Nat → Prop := fun q => a ≤ q
def wS (B k n : Nat) (L : Nat → (Nat → Int32) → va_E) (σ : xM) : va_W := (List.range n).map (fun i => (B + (k + i), L (k + i) (σ (k + i))))
theorem wS_get {B k n i : Nat} {L : Nat → (Nat → Int32) → va_E} {σ : xM} (hi : i < n) : (wS B k n L σ)[i]? = some (B + (k + i), L (k + i) (σ (k + i))) := by simp [wS, hi]
theorem wS_inv {B k n i : Nat} {L : Nat → (Nat → Int32) → va_E} {σ : xM} {q : Nat × va_E} (h : (wS B k n L σ)[i]? = some q) : i < n ∧ q = (B + (k + i), L (k + i) (σ (k + i))) := by
  have hi : i < n := by
    have := (List.getElem?_eq_some_iff.mp h).1
    simpa [wS] using this
  rw [wS_get hi] at h
  exact ⟨hi, (Option.some.inj h).symm⟩
theorem wS_D {B k n : Nat} {L : Nat → (Nat → Int32) → va_E} {σ : xM} : va_D (iA (B + k)) (wS B k n L σ) := by
  refine ⟨fun i j p q hi hj hpq => ?_, fun i q hi => ?_⟩
  · obtain ⟨-, rfl⟩ := wS_inv hi
    obtain ⟨-, rfl⟩ := wS_inv hj
    simp only at hpq
    omega
  · obtain ⟨h, rfl⟩ := wS_inv hi
    show B + k ≤ B + (k + i)
    omega
theorem wS_set {B k n i : Nat} {L : Nat → (Nat → Int32) → va_E} {σ σ' : xM} {e : va_E} (hi : i < n) (h1 : L (k + i) (σ' (k + i)) = e) (h2 : ∀ j, j ≠ k + i → σ' j = σ j) : (wS B k n L σ).set i (B + (k + i), e) = wS B k n L σ' := by
  apply List.ext_getElem?
  intro j
  by_cases hj : j = i
  · subst hj
    rw [List.getElem?_set_self (by simpa [wS] using hi), wS_get hi, h1]
  · rw [List.getElem?_set_ne (fun z => hj z.symm)]
    by_cases hjn : j < n
    · rw [wS_get hjn, wS_get hjn, h2 (k + j) (by omega)]
    · rw [List.getElem?_eq_none (by simp [wS]; omega), List.getElem?_eq_none (by simp [wS]; omega)]
/-- the words that are not steady -/
def E2 (U : State) : Prop := (va_Nw (.methodLinkNest RX1 26 yX4_init "ThermostatColony") U ∧ va_Nw (.methodLinkNest RX1 34 yX3_init "ThermostatColony") U ∧ va_Nw (.methodLinkNest RX3 11 yX0_init "ThermostatColony") U ∧ va_Nw (.methodLinkNest RX6 28 yX5_init "ThermostatColony") U ∧ va_Nw (.methodLinkNest RX6 35 yX4_init "ThermostatColony") U) ∧
  va_Nw (.fieldLinkNest RX1 31 "ThermostatColony" "FIRST_NUMBERS" "[I" "ThermostatColony") U ∧ va_AO RX3 U ∧ va_AO RX1 U
theorem E2.warm {s U : State} (h : E2 s) (hW : s.WarmedH U.vm) : E2 U :=
  ⟨⟨va_Nw.warmM hW h.1.1, va_Nw.warmM hW h.1.2.1, va_Nw.warmM hW h.1.2.2.1, va_Nw.warmM hW h.1.2.2.2.1, va_Nw.warmM hW h.1.2.2.2.2⟩, va_Nw.warmF hW h.2.1, va_AO.moved hW.alike h.2.2.1, va_AO.moved hW.alike h.2.2.2⟩
theorem E2.call {U : State} {g : JFrame} {mk : MethodId} {a : Array Value} (h : E2 U) : E2 (U.calling g mk a) :=
  ⟨⟨va_Nw.same (u := U) rfl rfl h.1.1, va_Nw.same (u := U) rfl rfl h.1.2.1, va_Nw.same (u := U) rfl rfl h.1.2.2.1, va_Nw.same (u := U) rfl rfl h.1.2.2.2.1, va_Nw.same (u := U) rfl rfl h.1.2.2.2.2⟩, va_Nw.same (u := U) rfl rfl h.2.1, va_AO.moved (u := U) (U := U.calling g mk a) (Vm.Alike.refl U.vm) h.2.2.1, va_AO.moved (u := U) (U := U.calling g mk a) (Vm.Alike.refl U.vm) h.2.2.2⟩
def iS (E : xE) (B k n : Nat) (L : Nat → (Nat → Int32) → va_E) (s : State) (σ : xM) (H : Heap) (locs : List Loc) : Prop := va_P E.1 vwCl (wS B k n L σ) H ∧ va_S (iA (B + k)) s.heap H locs ∧ H.size = B + (k + n)
def iP (E : xE) (B k : Nat) (L : Nat → (Nat → Int32) → va_E) (σ : xM) : Array Value → State → Prop := va_Pc [.ref (B + k)] (fun U => (Ev E (iA (B + k)) U U.heap ∧ E2 U) ∧ va_P E.1 vwCl (wS B k 1 L σ) U.heap ∧ U.heap.size = B + (k + 1))
def iQ (E : xE) (B k n : Nat) (L : Nat → (Nat → Int32) → va_E) (σ : xM) : Array Value → State → Outcome → State → Prop := fun _ st oc t => (oc = .returned none ∧ va_P E.1 vwCl (wS B k n L σ) t.heap ∧ t.heap.size = B + (k + n)) ∧ va_F (iA (B + k)) st t
abbrev iCX (p : Program) (m : MethodId) (c : Code) (cc : ByteArray) (nL : Nat) (s : State) (args : Array Value) (x : Cond) (own : String) (E : xE) (B k : Nat) : Prop :=
  CallFix p m c cc nL s args (x :: AL) own ∧ Ev E (iA (B + k)) s s.heap ∧ E2 s
theorem wi_obj : Cond.instanceMethod Lib.objectInit ∈ AL := AL_mem (AL_1 (List.mem_of_getElem? (i := 16) rfl)) rfl
theorem wk_obj : Cond.code Lib.objectInit ⟨#[0xb1]⟩ 1 none ∈ AL := AL_mem (AL_1 (List.mem_of_getElem? (i := 17) rfl)) rfl
section IROWS
variable {p : Program} {l : Launch} {e : Env} {R : Room} {s : State} {m : MethodId} {args : Array Value} {below : List Frame} {meth : Method} {c : Code} {H : Heap} {locs : List Loc} {cells slots : Nat} {Q : State → Prop}
variable {cc : ByteArray} {pc nL : Nat} {ls : Array Slot} {rest : List Value} {E : xE} {B k n : Nat} {L : Nat → (Nat → Int32) → va_E} {σ : xM} {x0 : Cond} {own : String}
theorem i_hts (CX : iCX p m c cc nL s args x0 own E B k) {w : Cond} (h : w ∈ AL) : w.before args s = true := CX.1.2.2.2.2 w (List.mem_cons_of_mem _ h)
/-- Object's own -/
theorem i_obj (CX : iCX p m c cc nL s args x0 own E B k) {idx a : Nat} (hL : Cond.methodLink own idx Lib.objectInit ∈ AL) (hls : ls.size = nL) (hfr : 1 ≤ R.frames) (hlo : (rest.map fun v => v.category).sum + 12 ≤ R.locals) (hdg : decode cc pc = .ok (.invokespecial idx, 3))
    (kk : W p l e R s m args below meth c H locs cells slots Q (F0 m (pc + 3) ls rest)) : W p l e R s m args below meth c H locs cells slots Q (F0 m pc ls (.ref a :: rest)) := by
  refine W.objInit CX.1.1 CX.1.2.1 CX.1.2.2.2.1 (i_hts CX hL) (i_hts CX wi_obj) (i_hts CX wk_obj) rfl (hls.trans CX.1.2.2.1.symm) rfl hdg hfr (by show 2 * 0 + _ + 12 ≤ _; omega) ?_
  exact W.eq rfl kk
/-- the world grows by a cell -/
theorem iS_push (hM : iS E B k n L s σ H locs) {H1 : Heap} (z1 : H1.size = B + (k + n) + 1) (o1 : ∀ q, q < B + (k + n) → H1[q]? = H[q]?) (h1 : va_at E.1 vwCl (B + (k + n), L (k + n) (σ (k + n))) H1) : iS E B k (n + 1) L s σ H1 locs := by
  obtain ⟨hP, hS, hz⟩ := hM
  refine ⟨fun i q hi => ?_, ⟨Nat.le_trans hS.1 (by omega), fun q h1 h2 => (o1 q (by have := hS.1; omega)).trans (hS.2.1 q h1 h2), hS.2.2⟩, by omega⟩
  obtain ⟨hin, rfl⟩ := wS_inv hi
  by_cases e : i = n
  · subst e; exact h1
  · have := hP i _ (wS_get (show i < n by omega))
    exact this.kept (o1 _ (by show B + (k + i) < _; omega))
theorem i_newa (CX : iCX p m c cc nL s args x0 own E B k) (hM : iS E B k n L s σ H locs) {atype : ArrayType} (harr : Cond.arrayClass (newarray.typeOf atype) ∈ AL) {t0 N' : Nat} {cA : ClassId} {nn : Int32} (ht : (xty E)[t0]? = some (cA, newarray.typeOf atype)) (hty : newarray.typeOf atype = .int ∨ newarray.typeOf atype = .byte) (hlay : L (k + n) (σ (k + n)) = .inl (cA, N', .inl (fun _ => 0)))
    (hn : ¬ nn < 0) (hN : nn.toNatClampNeg = N') (hbytes : N' * componentBytes (newarray.typeOf atype) ≤ 536870912) (hcells : cells + 1 ≤ R.cells) (hslots : slots + N' ≤ R.slots) (hdg : decode cc pc = .ok (.newarray atype, 2))
    (kk : ∀ H1 : Heap, iS E B k (n + 1) L s σ H1 locs → W p l e R s m args below meth c H1 locs (cells + 1) (slots + N') Q (F0 m (pc + 2) ls (.ref (B + (k + n)) :: rest))) : W p l e R s m args below meth c H locs cells slots Q (F0 m pc ls (.int nn :: rest)) := by
  refine va_newaK CX.1.1 CX.1.2.1 (i_hts CX harr) rfl hdg rfl hn hN hbytes hcells hslots hM.2.2 fun H1 cA' e1 z1 o1 hAr hNm => ?_
  have hRA := (CX.2.1.1.2 t0 _ ht).2
  have hc : cA' = cA := by
    have h2 : s.vm.findClass ("[" ++ (newarray.typeOf atype).toString) = some cA := by
      rcases hty with h | h <;> rw [h] at hRA ⊢ <;> exact hRA
    exact Option.some.inj (hNm.symm.trans h2)
  subst hc
  refine W.eq (g2 := F0 m (pc + 2) ls (.ref (B + (k + n)) :: rest)) rfl (kk H1 (iS_push hM z1 o1 ?_))
  rw [hlay]
  show H1[B + (k + n)]? = some (vp_cell cA' _)
  rw [e1]
  have hd : defaultValue (newarray.typeOf atype) = .int 0 := by rcases hty with h | h <;> rw [h] <;> rfl
  rw [hd]
  rfl
theorem i_newc (CX : iCX p m c cc nL s args x0 own E B k) (hM : iS E B k n L s σ H locs) {C : String} {T : u_T} {N ci index : Nat} (hin : ∀ w ∈ u_ws C T N, w ∈ AL) (ty : Nat → FieldType) (hty : ∀ k, k < N → parseFieldDescriptor (T k).2.2.1 = some (ty k)) (hcl : Cond.classLink own index C ∈ AL) (hinst : Cond.instantiable C N ∈ AL) (hini : Cond.initialized C ∈ AL)
    (hc : vwCl[ci]? = some (C, T, N)) {fs : List Value} (hfs : ∀ j, j < N → defaultValue (ty j) = vp_V fs j) (hlay : L (k + n) (σ (k + n)) = .inr (ci, fs)) (hcells : cells + 1 ≤ R.cells) (hslots : slots + N ≤ R.slots) (hdg : decode cc pc = .ok (.new index, 3))
    (kk : ∀ H1 : Heap, iS E B k (n + 1) L s σ H1 locs → W p l e R s m args below meth c H1 locs (cells + 1) (slots + N) Q (F0 m (pc + 3) ls (.ref (B + (k + n)) :: rest))) : W p l e R s m args below meth c H locs cells slots Q (F0 m pc ls rest) := by
  have hKn := CX.2.1.1.1 ci _ hc
  refine W.newcK CX.1.1 CX.1.2.1 CX.1.2.2.2.1 (i_hts CX hcl) (i_hts CX hinst) (i_hts CX hini) rfl hdg hcells hslots hKn.2.1 hM.2.2 fun H1 kC hkC e1 z1 o1 => ?_
  refine W.eq (g2 := F0 m (pc + 3) ls (.ref (B + (k + n)) :: rest)) rfl (kk H1 (iS_push hM z1 o1 ?_))
  rw [hlay]
  exact ⟨_, hc, (u_born ty CX.1.2.2.2.2 (AL_in hin) hKn hkC e1 hty).to hfs⟩
theorem i_anew (CX : iCX p m c cc nL s args x0 own E B k) (hM : iS E B k n L s σ H locs) {C : String} {index t0 N' : Nat} {cA : ClassId} {nn : Int32} (hcl : Cond.classLink own index C ∈ AL) (hover : va_AO C s) (ht : (xty E)[t0]? = some (cA, .object C)) (hlay : L (k + n) (σ (k + n)) = .inl (cA, N', .inr (.inr (.inr (.inr (fun _ => none))))))
    (hn : ¬ nn < 0) (hN : nn.toNatClampNeg = N') (hbytes : N' * 4 ≤ 536870912) (hcells : cells + 1 ≤ R.cells) (hslots : slots + N' ≤ R.slots) (hdg : decode cc pc = .ok (.anewarray index, 3))
    (kk : ∀ H1 : Heap, iS E B k (n + 1) L s σ H1 locs → W p l e R s m args below meth c H1 locs (cells + 1) (slots + N') Q (F0 m (pc + 3) ls (.ref (B + (k + n)) :: rest))) : W p l e R s m args below meth c H locs cells slots Q (F0 m pc ls (.int nn :: rest)) := by
  subst hN
  refine W.anew CX.1.1 CX.1.2.1 CX.1.2.2.2.1 (i_hts CX hcl) (va_AO.use hover) rfl hdg rfl hn hbytes hcells hslots fun cA' kA comp f1 f2 f3 f4 => ?_
  obtain ⟨kA', comp', g1, g2, g3, g4⟩ := (CX.2.1.1.2 t0 _ ht).2
  have hc : cA' = cA := Option.some.inj (f1.symm.trans g4)
  subst hc
  generalize hH1 : H.push ({ cls := cA', slots := Array.replicate nn.toNatClampNeg .null, vm := .none } : Cell) = H1
  have z1 : H1.size = H.size + 1 := by rw [← hH1, Array.size_push]
  have e1 : H1[H.size]? = some (arrV cA' nn.toNatClampNeg (fun _ => .null)) := by rw [← hH1, Array.getElem?_push_size, ← arrV_new]
  have o1 : ∀ q : Nat, q < H.size → H1[q]? = H[q]? := fun q hq => by rw [← hH1, Array.getElem?_push, if_neg (Nat.ne_of_lt hq)]
  have hz := hM.2.2
  rw [hz] at z1 e1 o1
  refine W.eq (g2 := F0 m (pc + 3) ls (.ref (B + (k + n)) :: rest)) (by rw [hz]) (kk H1 (iS_push hM z1 o1 ?_))
  rw [hlay]
  show H1[B + (k + n)]? = some (vp_cell cA' _)
  rw [vp_cell_q]
  exact e1
end IROWS
