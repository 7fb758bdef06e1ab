section IROW2
variable {p : Program} {l : Launch} {e : Env} {R : Room} {s : State} {m : MethodId} {args : Array Value} {below : List Frame} {meth : Method} {c : Code} {H : Heap} {locs : List Loc} {cells slots : Nat} {Q : State → Prop}
variable {cc : ByteArray} {pc nL : Nat} {ls : Array Slot} {rest : List Value} {E : xE} {B k n : Nat} {L : Nat → (Nat → Int32) → va_E} {σ : xM} {x0 : Cond} {own : String}
/-- a final field, in its constructor -/
theorem i_put (CX : iCX p m c cc nL s args x0 own E B k) (hin2 : meth.name = "<init>") (hM : iS E B k n L s σ H locs) {i ci N index : Nat} {C : String} {T : u_T} {fs : List Value} {v : Value} {ty : FieldType} (hi : i < n) (hlay : L (k + i) (σ (k + i)) = .inr (ci, fs)) (hin : ∀ w ∈ u_ws C T N, w ∈ AL) (ty0 : Nat → FieldType) (hty : ∀ k, k < N → parseFieldDescriptor (T k).2.2.1 = some (ty0 k)) (hnm : ∀ a, a < N → ∀ b, b < N → a ≠ b → (T a).2.1 ≠ (T b).2.1) (hc : vwCl[ci]? = some (C, T, N)) (j : Nat) (hj : j < N) (hlink : Cond.fieldLink own index (T j).1 (T j).2.1 (T j).2.2.1 ∈ AL) (hfin : (T j).2.2.2 = true) (hdecl : (T j).1 = own) (hd0 : ty0 j = ty) (hn : narrow ty v = v) (hfit : fits ty v = true) (hl : j < fs.length)
    (hset : L (k + i) (upd (σ (k + i)) j 1) = .inr (ci, fs.set j v)) (hdg : decode cc pc = .ok (.putfield index, 3))
    (kk : ∀ (H1 : Heap) (locs1 : List Loc) (σ1 : xM), σ1 = xup σ (k + i) j 1 → iS E B k n L s σ1 H1 locs1 → W p l e R s m args below meth c H1 locs1 cells slots Q (F0 m (pc + 3) ls rest)) : W p l e R s m args below meth c H locs cells slots Q (F0 m pc ls (v :: .ref (B + (k + i)) :: rest)) := by
  have hts := CX.1.2.2.2.2
  have hown := CX.1.2.2.2.1
  have hK := CX.2.1.1
  obtain ⟨hP, hS0, hz⟩ := hM
  have hD : va_D (iA (B + k)) (wS B k n L σ) := wS_D
  have he : (wS B k n L σ)[i]? = some (B + (k + i), .inr (ci, fs)) := by rw [wS_get hi, hlay]
  have hap := va_apart (own := own) hts (AL_in hin) ty0 hty hnm hK hc
  obtain ⟨r, h1, cell, q1, q2, q3, q4⟩ := hP i _ he
  have hr : r = (C, T, N) := Option.some.inj (h1.symm.trans hc)
  subst hr
  obtain ⟨hS, hfc, kC, hkC, hkind⟩ := hK.1 ci _ hc
  obtain ⟨cf, kf, fi, f, hi', hsl⟩ := hS j hj
  have hlay' := hts _ ((AL_in hin) _ (u_in_lay hj))
  unfold u_lay at hlay'
  rw [if_pos hfin] at hlay'
  have hst := (u_facts hfc hkC (u_lays hts (AL_in hin) hj) hi').1
  have hcf : m.cls = cf := by
    obtain ⟨_, _, c', _, _, _, -, -, hf', -, -, -, hown2, -⟩ := Cond.laysFinal_spec hlay'
    have e1 : c' = cf := by have := hi'.symm.trans hf'; simp at this; exact this.1.symm
    rw [hdecl] at hown2
    rw [← e1]; exact Option.some.inj (hown.symm.trans hown2)
  have h6 := u_fits hfc hkC hkind (Or.inr hlay') hi' ((hty j hj).trans (congrArg some hd0)) hn hfit
  refine W.putFinK CX.1.1 CX.1.2.1 hown (i_hts CX hlink) hi' hst hcf hin2 (by rw [q2]; exact h6) q1 q3 (by rw [hsl]; exact k2_hasslot (q4 j hj)) rfl rfl hdg fun H' e1 e2 e3 => ?_
  rw [hsl] at e1 ⊢
  refine kk H' _ _ rfl ⟨?_, hS0.put e2 e3 (hD.2 i _ he), by rw [e2]; exact hz⟩
  have := hP.set hD he (e := .inr (ci, fs.set j v)) ⟨_, hc, t_OB.to (V := updV (vp_V fs) j v) ⟨_, e1, q2, q3, t_set q4 hap hj v⟩ (fun j _ => vp_updV_set hl v j)⟩ e3
  rw [wS_set (σ' := xup σ (k + i) j 1) hi (by rw [xup_same, hset]) (fun q hq => xup_ne hq)] at this
  exact this
theorem i_get (CX : iCX p m c cc nL s args x0 own E B k) (hM : iS E B k n L s σ H locs) {i ci N index : Nat} {C : String} {T : u_T} {fs : List Value} {v : Value} (hi : i < n) (hlay : L (k + i) (σ (k + i)) = .inr (ci, fs)) (hin : ∀ w ∈ u_ws C T N, w ∈ AL) (hc : vwCl[ci]? = some (C, T, N)) (j : Nat) (hj : j < N) (hlink : Cond.fieldLink own index (T j).1 (T j).2.1 (T j).2.2.1 ∈ AL) (hv : fs[j]? = some v) (hdg : decode cc pc = .ok (.getfield index, 3))
    (kk : W p l e R s m args below meth c H locs cells slots Q (F0 m (pc + 3) ls (v :: rest))) : W p l e R s m args below meth c H locs cells slots Q (F0 m pc ls (.ref (B + (k + i)) :: rest)) :=
  va_get (D := E.1) (cl := vwCl) (tys := xty E) (ws := wS B k n L σ) CX.1.1 CX.1.2.1 CX.1.2.2.2.2 (AL_in hin) CX.1.2.2.2.1 CX.2.1.1 hM.1 i (by rw [wS_get hi, hlay]) hc j hj (i_hts CX hlink) (fun _ h => h) hv hdg kk
theorem i_alen (CX : iCX p m c cc nL s args x0 own E B k) (hM : iS E B k n L s σ H locs) {i : Nat} (t0 : Nat) {cA : ClassId} {a : vp_A} {ty : FieldType} (hi : i < n) (hlay : L (k + i) (σ (k + i)) = .inl (cA, a)) (ht : (xty E)[t0]? = some (cA, ty)) {v : Int32} (hv : Int32.ofNat a.1 = v) (hdg : decode cc pc = .ok (.arraylength, 1))
    (kk : W p l e R s m args below meth c H locs cells slots Q (F0 m (pc + 1) ls (.int v :: rest))) : W p l e R s m args below meth c H locs cells slots Q (F0 m pc ls (.ref (B + (k + i)) :: rest)) :=
  va_alen (D := E.1) (cl := vwCl) (tys := xty E) (ws := wS B k n L σ) CX.1.1 CX.1.2.1 CX.2.1.1 hM.1 i t0 (by rw [wS_get hi, hlay]) ht hv hdg kk
theorem i_iast (CX : iCX p m c cc nL s args x0 own E B k) (hM : iS E B k n L s σ H locs) {i N : Nat} (hi : i < n) (hlay : ∀ f, L (k + i) f = .inl (E.2.1 0, N, .inl f)) {j x : Int32} (hin : inb j N) (hdg : decode cc pc = .ok (.iastore, 1))
    (kk : ∀ (H1 : Heap) (locs1 : List Loc) (σ1 : xM), σ1 = xup σ (k + i) j.toNatClampNeg x → iS E B k n L s σ1 H1 locs1 → W p l e R s m args below meth c H1 locs1 cells slots Q (F0 m (pc + 1) ls rest)) : W p l e R s m args below meth c H locs cells slots Q (F0 m pc ls (.int x :: .int j :: .ref (B + (k + i)) :: rest)) := by
  obtain ⟨hP, hS, hz⟩ := hM
  have hD : va_D (iA (B + k)) (wS B k n L σ) := wS_D
  have he : (wS B k n L σ)[i]? = some (B + (k + i), .inl (E.2.1 0, N, .inl (σ (k + i)))) := by rw [wS_get hi, hlay]
  refine W.iast CX.1.1 CX.1.2.1 (hP i _ he) ((CX.2.1.1.2 0 _ rfl).1 N (fun q => .int (σ (k + i) q))) (fun q => by cases q) (by show ¬ (j < 0 ∨ (arrV _ _ _).slots.size ≤ _); rw [arrV_size]; exact hin) rfl rfl hdg fun H1 e z oq => ?_
  refine kk H1 _ _ rfl ⟨?_, hS.put z oq (hD.2 i _ he), by rw [z]; exact hz⟩
  have := hP.set hD he (e := .inl (E.2.1 0, N, .inl (upd (σ (k + i)) j.toNatClampNeg x))) (by
    show H1[B + (k + i)]? = some (vp_cell _ _)
    rw [e, vp_cell_i, vp_cell_i, arrV_store]
    congr 2
    funext q
    by_cases hq : q = j.toNatClampNeg
    · subst hq; simp [updV, upd]
    · simp [updV, upd, hq]) oq
  rw [wS_set (σ' := xup σ (k + i) j.toNatClampNeg x) hi (by rw [xup_same, hlay]) (fun q hq => xup_ne hq)] at this
  exact this
theorem i_aast (CX : iCX p m c cc nL s args x0 own E B k) (hM : iS E B k n L s σ H locs) {i t0 qk ci N : Nat} {cA : ClassId} {r : vw_C} {vs : List Value} {f : Nat → Option Nat} (hi : i < n) (hlay : L (k + i) (σ (k + i)) = .inl (cA, N, .inr (.inr (.inr (.inr f))))) (ht : (xty E)[t0]? = some (cA, .object r.1)) (hqk : qk < n) (hv : L (k + qk) (σ (k + qk)) = .inr (ci, vs)) (hc : vwCl[ci]? = some r) {j : Int32} (hin : inb j N) (hset : L (k + i) (upd (σ (k + i)) j.toNatClampNeg 1) = .inl (cA, N, .inr (.inr (.inr (.inr (va_up f j.toNatClampNeg (some (B + (k + qk))))))))) (hdg : decode cc pc = .ok (.aastore, 1))
    (kk : ∀ (H1 : Heap) (locs1 : List Loc) (σ1 : xM), σ1 = xup σ (k + i) j.toNatClampNeg 1 → iS E B k n L s σ1 H1 locs1 → W p l e R s m args below meth c H1 locs1 cells slots Q (F0 m (pc + 1) ls rest)) : W p l e R s m args below meth c H locs cells slots Q (F0 m pc ls (.ref (B + (k + qk)) :: .int j :: .ref (B + (k + i)) :: rest)) := by
  obtain ⟨hP, hS, hz⟩ := hM
  have hK := CX.2.1.1
  have hD : va_D (iA (B + k)) (wS B k n L σ) := wS_D
  have he : (wS B k n L σ)[i]? = some (B + (k + i), .inl (cA, N, .inr (.inr (.inr (.inr f))))) := by rw [wS_get hi, hlay]
  have hlt : j.toNatClampNeg < N := Nat.not_le.mp fun q => hin (Or.inr q)
  have h0 : ¬ j < 0 := fun q => hin (Or.inl q)
  obtain ⟨r', hr', cellV, g1, g2, g3, -⟩ := hP qk (B + (k + qk), .inr (ci, vs)) (by rw [wS_get hqk, hv])
  have hcls := (hK.1 ci r hc).2
  obtain ⟨kA, comp, k1, k2, k3, -⟩ := (hK.2 t0 _ ht).2
  have hcomp : comp = E.1.1 ci := Option.some.inj (k3.symm.trans hcls.1)
  subst hcomp
  obtain ⟨kC, hkC, -⟩ := hcls.2
  refine W.aast CX.1.1 CX.1.2.1 (hP i _ he) (fun q h => by cases h) (fun h => by cases h) k1 k2 rfl hkC ⟨h0, by show _ < (arrV _ _ _).slots.size; rw [arrV_size]; exact hlt⟩ g1 (fun q h => by rw [g3] at h; cases h) (by rw [g2]; exact hkC) (by rw [g2]; exact va_assign hcls) rfl rfl hdg fun H1 e z oq => ?_
  refine kk H1 _ _ rfl ⟨?_, hS.put z oq (hD.2 i _ he), by rw [z]; exact hz⟩
  have := hP.set hD he (e := .inl (cA, N, .inr (.inr (.inr (.inr (va_up f j.toNatClampNeg (some (B + (k + qk))))))))) (by
    show H1[B + (k + i)]? = some (vp_cell _ _)
    rw [e, vp_cell_q, vp_cell_q, arrV_store]
    congr 2
    funext q
    by_cases hq : q = j.toNatClampNeg
    · subst hq; simp [updV, va_up, va_rf]
    · simp [updV, va_up, hq]) oq
  rw [wS_set (σ' := xup σ (k + i) j.toNatClampNeg 1) hi (by rw [xup_same, hset]) (fun q hq => xup_ne hq)] at this
  exact this
/-- the static array of first numbers -/
theorem i_gets (CX : iCX p m c cc nL s args x0 own E B k) (hM : iS E B k n L s σ H locs) {index t : Nat} {nm : String} (hZ : va_Z "ThermostatColony" nm "[I" (.ref t) (iA (B + k)) s s.heap) (hlink : (Cond.fieldLinkNest own index "ThermostatColony" nm "[I" "ThermostatColony").before args s = true) (hdg : decode cc pc = .ok (.getstatic index, 3))
    (kk : W p l e R s m args below meth c H locs cells slots Q (F0 m (pc + 3) ls (.ref t :: rest))) : W p l e R s m args below meth c H locs cells slots Q (F0 m pc ls rest) :=
  va_getsN CX.1.1 CX.1.2.1 hZ hM.2.1 CX.1.2.2.2.1 hlink (fun _ h => h) hdg kk
theorem i_slen (CX : iCX p m c cc nL s args x0 own E B k) (hM : iS E B k n L s σ H locs) {t N : Nat} {f : Nat → Value} (hT : va_T .int t N f (iA (B + k)) s s.heap) (hdg : decode cc pc = .ok (.arraylength, 1))
    (kk : W p l e R s m args below meth c H locs cells slots Q (F0 m (pc + 1) ls (.int (Int32.ofNat N) :: rest))) : W p l e R s m args below meth c H locs cells slots Q (F0 m pc ls (.ref t :: rest)) := by
  obtain ⟨cell, h1, h2, h3, h4, h5, h6, h7⟩ := hT
  have h9 : H[t]? = some cell := by rw [hM.2.1.2.1 t (Array.getElem?_eq_some_iff.mp h1).1 h7]; exact h1
  exact W.alen CX.1.1 CX.1.2.1 h9 h2 h5 rfl rfl hdg kk
theorem i_sald (CX : iCX p m c cc nL s args x0 own E B k) (hM : iS E B k n L s σ H locs) {t N : Nat} {f : Nat → Value} (hT : va_T .int t N f (iA (B + k)) s s.heap) {i : Int32} (hin : inb i N) {v : Value} (hv : f i.toNatClampNeg = v) (hdg : decode cc pc = .ok (.iaload, 1))
    (kk : W p l e R s m args below meth c H locs cells slots Q (F0 m (pc + 1) ls (v :: rest))) : W p l e R s m args below meth c H locs cells slots Q (F0 m pc ls (.int i :: .ref t :: rest)) := by
  obtain ⟨cell, h1, h2, h3, h4, h5, h6, h7⟩ := hT
  have h9 : H[t]? = some cell := by rw [hM.2.1.2.1 t (Array.getElem?_eq_some_iff.mp h1).1 h7]; exact h1
  have hlt : i.toNatClampNeg < N := Nat.not_le.mp fun q => hin (Or.inr q)
  exact W.iald CX.1.1 CX.1.2.1 h9 h2 h3 (fun h => h.elim (fun q => hin (Or.inl q)) (fun q => absurd q (Nat.not_le.mpr (Nat.lt_of_lt_of_le hlt h4)))) ((h6 _ hlt).trans (congrArg some hv)) rfl rfl hdg kk
/-- the end -/
theorem i_vret (CX : iCX p m c cc nL s args x0 own E B k) (hr : meth.sig.returnType = none) (hlk : meth.locks = false) (hM : iS E B k n L s σ H locs) {σ' : xM} (hσ : ∀ i, i < n → L (k + i) (σ (k + i)) = L (k + i) (σ' (k + i))) (hdg : decode cc pc = .ok (.return_, 1)) :
    W p l e R s m args below meth c H locs cells slots (MQ below (iQ E B k n L σ') args s cells slots (iA (B + k))) (F0 m pc ls []) := by
  have hw : wS B k n L σ = wS B k n L σ' := by
    apply List.ext_getElem?
    intro j
    by_cases hj : j < n
    · rw [wS_get hj, wS_get hj, hσ j hj]
    · rw [List.getElem?_eq_none (by simp [wS]; omega), List.getElem?_eq_none (by simp [wS]; omega)]
  exact W.vret CX.1.1 CX.1.2.1 hr (fun t ht _ => ⟨⟨rfl, by rw [ht, ← hw]; exact hM.1, by rw [ht]; exact hM.2.2⟩, hM.2.1.F ht⟩) hM.2.1.2.2 hdg hlk
/-- a constructor, from its entry -/
theorem i_met {y : MethodName} {b : ByteArray} {mL : Nat} {rm : Room} {mc ms : Nat} {σ' : xM} (hy : plainFor y = true) (hm0 : 1 ≤ mL)
    (body : ∀ (p : Program) (e : Env) (s : State) (m : MethodId) (below : List Frame) (meth : Method) (c : Code) (ls : Array Slot), iCX p m c b mL s #[.ref (B + k)] (Cond.code y b mL none) y.cls E B k → meth.sig.returnType = none → meth.locks = false → meth.name = y.name → iS E B k 1 L s σ s.heap [] → lv_has ls mL [(0, .ref (B + k))] →
      W p l e rm s m #[.ref (B + k)] below meth c s.heap [] 0 0 (MQ below (iQ E B k n L σ') #[.ref (B + k)] s mc ms (iA (B + k))) (F0 m 0 ls [])) :
    Met l y (Cond.code y b mL none :: AL) rm (iP E B k L σ) (iQ E B k n L σ') mc ms (iA (B + k)) := by
  refine va_MetF (cc := b) (maxL := mL) (ret := none) hy rfl ?_
  intro p e s m args below meth c s₁ BB hml hv
  obtain ⟨rfl, hE, hP, hz⟩ := hv
  have hown : s.vm.findClass y.cls = some m.cls := findClass_of_methodNamed BB.named
  have hin : meth.name = y.name := (name_of_methodNamed BB.named BB.method).1
  have hl := lv_entry ([.ref (B + k)] : List Value) (n := mL) hm0
  rw [lg_entry_eq]
  exact body p e s m below meth c _ ⟨⟨BB.exec, BB.bytes, hml, hown, atoms_spec (ws := Cond.code y b mL none :: AL) BB.pre⟩, hE⟩ BB.returns BB.notSynchronized hin ⟨hP, va_S.rf, hz⟩ hl
end IROW2
