/-! the class's world: 160 cells -/
def kdL : List Nat :=
  [6] ++ [1, 10, 11, 12, 4, 13, 13, 3, 0, 3, 0, 3, 0, 3, 0, 3, 0, 3, 0] ++ [1, 10, 11, 12, 4, 13, 13, 3, 0, 3, 0, 3, 0, 3, 0, 3, 0, 3, 0] ++ [2, 14] ++
  [1, 10, 11, 12, 4, 13, 13, 3, 0, 3, 0, 3, 0, 3, 0, 3, 0, 3, 0] ++ [1, 10, 11, 12, 4, 13, 13, 3, 0, 3, 0, 3, 0, 3, 0, 3, 0, 3, 0] ++ [1, 10, 11, 12, 4, 13, 13, 3, 0, 3, 0, 3, 0, 3, 0, 3, 0, 3, 0] ++
  [1, 10, 11, 12, 4, 13, 13, 3, 0, 3, 0, 3, 0, 3, 0, 3, 0, 3, 0] ++ [1, 10, 11, 12, 4, 13, 13, 3, 0, 3, 0, 3, 0, 3, 0, 3, 0, 3, 0] ++ [1, 10, 11, 12, 4, 13, 13, 3, 0, 3, 0, 3, 0, 3, 0, 3, 0, 3, 0] ++
  [5, 15, 4, 13, 13]
def kd (k : Nat) : Nat := kdL.getD k 99
theorem kd_lt {k : Nat} (h : kd k < 99) : k < 160 := by
  rcases Nat.lt_or_ge k 160 with q | q
  · exact q
  · exfalso
    have : kd k = 99 := by
      unfold kd
      rw [List.getD_eq_getElem?_getD, List.getElem?_eq_none (by show kdL.length ≤ k; exact q)]
      rfl
    omega
theorem kd_all {P : Nat → Prop} [DecidablePred P] (h : ∀ k, k < 160 → P k) {k : Nat} (hk : kd k < 99) : P k := h k (kd_lt hk)
theorem kd1_f {k : Nat} (h : kd k = 1) : kd (k + 1) = 10 ∧ kd (k + 2) = 11 ∧ kd (k + 3) = 12 ∧ kd (k + 4) = 4 :=
  (by decide +kernel : ∀ k, k < 160 → kd k = 1 → kd (k + 1) = 10 ∧ kd (k + 2) = 11 ∧ kd (k + 3) = 12 ∧ kd (k + 4) = 4) k (kd_lt (by omega)) h
theorem kd2_f {k : Nat} (h : kd k = 2) : kd (k + 1) = 14 :=
  (by decide +kernel : ∀ k, k < 160 → kd k = 2 → kd (k + 1) = 14) k (kd_lt (by omega)) h
theorem kd3_f {k : Nat} (h : kd k = 3) : kd (k + 1) = 0 :=
  (by decide +kernel : ∀ k, k < 160 → kd k = 3 → kd (k + 1) = 0) k (kd_lt (by omega)) h
theorem kd4_f {k : Nat} (h : kd k = 4) : kd (k + 1) = 13 ∧ kd (k + 2) = 13 :=
  (by decide +kernel : ∀ k, k < 160 → kd k = 4 → kd (k + 1) = 13 ∧ kd (k + 2) = 13) k (kd_lt (by omega)) h
theorem kd5_f {k : Nat} (h : kd k = 5) : kd (k + 1) = 15 :=
  (by decide +kernel : ∀ k, k < 160 → kd k = 5 → kd (k + 1) = 15) k (kd_lt (by omega)) h
theorem kd6_f {k : Nat} (h : kd k = 6) : kd (k + 1) = 1 ∧ kd (k + 20) = 1 ∧ kd (k + 39) = 2 ∧ kd (k + 155) = 5 ∧ kd (k + 157) = 4 :=
  (by decide +kernel : ∀ k, k < 160 → kd k = 6 → kd (k + 1) = 1 ∧ kd (k + 20) = 1 ∧ kd (k + 39) = 2 ∧ kd (k + 155) = 5 ∧ kd (k + 157) = 4) k (kd_lt (by omega)) h
def sh0 (f : Nat → Int32) : List Value := [.int (f 0), .int (f 1), .int (f 2), .int (f 3), .int (f 4)]
def sh1 (B k : Nat) (f : Nat → Int32) : List Value := [.ref (B + (k + 1)), .ref (B + (k + 2)), .ref (B + (k + 3)), .ref (B + (k + 4)), .int (f 4), .int (f 5)]
def sh2 (B k : Nat) (f : Nat → Int32) : List Value := [.ref (B + (k + 1)), .int (f 1), .int (f 2)]
def sh3 (B k : Nat) (f : Nat → Int32) : List Value := [.ref (B + (k + 1)), .int (f 1), .int (f 2), .int (f 3), .int (f 4), .int (f 5), .int (f 6), .int (f 7), .int (bz (f 8)), .int (bz (f 9)), .int (bz (f 10)), .int (f 11), .int (f 12), .int (f 13), .int (f 14), .int (f 15), .int (f 16), .int (f 17)]
def sh4 (B k : Nat) (f : Nat → Int32) : List Value := [.ref (B + (k + 1)), .ref (B + (k + 2)), .int (f 2)]
def sh5 (B k : Nat) (f : Nat → Int32) : List Value := [.ref (B + (k + 1)), .int (f 1), .int (f 2)]
def sh6 (B k : Nat) : List Value := [.ref (B + (k + 1)), .ref (B + (k + 20)), .ref (B + (k + 39)), .ref (B + (k + 155)), .ref (B + (k + 157))]
def shX (E : xE) (B k : Nat) (f : Nat → Int32) (K : Nat) : va_E := match K with
  | 0 => .inr (0, sh0 f)
  | 1 => .inr (1, sh1 B k f)
  | 2 => .inr (2, sh2 B k f)
  | 3 => .inr (3, sh3 B k f)
  | 4 => .inr (4, sh4 B k f)
  | 5 => .inr (5, sh5 B k f)
  | 6 => .inr (6, sh6 B k)
  | 10 => .inl (E.2.1 0, 7, .inl f)
  | 11 => .inl (E.2.1 2, 6, .inr (.inr (.inr (.inr (fun j => some (B + (k + 5 + 2 * j)))))))
  | 12 => .inl (E.2.1 0, 36, .inl f)
  | 13 => .inl (E.2.1 0, 12, .inl f)
  | 14 => .inl (E.2.1 3, 6, .inr (.inr (.inr (.inr (fun j => some (B + (k + 1 + 19 * j)))))))
  | 15 => .inl (E.2.1 0, 100, .inl f)
  | _ => .inl (E.2.1 0, 0, .inl f)
def layX (E : xE) (B : Nat) (k : Nat) (f : Nat → Int32) : va_E := shX E B k f (kd k)
theorem ly0 {E : xE} {B k : Nat} (h : kd k = 0) (f : Nat → Int32) : layX E B k f = .inr (0, sh0 f) := by unfold layX; rw [h]; rfl
theorem ly1 {E : xE} {B k : Nat} (h : kd k = 1) (f : Nat → Int32) : layX E B k f = .inr (1, sh1 B k f) := by unfold layX; rw [h]; rfl
theorem ly2 {E : xE} {B k : Nat} (h : kd k = 2) (f : Nat → Int32) : layX E B k f = .inr (2, sh2 B k f) := by unfold layX; rw [h]; rfl
theorem ly3 {E : xE} {B k : Nat} (h : kd k = 3) (f : Nat → Int32) : layX E B k f = .inr (3, sh3 B k f) := by unfold layX; rw [h]; rfl
theorem ly4 {E : xE} {B k : Nat} (h : kd k = 4) (f : Nat → Int32) : layX E B k f = .inr (4, sh4 B k f) := by unfold layX; rw [h]; rfl
theorem ly5 {E : xE} {B k : Nat} (h : kd k = 5) (f : Nat → Int32) : layX E B k f = .inr (5, sh5 B k f) := by unfold layX; rw [h]; rfl
theorem ly6 {E : xE} {B k : Nat} (h : kd k = 6) (f : Nat → Int32) : layX E B k f = .inr (6, sh6 B k) := by unfold layX; rw [h]; rfl
theorem ly10 {E : xE} {B k : Nat} (h : kd k = 10) (f : Nat → Int32) : layX E B k f = .inl (E.2.1 0, 7, .inl f) := by unfold layX; rw [h]; rfl
theorem ly11 {E : xE} {B k : Nat} (h : kd k = 11) (f : Nat → Int32) : layX E B k f = .inl (E.2.1 2, 6, .inr (.inr (.inr (.inr (fun j => some (B + (k + 5 + 2 * j))))))) := by unfold layX; rw [h]; rfl
theorem ly12 {E : xE} {B k : Nat} (h : kd k = 12) (f : Nat → Int32) : layX E B k f = .inl (E.2.1 0, 36, .inl f) := by unfold layX; rw [h]; rfl
theorem ly13 {E : xE} {B k : Nat} (h : kd k = 13) (f : Nat → Int32) : layX E B k f = .inl (E.2.1 0, 12, .inl f) := by unfold layX; rw [h]; rfl
theorem ly14 {E : xE} {B k : Nat} (h : kd k = 14) (f : Nat → Int32) : layX E B k f = .inl (E.2.1 3, 6, .inr (.inr (.inr (.inr (fun j => some (B + (k + 1 + 19 * j))))))) := by unfold layX; rw [h]; rfl
theorem ly15 {E : xE} {B k : Nat} (h : kd k = 15) (f : Nat → Int32) : layX E B k f = .inl (E.2.1 0, 100, .inl f) := by unfold layX; rw [h]; rfl
theorem kdl {k K : Nat} (h : kd k = K) (hK : Nat.blt K 99 = true) : k < 160 := kd_lt (by rw [h]; exact Nat.blt_eq.mp hK)
/-! the reference's world: 7 cells -/
def kdY (k : Nat) : Nat := ([7, 20, 21, 22, 23, 24, 25] : List Nat).getD k 99
def sh7 (B k : Nat) (f : Nat → Int32) : List Value := [.ref (B + (k + 1)), .ref (B + (k + 2)), .int (f 2), .ref (B + (k + 3)), .int (f 4), .ref (B + (k + 4)), .ref (B + (k + 5)), .int (f 7), .int (f 8), .int (f 9), .ref (B + (k + 6))]
def shY (E : xE) (B k : Nat) (f : Nat → Int32) (K : Nat) : va_E := match K with
  | 7 => .inr (7, sh7 B k f)
  | 20 => .inl (E.2.1 0, 196, .inl f)
  | 21 => .inl (E.2.1 0, 1176, .inl f)
  | 22 => .inl (E.2.1 1, 100, .inl f)
  | 23 => .inl (E.2.1 0, 196, .inl f)
  | 24 => .inl (E.2.1 0, 24, .inl f)
  | 25 => .inl (E.2.1 0, 6, .inl f)
  | _ => .inl (E.2.1 0, 0, .inl f)
def layY (E : xE) (B : Nat) (k : Nat) (f : Nat → Int32) : va_E := shY E B k f (kdY k)
theorem kdY_lt {k : Nat} (h : kdY k < 99) : k < 7 := by
  rcases Nat.lt_or_ge k 7 with q | q
  · exact q
  · exfalso
    have : kdY k = 99 := by
      unfold kdY
      rw [List.getD_eq_getElem?_getD, List.getElem?_eq_none (by show 7 ≤ k; exact q)]
      rfl
    omega
theorem kdYl {k K : Nat} (h : kdY k = K) (hK : Nat.blt K 99 = true) : k < 7 := kdY_lt (by rw [h]; exact Nat.blt_eq.mp hK)
theorem kd7_f {k : Nat} (h : kdY k = 7) : kdY (k + 1) = 20 ∧ kdY (k + 2) = 21 ∧ kdY (k + 3) = 22 ∧ kdY (k + 4) = 23 ∧ kdY (k + 5) = 24 ∧ kdY (k + 6) = 25 :=
  (by decide +kernel : ∀ k, k < 7 → kdY k = 7 → kdY (k + 1) = 20 ∧ kdY (k + 2) = 21 ∧ kdY (k + 3) = 22 ∧ kdY (k + 4) = 23 ∧ kdY (k + 5) = 24 ∧ kdY (k + 6) = 25) k (kdY_lt (by omega)) h
theorem ly7 {E : xE} {B k : Nat} (h : kdY k = 7) (f : Nat → Int32) : layY E B k f = .inr (7, sh7 B k f) := by unfold layY; rw [h]; rfl
theorem ly20 {E : xE} {B k : Nat} (h : kdY k = 20) (f : Nat → Int32) : layY E B k f = .inl (E.2.1 0, 196, .inl f) := by unfold layY; rw [h]; rfl
theorem ly21 {E : xE} {B k : Nat} (h : kdY k = 21) (f : Nat → Int32) : layY E B k f = .inl (E.2.1 0, 1176, .inl f) := by unfold layY; rw [h]; rfl
theorem ly22 {E : xE} {B k : Nat} (h : kdY k = 22) (f : Nat → Int32) : layY E B k f = .inl (E.2.1 1, 100, .inl f) := by unfold layY; rw [h]; rfl
theorem ly23 {E : xE} {B k : Nat} (h : kdY k = 23) (f : Nat → Int32) : layY E B k f = .inl (E.2.1 0, 196, .inl f) := by unfold layY; rw [h]; rfl
theorem ly24 {E : xE} {B k : Nat} (h : kdY k = 24) (f : Nat → Int32) : layY E B k f = .inl (E.2.1 0, 24, .inl f) := by unfold layY; rw [h]; rfl
theorem ly25 {E : xE} {B k : Nat} (h : kdY k = 25) (f : Nat → Int32) : layY E B k f = .inl (E.2.1 0, 6, .inl f) := by unfold layY; rw [h]; rfl
theorem bz_bz (x : Int32) : bz (bz x) = bz x := by unfold bz; split <;> rfl
theorem bz_cases (x : Int32) : bz x = 0 ∨ bz x = 1 := by unfold bz; split; exact Or.inl rfl; exact Or.inr rfl
theorem bz_nar (x : Int32) : narrow .boolean (.int (bz x)) = .int (bz x) := by rcases bz_cases x with h | h <;> rw [h] <;> rfl
theorem bz_fit (x : Int32) : fits .boolean (.int (bz x)) = true := by rcases bz_cases x with h | h <;> rw [h] <;> rfl
section PRO
variable {p : Program} {l : Launch} {e : Env} {R : Room} {s : State} {m : MethodId} {args : Array Value} {below : List Frame} {meth : Method} {c : Code} {H : Heap} {locs : List Loc} {Q : State → Prop}
variable {cc : ByteArray} {pc nL : Nat} {ls : Array Slot} {rest : List Value} {E : xE} {B n : Nat} {lay : Nat → (Nat → Int32) → va_E} {σ : xM} {x0 : Cond} {own : String}
/-- a method, from its entry -/
theorem x_met {y : MethodName} {b : ByteArray} {mL : Nat} {ret : Option FieldType} {rm : Room} {av : List Value} {lv : List (Nat × Value)} {v : Option Value} {σ' : xM} (hy : plainFor y = true) (hlen : (lg_sl av).length ≤ mL) (hlv : lv_args 0 av = lv)
    (body : ∀ (p : Program) (e : Env) (s : State) (m : MethodId) (below : List Frame) (meth : Method) (c : Code) (ls : Array Slot), xCX p m c b mL s av.toArray (Cond.code y b mL ret) y.cls E B n → meth.sig.returnType = ret → meth.locks = false → xS E B n lay s σ s.heap [] → lv_has ls mL lv →
      W p l e rm s m av.toArray below meth c s.heap [] 0 0 (MQ below (xQ E B n lay v σ') av.toArray s 0 0 (wA B n)) (F0 m 0 ls [])) :
    Met l y (Cond.code y b mL ret :: AL) rm (xP E B n lay av σ) (xQ E B n lay v σ') 0 0 (wA B n) := by
  refine va_MetF (cc := b) (maxL := mL) (ret := ret) hy rfl ?_
  intro p e s m args below meth c s₁ BB hml hv
  obtain ⟨rfl, hE, hP⟩ := hv
  have hown : s.vm.findClass y.cls = some m.cls := findClass_of_methodNamed BB.named
  rw [lg_entry_eq]
  exact body p e s m below meth c _ ⟨⟨BB.exec, BB.bytes, hml, hown, atoms_spec (ws := Cond.code y b mL ret :: AL) BB.pre⟩, hE⟩ BB.returns BB.notSynchronized ⟨hP, va_S.rf⟩ (hlv ▸ lv_entry av hlen)
variable {σ' : xM} {x : Int32} {v : Option Value}
theorem x_iret (CX : xCX p m c cc nL s args x0 own E B n) (hr : meth.sig.returnType = some .int) (hlk : meth.locks = false) (hM : xS E B n lay s σ H locs) (hv : v = some (.int x)) (hdg : decode cc pc = .ok (.ireturn, 1)) :
    W p l e R s m args below meth c H locs 0 0 (MQ below (xQ E B n lay v σ) args s 0 0 (wA B n)) (F0 m pc ls [.int x]) := by
  subst hv
  exact W.iret CX.1.1 CX.1.2.1 hr (fun t ht _ => ⟨⟨rfl, by rw [ht]; exact hM.1⟩, hM.2.F ht⟩) hM.2.2.2 hdg hlk
theorem x_zret (CX : xCX p m c cc nL s args x0 own E B n) (hr : meth.sig.returnType = some .boolean) (hlk : meth.locks = false) (hM : xS E B n lay s σ H locs) {y : Int32} (hy : x = bz y) (hv : v = some (.int (bz y))) (hdg : decode cc pc = .ok (.ireturn, 1)) :
    W p l e R s m args below meth c H locs 0 0 (MQ below (xQ E B n lay v σ) args s 0 0 (wA B n)) (F0 m pc ls [.int x]) := by
  subst hv
  subst hy
  exact W.zret CX.1.1 CX.1.2.1 hr (bz_nar y) (fun t ht _ => ⟨⟨rfl, by rw [ht]; exact hM.1⟩, hM.2.F ht⟩) hM.2.2.2 hdg hlk
theorem x_vret (CX : xCX p m c cc nL s args x0 own E B n) (hr : meth.sig.returnType = none) (hlk : meth.locks = false) (hM : xS E B n lay s σ H locs) (hv : v = none) (hdg : decode cc pc = .ok (.return_, 1)) :
    W p l e R s m args below meth c H locs 0 0 (MQ below (xQ E B n lay v σ) args s 0 0 (wA B n)) (F0 m pc ls []) := by
  subst hv
  exact W.vret CX.1.1 CX.1.2.1 hr (fun t ht _ => ⟨⟨rfl, by rw [ht]; exact hM.1⟩, hM.2.F ht⟩) hM.2.2.2 hdg hlk
theorem x_aret (CX : xCX p m c cc nL s args x0 own E B n) {C : String} (hr : meth.sig.returnType = some (.object C)) (hlk : meth.locks = false) (hM : xS E B n lay s σ H locs) {w : Value} (hw : w = .null ∨ ∃ a, w = .ref a) (hv : v = some w) (hdg : decode cc pc = .ok (.areturn, 1)) :
    W p l e R s m args below meth c H locs 0 0 (MQ below (xQ E B n lay v σ) args s 0 0 (wA B n)) (F0 m pc ls [w]) := by
  subst hv
  exact W.aret CX.1.1 CX.1.2.1 hr (Or.inl ⟨_, rfl⟩) hw (fun t ht _ => ⟨⟨rfl, by rw [ht]; exact hM.1⟩, hM.2.F ht⟩) hM.2.2.2 hdg hlk
/-- System.arraycopy between two whole-number arrays, from 0 to 0 -/
theorem x_acopy (CX : xCX p m c cc nL s args x0 own E B n) (hM : xS E B n lay s σ H locs) {k k' N0 N1 nn index : Nat} {z : Int32} (hk : k < n) (hk' : k' < n) (hlay : lay k (σ k) = .inl (E.2.1 0, N0, .inl (σ k))) (hlay' : ∀ f, lay k' f = .inl (E.2.1 0, N1, .inl f)) (hz : z.toNatClampNeg = nn) (h3 : ¬ z < 0) (h4 : nn ≤ N0) (h5 : nn ≤ N1) (hls : ls.size = nL)
    (hL : Cond.methodLink own index arraycopyName ∈ AL ∧ Cond.native arraycopyName ∈ AL ∧ Cond.static arraycopyName ∈ AL ∧ Cond.initialized "java/lang/System" ∈ AL)
    (hfr : 1 ≤ R.frames) (hlo : (rest.map fun v => v.category).sum + (nativeFrameWords "java/lang/System" "arraycopy" 5 + 11) ≤ R.locals) (hdg : decode cc pc = .ok (.invokestatic index, 3))
    (kk : ∀ (H1 : Heap) (locs1 : List Loc) (σ1 : xM), σ1 = xcp σ k k' nn → xS E B n lay s σ1 H1 locs1 → W p l e R s m args below meth c H1 locs1 0 0 Q (F0 m (pc + 3) ls rest)) : W p l e R s m args below meth c H locs 0 0 Q (F0 m pc ls (.int z :: .int 0 :: .ref (B + k') :: .int 0 :: .ref (B + k) :: rest)) := by
  obtain ⟨w1, w2, w3, w4⟩ := hL
  subst hz
  have z0 : ((0 : Int32)).toNatClampNeg = 0 := by decide
  refine va_copyi (D := E.1) (cl := vwCl) (tys := xty E) (ws := wl B lay n σ) (A := wA B n) (H0 := s.heap) CX.1.1 CX.1.2.1 (CX.1.2.2.1.trans hls.symm) CX.1.2.2.2.1 (x_hts CX w1) (x_hts CX w2) (x_hts CX w3) (x_hts CX w4) CX.2.1 hM.1 wl_D hM.2 k k' 0 0 (by rw [wl_get hk, hlay]) (by rw [wl_get hk', hlay']) rfl rfl rfl (by decide) (by decide) h3 (by rw [z0]; omega) (by rw [z0]; omega) (fun _ _ => rfl) hfr hlo hdg (fun H1 locs1 h1 _ h3 => ?_)
  refine kk H1 locs1 _ rfl ⟨?_, h3⟩
  rw [z0, wl_set (σ' := xcp σ k k' z.toNatClampNeg) hk' (by rw [xcp_same, hlay']) (fun i hi => xcp_ne hi)] at h1
  exact h1
end PRO
theorem tsw_out {x : Int32} {lo hi : Int} (cs : List Int32) (hcs : cs.map Int32.toInt = (List.range cs.length).map (fun i : Nat => lo + (i : Int))) (hhi : lo + (cs.length : Int) = hi + 1) (h : ∀ c ∈ cs, ¬ x = c) : x.toInt < lo ∨ hi < x.toInt := by
  rcases Int.lt_or_le x.toInt lo with h1 | h1
  · exact Or.inl h1
  rcases Int.lt_or_le hi x.toInt with h2 | h2
  · exact Or.inr h2
  exfalso
  have hl : (x.toInt - lo).toNat < cs.length := by omega
  have e1 : (cs.map Int32.toInt)[(x.toInt - lo).toNat]? = some x.toInt := by
    rw [hcs, List.getElem?_map, List.getElem?_range hl]
    simp only [Option.map_some]
    congr 1
    omega
  rw [List.getElem?_map] at e1
  cases hc : cs[(x.toInt - lo).toNat]? with
  | none => rw [hc] at e1; cases e1
  | some c =>
    rw [hc] at e1
    exact h c (List.mem_of_getElem? hc) (Int32.toInt_inj.mp (Option.some.inj e1)).symm
