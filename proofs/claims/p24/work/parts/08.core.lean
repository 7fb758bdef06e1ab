/-! the words that every contract carries: all steady words of the tables -/
def AL : List Cond := lw_tbl.filter goodWord
theorem AL_mem {w : Cond} (h : w ∈ tables_1) (hg : goodWord w = true) : w ∈ AL := List.mem_filter.mpr ⟨List.mem_append_right _ h, hg⟩
theorem AL_memP {w : Cond} (h : w ∈ k2_sels lw_privs) (hg : goodWord w = true) : w ∈ AL := List.mem_filter.mpr ⟨List.mem_append_left _ h, hg⟩
theorem AL_1 {w : Cond} (h : w ∈ tables_1_1) : w ∈ tables_1 := List.mem_append_left _ h
theorem AL_2 {w : Cond} (h : w ∈ tables_1_2) : w ∈ tables_1 := List.mem_append_right _ (List.mem_append_left _ h)
theorem AL_3 {w : Cond} (h : w ∈ tables_1_3) : w ∈ tables_1 := List.mem_append_right _ (List.mem_append_right _ h)
theorem AL_good {w : Cond} (h : w ∈ AL) : goodWord w = true := (List.mem_filter.mp h).2
theorem AL_tbl {w : Cond} (h : w ∈ AL) : w ∈ lw_tbl := (List.mem_filter.mp h).1
theorem AL_all (ws : List Cond) (ps : List Nat) (hp : ws = ps.filterMap (fun i => tables_1[i]?)) (h : ws.all goodWord = true) : ∀ w ∈ ws, w ∈ AL := by
  intro w hw
  refine AL_mem ?_ (List.all_eq_true.mp h w hw)
  rw [hp] at hw
  obtain ⟨i, -, hi⟩ := List.mem_filterMap.mp hw
  exact List.mem_of_getElem? hi
theorem AL_app {x : Cond} {a b : List Cond} (ha : ∀ w ∈ a, w ∈ AL) (hb : b = AL) : ∀ w ∈ a ++ b, w ∈ AL := fun w h => (List.mem_append.mp h).elim (ha w) (fun h => hb ▸ h)
theorem AL_in {x : Cond} {ws : List Cond} (h : ∀ w ∈ ws, w ∈ AL) : ∀ w ∈ ws, w ∈ x :: AL := fun w hw => List.mem_cons_of_mem _ (h w hw)
/-- a callee's words among the caller's -/
theorem AL_gi {x : Cond} {ws : List Cond} (h : ∀ w ∈ ws, w ∈ AL) : GoodIn (x :: AL) ws := fun w hw => ⟨List.mem_cons_of_mem _ (h w hw), good_of_word (AL_good (h w hw))⟩
/-- a link to a method called by invokevirtual -/
def xLV (own : String) (idx : Nat) (y : MethodName) (b : ByteArray) (mL : Nat) (ret : Option FieldType) (n : Nat) : Prop :=
  (Cond.methodLink own idx y ∈ AL ∧ Cond.instanceMethod y ∈ AL ∧ Cond.selects y.cls y y ∈ AL ∧ Cond.initialized y.cls ∈ AL ∧ Cond.code y b mL ret ∈ AL) ∧ y.cls ≠ "java/lang/invoke/MethodHandle" ∧ y.cls ≠ "java/lang/invoke/VarHandle" ∧ (parseMethodDescriptor y.desc).map (fun d => d.parameters.length) = some n
def xLS (own : String) (idx : Nat) (y : MethodName) (b : ByteArray) (mL : Nat) (ret : Option FieldType) (n : Nat) : Prop :=
  (Cond.methodLink own idx y ∈ AL ∧ Cond.static y ∈ AL ∧ Cond.initialized y.cls ∈ AL ∧ Cond.code y b mL ret ∈ AL) ∧ y.cls ≠ "java/lang/invoke/MethodHandle" ∧ y.cls ≠ "java/lang/invoke/VarHandle" ∧ (parseMethodDescriptor y.desc).map (fun d => d.parameters.length) = some n
/-! THE STATE: cells by number, slots by number, whole numbers; a world is a list of cells from an address on -/
abbrev xM : Type := Nat → Nat → Int32
def xup (σ : xM) (k j : Nat) (x : Int32) : xM := fun k' => if k' = k then upd (σ k) j x else σ k'
def xcp (σ : xM) (k k' n : Nat) : xM := fun i => if i = k' then va_cpy (σ k) (σ k') 0 0 n else σ i
def bz (x : Int32) : Int32 := if x = 0 then 0 else 1
/-- the tables' numbers: classes and slots; the array classes (int, byte, Room, Colony); the static arrays' addresses -/
abbrev xE : Type := va_G × (Nat → ClassId) × (Nat → Nat)
def xty (E : xE) : List (ClassId × FieldType) := [(E.2.1 0, .int), (E.2.1 1, .int), (E.2.1 2, .object "ThermostatColony$Room"), (E.2.1 3, .object "ThermostatColony$Colony")]
def wl (B : Nat) (lay : Nat → (Nat → Int32) → va_E) (n : Nat) (σ : xM) : va_W := (List.range n).map (fun k => (B + k, lay k (σ k)))
def wA (B n : Nat) : Nat → Prop := fun q => B ≤ q ∧ q < B + n
theorem wl_get {B : Nat} {lay : Nat → (Nat → Int32) → va_E} {n : Nat} {σ : xM} {k : Nat} (hk : k < n) : (wl B lay n σ)[k]? = some (B + k, lay k (σ k)) := by simp [wl, hk]
theorem wl_inv {B : Nat} {lay : Nat → (Nat → Int32) → va_E} {n : Nat} {σ : xM} {k : Nat} {q : Nat × va_E} (h : (wl B lay n σ)[k]? = some q) : k < n ∧ q = (B + k, lay k (σ k)) := by
  have hk : k < n := by
    have := (List.getElem?_eq_some_iff.mp h).1
    simpa [wl] using this
  rw [wl_get hk] at h
  exact ⟨hk, (Option.some.inj h).symm⟩
theorem wl_set {B : Nat} {lay : Nat → (Nat → Int32) → va_E} {n : Nat} {σ σ' : xM} {k : Nat} {e : va_E} (hk : k < n) (h1 : lay k (σ' k) = e) (h2 : ∀ j, j ≠ k → σ' j = σ j) : (wl B lay n σ).set k (B + k, e) = wl B lay n σ' := by
  apply List.ext_getElem?
  intro i
  by_cases hi : i = k
  · subst hi
    rw [List.getElem?_set_self (by simpa [wl] using hk), wl_get hk, h1]
  · rw [List.getElem?_set_ne (fun z => hi z.symm)]
    simp only [wl, List.getElem?_map, h2 i hi]
    by_cases hin : i < n
    · simp [hin, h2 i hi]
    · simp [hin]
theorem wl_D {B : Nat} {lay : Nat → (Nat → Int32) → va_E} {n : Nat} {σ : xM} : va_D (wA B n) (wl B lay n σ) := by
  refine ⟨fun i j p q hi hj hpq => ?_, fun k q hk => ?_⟩
  · obtain ⟨-, rfl⟩ := wl_inv hi
    obtain ⟨-, rfl⟩ := wl_inv hj
    simp only at hpq
    omega
  · obtain ⟨h, rfl⟩ := wl_inv hk
    exact ⟨Nat.le_add_right _ _, Nat.add_lt_add_left h _⟩
theorem xup_same {σ : xM} {k j : Nat} {x : Int32} : xup σ k j x k = upd (σ k) j x := by simp [xup]
theorem xup_ne {σ : xM} {k k' j : Nat} {x : Int32} (h : k' ≠ k) : xup σ k j x k' = σ k' := by simp [xup, h]
theorem xcp_same {σ : xM} {k k' n : Nat} : xcp σ k k' n k' = va_cpy (σ k) (σ k') 0 0 n := by simp [xcp]
theorem xcp_ne {σ : xM} {k k' n i : Nat} (h : i ≠ k') : xcp σ k k' n i = σ i := by simp [xcp, h]
/-! steps of a computation that may be stuck -/
def nm {α β : Type} (x : α) (K : α → Option β) : Option β := K x
theorem nm_h {α β : Type} {x y : α} {K : α → Option β} {r : β} (e : y = x) (h : nm x K = some r) : K y = some r := by subst e; exact h
theorem ck_h {β : Type} {c : Prop} {_ : Decidable c} {x : Option β} {r : β} (h : (if c then x else none) = some r) : c ∧ x = some r := by
  by_cases hc : c
  · rw [if_pos hc] at h; exact ⟨hc, h⟩
  · rw [if_neg hc] at h; cases h
theorem it_h {β : Type} {c : Prop} {_ : Decidable c} {x y : Option β} {r : β} (hc : c) (h : (if c then x else y) = some r) : x = some r := by rw [if_pos hc] at h; exact h
theorem if_h {β : Type} {c : Prop} {_ : Decidable c} {x y : Option β} {r : β} (hc : ¬ c) (h : (if c then x else y) = some r) : y = some r := by rw [if_neg hc] at h; exact h
theorem bd_h {α β : Type} {x : Option α} {K : α → Option β} {r : β} (h : x.bind K = some r) : ∃ q, x = some q ∧ K q = some r := by
  cases x with
  | none => cases h
  | some q => exact ⟨q, rfl, h⟩
theorem nz_h {β : Type} {c : Prop} {_ : Decidable c} {x : Option β} {r : β} (h : (if c then none else x) = some r) : ¬ c ∧ x = some r := by
  by_cases hc : c
  · rw [if_pos hc] at h; cases h
  · rw [if_neg hc] at h; exact ⟨hc, h⟩
def oc {β : Type} (x : Option Nat) (A : Option β) (K : Nat → Option β) : Option β := match x with
  | none => A
  | some r => K r
theorem oc_n {β : Type} {A : Option β} {K : Nat → Option β} {r : β} (h : oc none A K = some r) : A = some r := h
theorem oc_s {β : Type} {A : Option β} {K : Nat → Option β} {r : β} {a : Nat} (h : oc (some a) A K = some r) : K a = some r := h
noncomputable def FU : Nat := Classical.choose (show ∃ n : Nat, n = 1300 from ⟨1300, rfl⟩)
theorem FU_eq : FU = 1300 := Classical.choose_spec (show ∃ n : Nat, n = 1300 from ⟨1300, rfl⟩)
abbrev inb (i : Int32) (n : Nat) : Prop := ¬ (i < 0 ∨ n ≤ i.toNatClampNeg)
/-! what the tables and the static arrays give, for as long as the program runs -/
def stI (t : Nat) (j : Nat) : Int32 := match t with
  | 0 => ([25, 1000, 5, 10, 7, 45000, 15] : List Int32).getD j 0
  | 1 => ([1, 1, 1, 0, 0, 20000, 1] : List Int32).getD j 0
  | _ => ([100, 9999, 50, 120, 100, 90000, 120] : List Int32).getD j 0
def stV (t : Nat) (j : Nat) : Value := .int (stI t j)
def Ev (E : xE) (A : Nat → Prop) (U : State) (H : Heap) : Prop :=
  va_K E.1 vwCl (xty E) U ∧ True ∧
  (va_Z "ThermostatColony" "FIRST_NUMBERS" "[I" (.ref (E.2.2 0)) A U H ∧ va_Z "ThermostatColony" "LEAST_NUMBERS" "[I" (.ref (E.2.2 1)) A U H ∧ va_Z "ThermostatColony" "MOST_NUMBERS" "[I" (.ref (E.2.2 2)) A U H) ∧
  ∀ t : Nat, t < 3 → va_T .int (E.2.2 t) 7 (stV t) A U H
theorem Ev.warm {E : xE} {A : Nat → Prop} {s U : State} {H : Heap} (h : Ev E A s H) (hW : s.WarmedH U.vm) : Ev E A U H :=
  ⟨va_K.moved hW.alike h.1, trivial, ⟨va_Z.moved hW.alike h.2.2.1.1, va_Z.moved hW.alike h.2.2.1.2.1, va_Z.moved hW.alike h.2.2.1.2.2⟩, fun t ht => va_T.moved hW.alike (h.2.2.2 t ht)⟩
theorem Ev.kept {E : xE} {A : Nat → Prop} {U : State} {H H1 : Heap} (h : Ev E A U H) (hq : ∀ a : Nat, a < H.size → ¬ A a → H1[a]? = H[a]?) : Ev E A U H1 :=
  ⟨h.1, h.2.1, ⟨va_Z.kept h.2.2.1.1 hq, va_Z.kept h.2.2.1.2.1 hq, va_Z.kept h.2.2.1.2.2 hq⟩, fun t ht => va_T.kept (h.2.2.2 t ht) hq⟩
theorem Ev.call {E : xE} {A : Nat → Prop} {U : State} {H : Heap} {g : JFrame} {mk : MethodId} {a : Array Value} (h : Ev E A U H) : Ev E A (U.calling g mk a) H :=
  ⟨va_K.moved (u := U) (U := U.calling g mk a) (Vm.Alike.refl U.vm) h.1, trivial, ⟨va_Z.moved (u := U) (U := U.calling g mk a) (Vm.Alike.refl U.vm) h.2.2.1.1, va_Z.moved (u := U) (U := U.calling g mk a) (Vm.Alike.refl U.vm) h.2.2.1.2.1, va_Z.moved (u := U) (U := U.calling g mk a) (Vm.Alike.refl U.vm) h.2.2.1.2.2⟩, fun t ht => va_T.moved (u := U) (U := U.calling g mk a) (Vm.Alike.refl U.vm) (h.2.2.2 t ht)⟩
/-- a method's start and end -/
def xP (E : xE) (B n : Nat) (lay : Nat → (Nat → Int32) → va_E) (av : List Value) (σ : xM) : Array Value → State → Prop := va_Pc av (fun U => Ev E (wA B n) U U.heap ∧ va_P E.1 vwCl (wl B lay n σ) U.heap)
def xQ (E : xE) (B n : Nat) (lay : Nat → (Nat → Int32) → va_E) (v : Option Value) (σ : xM) : Array Value → State → Outcome → State → Prop := fun _ st oc t => (oc = .returned v ∧ va_P E.1 vwCl (wl B lay n σ) t.heap) ∧ va_F (wA B n) st t
def xS (E : xE) (B n : Nat) (lay : Nat → (Nat → Int32) → va_E) (s : State) (σ : xM) (H : Heap) (locs : List Loc) : Prop := va_P E.1 vwCl (wl B lay n σ) H ∧ va_S (wA B n) s.heap H locs
abbrev xCX (p : Program) (m : MethodId) (c : Code) (cc : ByteArray) (nL : Nat) (s : State) (args : Array Value) (x : Cond) (own : String) (E : xE) (B n : Nat) : Prop :=
  CallFix p m c cc nL s args (x :: AL) own ∧ Ev E (wA B n) s s.heap
section ROWS
variable {p : Program} {l : Launch} {e : Env} {R : Room} {s : State} {m : MethodId} {args : Array Value} {below : List Frame} {meth : Method} {c : Code} {H : Heap} {locs : List Loc} {Q : State → Prop}
variable {cc : ByteArray} {pc nL : Nat} {ls : Array Slot} {rest : List Value} {E : xE} {B n : Nat} {lay : Nat → (Nat → Int32) → va_E} {σ : xM} {x0 : Cond} {own : String}
theorem x_hts (CX : xCX p m c cc nL s args x0 own E B n) {w : Cond} (h : w ∈ AL) : w.before args s = true := CX.1.2.2.2.2 w (List.mem_cons_of_mem _ h)
/-- getfield -/
theorem x_get (CX : xCX p m c cc nL s args x0 own E B n) (hM : xS E B n lay s σ H locs) {k ci N index : Nat} {C : String} {T : u_T} {fs : List Value} {v : Value} (hk : k < n) (hlay : lay k (σ k) = .inr (ci, fs)) (hin : ∀ w ∈ u_ws C T N, w ∈ AL) (hc : vwCl[ci]? = some (C, T, N)) (j : Nat) (hj : j < N) (hlink : Cond.fieldLink own index (T j).1 (T j).2.1 (T j).2.2.1 ∈ AL) (hv : fs[j]? = some v) (hdg : decode cc pc = .ok (.getfield index, 3))
    (kk : W p l e R s m args below meth c H locs 0 0 Q (F0 m (pc + 3) ls (v :: rest))) : W p l e R s m args below meth c H locs 0 0 Q (F0 m pc ls (.ref (B + k) :: rest)) := by
  have hts := CX.1.2.2.2.2
  exact va_get (D := E.1) (cl := vwCl) (tys := xty E) (ws := wl B lay n σ) CX.1.1 CX.1.2.1 hts (AL_in hin) CX.1.2.2.2.1 CX.2.1 hM.1 k (by rw [wl_get hk, hlay]) hc j hj (x_hts CX hlink) (fun _ h => h) hv hdg kk
/-- putfield of a whole number or a boolean -/
theorem x_put (CX : xCX p m c cc nL s args x0 own E B n) (hM : xS E B n lay s σ H locs) {k ci N index : Nat} {C : String} {T : u_T} {fs : List Value} (x y : Int32) {ty : FieldType} (hk : k < n) (hlay : lay k (σ k) = .inr (ci, fs)) (hin : ∀ w ∈ u_ws C T N, w ∈ AL) (ty0 : Nat → FieldType) (hty : ∀ k, k < N → parseFieldDescriptor (T k).2.2.1 = some (ty0 k)) (hnm : ∀ a, a < N → ∀ b, b < N → a ≠ b → (T a).2.1 ≠ (T b).2.1) (hc : vwCl[ci]? = some (C, T, N)) (j : Nat) (hj : j < N) (hlink : Cond.fieldLink own index (T j).1 (T j).2.1 (T j).2.2.1 ∈ AL) (hfin : (T j).2.2.2 = false) (hd : ty0 j = ty) (hn : narrow ty (.int x) = .int x) (hfit : fits ty (.int x) = true) (hl : j < fs.length)
    (hset : lay k (upd (σ k) j y) = .inr (ci, fs.set j (.int x))) (hdg : decode cc pc = .ok (.putfield index, 3))
    (kk : ∀ (H1 : Heap) (locs1 : List Loc) (σ1 : xM), σ1 = xup σ k j y → xS E B n lay s σ1 H1 locs1 → W p l e R s m args below meth c H1 locs1 0 0 Q (F0 m (pc + 3) ls rest)) : W p l e R s m args below meth c H locs 0 0 Q (F0 m pc ls (.int x :: .ref (B + k) :: rest)) := by
  have hts := CX.1.2.2.2.2
  refine va_put (D := E.1) (cl := vwCl) (tys := xty E) (ws := wl B lay n σ) (A := wA B n) (H0 := s.heap) CX.1.1 CX.1.2.1 hts (AL_in hin) ty0 hty hnm CX.1.2.2.2.1 CX.2.1 hM.1 wl_D hM.2 k (by rw [wl_get hk, hlay]) hc j hj (x_hts CX hlink) (fun _ h => h) hfin ((hty j hj).trans (congrArg some hd)) hn hfit hl hdg (fun H1 locs1 h1 _ h3 => ?_)
  refine kk H1 locs1 _ rfl ⟨?_, h3⟩
  rw [wl_set (σ' := xup σ k j y) hk (by rw [xup_same, hset]) (fun i hi => xup_ne hi)] at h1
  exact h1
theorem x_iald (CX : xCX p m c cc nL s args x0 own E B n) (hM : xS E B n lay s σ H locs) {k N : Nat} (hk : k < n) (hlay : lay k (σ k) = .inl (E.2.1 0, N, .inl (σ k))) {i : Int32} (hin : inb i N) (hdg : decode cc pc = .ok (.iaload, 1))
    (kk : W p l e R s m args below meth c H locs 0 0 Q (F0 m (pc + 1) ls (.int (σ k i.toNatClampNeg) :: rest))) : W p l e R s m args below meth c H locs 0 0 Q (F0 m pc ls (.int i :: .ref (B + k) :: rest)) :=
  va_iald (D := E.1) (cl := vwCl) (tys := xty E) (ws := wl B lay n σ) CX.1.1 CX.1.2.1 CX.2.1 hM.1 k 0 (by rw [wl_get hk, hlay]) rfl hin hdg kk
theorem x_iast (CX : xCX p m c cc nL s args x0 own E B n) (hM : xS E B n lay s σ H locs) {k N : Nat} (hk : k < n) (hlay : ∀ f, lay k f = .inl (E.2.1 0, N, .inl f)) {i x : Int32} (hin : inb i N) (hdg : decode cc pc = .ok (.iastore, 1))
    (kk : ∀ (H1 : Heap) (locs1 : List Loc) (σ1 : xM), σ1 = xup σ k i.toNatClampNeg x → xS E B n lay s σ1 H1 locs1 → W p l e R s m args below meth c H1 locs1 0 0 Q (F0 m (pc + 1) ls rest)) : W p l e R s m args below meth c H locs 0 0 Q (F0 m pc ls (.int x :: .int i :: .ref (B + k) :: rest)) := by
  refine va_iast (D := E.1) (cl := vwCl) (tys := xty E) (ws := wl B lay n σ) (A := wA B n) (H0 := s.heap) CX.1.1 CX.1.2.1 CX.2.1 hM.1 wl_D hM.2 k 0 (by rw [wl_get hk, hlay]) rfl hin hdg (fun H1 locs1 h1 _ h3 => ?_)
  refine kk H1 locs1 _ rfl ⟨?_, h3⟩
  rw [wl_set (σ' := xup σ k i.toNatClampNeg x) hk (by rw [xup_same, hlay]) (fun i hi => xup_ne hi)] at h1
  exact h1
theorem x_alen (CX : xCX p m c cc nL s args x0 own E B n) (hM : xS E B n lay s σ H locs) {k : Nat} (t0 : Nat) {cA : ClassId} {a : vp_A} {ty : FieldType} (hk : k < n) (hlay : lay k (σ k) = .inl (cA, a)) (ht : (xty E)[t0]? = some (cA, ty)) {v : Int32} (hv : Int32.ofNat a.1 = v) (hdg : decode cc pc = .ok (.arraylength, 1))
    (kk : W p l e R s m args below meth c H locs 0 0 Q (F0 m (pc + 1) ls (.int v :: rest))) : W p l e R s m args below meth c H locs 0 0 Q (F0 m pc ls (.ref (B + k) :: rest)) :=
  va_alen (D := E.1) (cl := vwCl) (tys := xty E) (ws := wl B lay n σ) CX.1.1 CX.1.2.1 CX.2.1 hM.1 k t0 (by rw [wl_get hk, hlay]) ht hv hdg kk
theorem x_aald (CX : xCX p m c cc nL s args x0 own E B n) (hM : xS E B n lay s σ H locs) {k N : Nat} (t0 : Nat) {cA : ClassId} {C : String} {f : Nat → Option Nat} (hk : k < n) (hlay : lay k (σ k) = .inl (cA, N, .inr (.inr (.inr (.inr f))))) (ht : (xty E)[t0]? = some (cA, .object C)) {i : Int32} (hin : inb i N) {q : Nat} (hq : f i.toNatClampNeg = some q) (hdg : decode cc pc = .ok (.aaload, 1))
    (kk : W p l e R s m args below meth c H locs 0 0 Q (F0 m (pc + 1) ls (.ref q :: rest))) : W p l e R s m args below meth c H locs 0 0 Q (F0 m pc ls (.int i :: .ref (B + k) :: rest)) := by
  refine va_aldq (D := E.1) (cl := vwCl) (tys := xty E) (ws := wl B lay n σ) CX.1.1 CX.1.2.1 CX.2.1 hM.1 k t0 (by rw [wl_get hk, hlay]) ht hin hdg ?_
  rw [hq]
  exact kk
/-- a static array, read only: its reference, its length, a place of it -/
theorem x_gets (CX : xCX p m c cc nL s args x0 own E B n) (hM : xS E B n lay s σ H locs) {index : Nat} {nm : String} {t : Nat} (hZ : va_Z "ThermostatColony" nm "[I" (.ref t) (wA B n) s s.heap) (hlink : Cond.fieldLink own index "ThermostatColony" nm "[I" ∈ AL) (hdg : decode cc pc = .ok (.getstatic index, 3))
    (kk : W p l e R s m args below meth c H locs 0 0 Q (F0 m (pc + 3) ls (.ref t :: rest))) : W p l e R s m args below meth c H locs 0 0 Q (F0 m pc ls rest) :=
  va_gets CX.1.1 CX.1.2.1 hZ hM.2 CX.1.2.2.2.1 (x_hts CX hlink) (fun _ h => h) hdg kk
theorem x_slen (CX : xCX p m c cc nL s args x0 own E B n) (hM : xS E B n lay s σ H locs) {t N : Nat} {f : Nat → Value} (hT : va_T .int t N f (wA B n) s s.heap) (hdg : decode cc pc = .ok (.arraylength, 1))
    (kk : W p l e R s m args below meth c H locs 0 0 Q (F0 m (pc + 1) ls (.int (Int32.ofNat N) :: rest))) : W p l e R s m args below meth c H locs 0 0 Q (F0 m pc ls (.ref t :: rest)) := by
  obtain ⟨cell, h1, h2, h3, h4, h5, h6, h7⟩ := hT
  have h9 : H[t]? = some cell := by rw [hM.2.2.1 t (Array.getElem?_eq_some_iff.mp h1).1 h7]; exact h1
  exact W.alen CX.1.1 CX.1.2.1 h9 h2 h5 rfl rfl hdg kk
theorem x_sald (CX : xCX p m c cc nL s args x0 own E B n) (hM : xS E B n lay s σ H locs) {t N : Nat} {f : Nat → Value} (hT : va_T .int t N f (wA B n) s s.heap) {i : Int32} (hin : inb i N) {v : Value} (hv : f i.toNatClampNeg = v) (hdg : decode cc pc = .ok (.iaload, 1))
    (kk : W p l e R s m args below meth c H locs 0 0 Q (F0 m (pc + 1) ls (v :: rest))) : W p l e R s m args below meth c H locs 0 0 Q (F0 m pc ls (.int i :: .ref t :: rest)) := by
  obtain ⟨cell, h1, h2, h3, h4, h5, h6, h7⟩ := hT
  have h9 : H[t]? = some cell := by rw [hM.2.2.1 t (Array.getElem?_eq_some_iff.mp h1).1 h7]; exact h1
  have hlt : i.toNatClampNeg < N := Nat.not_le.mp fun q => hin (Or.inr q)
  exact W.iald CX.1.1 CX.1.2.1 h9 h2 h3 (fun h => h.elim (fun q => hin (Or.inl q)) (fun q => absurd q (Nat.not_le.mpr (Nat.lt_of_lt_of_le hlt h4)))) ((h6 _ hlt).trans (congrArg some hv)) rfl rfl hdg kk
/-- what a call gives back -/
theorem x_back {v : Option Value} {σ' : xM} {st0 : List Value} {a : Array Value} (hM : xS E B n lay s σ H locs) (hr : va_Run p l e R s m args below meth c H locs 0 0 0 0 (F0 m pc ls st0) rest (xQ E B n lay v σ' a) (wA B n))
    (kk : ∀ (H1 : Heap) (locs1 : List Loc), xS E B n lay s σ' H1 locs1 → W p l e R s m args below meth c H1 locs1 0 0 Q (F0 m (pc + 3) ls (v.toList ++ rest))) : W p l e R s m args below meth c H locs 0 0 Q (F0 m pc ls st0) := by
  intro T hT X
  obtain ⟨v', st₀, t, T', L, h0, X', hL, e1, e2, ⟨⟨hv, hb⟩, hz, hk⟩, st⟩ := hr T hT X
  cases hv
  rw [h0] at hz hk
  have hS := hM.2
  obtain ⟨t2, a1, b1⟩ := kk T'.heap (locs ++ L) ⟨by rw [e1]; exact hb, Nat.le_trans hS.1 (by rw [e1]; exact hz), fun q h1 h2 => by rw [e1, hk q (Nat.lt_of_lt_of_le h1 hS.1) h2]; exact hS.2.1 q h1 h2, fun q hq => by
      rcases List.mem_append.mp hq with h | h
      · exact hS.2.2 q h
      · exact hL q h⟩ T' rfl X'
  exact ⟨t2, st t2 a1, b1⟩
theorem x_pre (CX : xCX p m c cc nL s args x0 own E B n) (hM : xS E B n lay s σ H locs) {av : List Value} : FrameBlind (xP E B n lay av σ) ∧ ∀ U : State, U.heap = H → s.WarmedH U.vm → xP E B n lay av σ av.toArray U :=
  ⟨fun a U g mk q => ⟨q.1, Ev.call q.2.1, q.2.2⟩, fun U hU hW => ⟨rfl, by rw [hU]; exact (CX.2.warm hW).kept hM.2.2.1, by rw [hU]; exact hM.1⟩⟩
variable {y : MethodName} {b : ByteArray} {mL index na : Nat} {ret : Option FieldType} {rm : Room} {As st0 : List Value} {v : Option Value} {σ' : xM}
theorem x_callV (CX : xCX p m c cc nL s args x0 own E B n) (hM : xS E B n lay s σ H locs) {k ci : Nat} {fs : List Value} {T : u_T} {N : Nat} (hk : k < n) (hlay : lay k (σ k) = .inr (ci, fs)) (hc : vwCl[ci]? = some (y.cls, T, N)) (hL : xLV own index y b mL ret na)
    (hm : Met l y (Cond.code y b mL ret :: AL) rm (xP E B n lay (.ref (B + k) :: As) σ) (xQ E B n lay v σ') 0 0 (wA B n)) (hr : rm.cells = 0 ∧ rm.slots = 0 ∧ rm.frames + 1 ≤ R.frames ∧ 8 + (mL + 11) + rm.locals ≤ R.locals) (hn : As.length = na) (hls : ls.size = nL) (hst : st0 = As.reverse ++ .ref (B + k) :: rest) (hW : (rest.map fun v => v.category).sum ≤ 8) (hdg : decode cc pc = .ok (.invokevirtual index, 3))
    (kk : ∀ (H1 : Heap) (locs1 : List Loc), xS E B n lay s σ' H1 locs1 → W p l e R s m args below meth c H1 locs1 0 0 Q (F0 m (pc + 3) ls (v.toList ++ rest))) : W p l e R s m args below meth c H locs 0 0 Q (F0 m pc ls st0) := by
  subst hst
  obtain ⟨⟨w1, w2, w3, w4, w5⟩, d1, d2, d3⟩ := hL
  have hp := x_pre CX hM (av := .ref (B + k) :: As)
  refine x_back hM (va_runV (b := B + k) (As := As) (rest := rest) (C := y.cls) CX.1 hm (cwV na CX.1.2.2.2.2 ?_ rfl hr.1 hr.2.1 ⟨rfl, d1, d2, d3⟩ hr.2.2) ⟨hp.1, va_recv CX.2.1 hM.1 hc (by rw [wl_get hk, hlay]), hp.2⟩ rfl hn hls rfl (lv_room (pc := pc) hW) hdg ⟨Nat.zero_le _, Nat.zero_le _⟩) kk
  refine AL_gi ?_
  intro w hw
  rcases List.mem_append.mp hw with hw | hw
  · simp only [List.mem_cons, List.not_mem_nil, or_false] at hw
    rcases hw with rfl | rfl | rfl | rfl <;> assumption
  · rcases List.mem_cons.mp hw with rfl | hw
    · exact w5
    · exact hw
theorem x_callS (CX : xCX p m c cc nL s args x0 own E B n) (hM : xS E B n lay s σ H locs) (hL : xLS own index y b mL ret na)
    (hm : Met l y (Cond.code y b mL ret :: AL) rm (xP E B n lay As σ) (xQ E B n lay v σ') 0 0 (wA B n)) (hr : rm.cells = 0 ∧ rm.slots = 0 ∧ rm.frames + 1 ≤ R.frames ∧ 8 + (mL + 11) + rm.locals ≤ R.locals) (hn : As.length = na) (hls : ls.size = nL) (hst : st0 = As.reverse ++ rest) (hW : (rest.map fun v => v.category).sum ≤ 8) (hdg : decode cc pc = .ok (.invokestatic index, 3))
    (kk : ∀ (H1 : Heap) (locs1 : List Loc), xS E B n lay s σ' H1 locs1 → W p l e R s m args below meth c H1 locs1 0 0 Q (F0 m (pc + 3) ls (v.toList ++ rest))) : W p l e R s m args below meth c H locs 0 0 Q (F0 m pc ls st0) := by
  subst hst
  obtain ⟨⟨w1, w2, w3, w5⟩, d1, d2, d3⟩ := hL
  have hp := x_pre CX hM (av := As)
  refine x_back hM (va_runS (As := As) (rest := rest) CX.1 hm (va_cwS na CX.1.2.2.2.2 ?_ rfl hr.1 hr.2.1 ⟨d1, d2, d3⟩ hr.2.2) hp rfl hn hls rfl (lv_room (pc := pc) hW) hdg ⟨Nat.zero_le _, Nat.zero_le _⟩) kk
  refine AL_gi ?_
  intro w hw
  rcases List.mem_append.mp hw with hw | hw
  · simp only [List.mem_cons, List.not_mem_nil, or_false] at hw
    rcases hw with rfl | rfl | rfl <;> assumption
  · rcases List.mem_cons.mp hw with rfl | hw
    · exact w5
    · exact hw
/-- a static method of a nest mate -/
theorem x_callSN (CX : xCX p m c cc nL s args x0 own E B n) (hM : xS E B n lay s σ H locs) {host : String} (hnw : va_Nw (.methodLinkNest own index y host) s) (hL : (Cond.static y ∈ AL ∧ Cond.initialized y.cls ∈ AL ∧ Cond.code y b mL ret ∈ AL) ∧ y.cls ≠ "java/lang/invoke/MethodHandle" ∧ y.cls ≠ "java/lang/invoke/VarHandle" ∧ (parseMethodDescriptor y.desc).map (fun d => d.parameters.length) = some na)
    (hm : Met l y (Cond.code y b mL ret :: AL) rm (xP E B n lay As σ) (xQ E B n lay v σ') 0 0 (wA B n)) (hr : rm.cells = 0 ∧ rm.slots = 0 ∧ rm.frames + 1 ≤ R.frames ∧ 8 + (mL + 11) + rm.locals ≤ R.locals) (hn : As.length = na) (hls : ls.size = nL) (hst : st0 = As.reverse ++ rest) (hW : (rest.map fun v => v.category).sum ≤ 8) (hdg : decode cc pc = .ok (.invokestatic index, 3))
    (kk : ∀ (H1 : Heap) (locs1 : List Loc), xS E B n lay s σ' H1 locs1 → W p l e R s m args below meth c H1 locs1 0 0 Q (F0 m (pc + 3) ls (v.toList ++ rest))) : W p l e R s m args below meth c H locs 0 0 Q (F0 m pc ls st0) := by
  subst hst
  obtain ⟨⟨w2, w3, w5⟩, d1, d2, d3⟩ := hL
  have hp := x_pre CX hM (av := As)
  refine x_back hM (va_runSN (As := As) (rest := rest) CX.1 hm ⟨va_cnB na CX.1.2.2.2.2 (AL_gi ?_) rfl hr.1 hr.2.1 hnw (x_hts CX w3) ⟨d1, d2, d3⟩ hr.2.2, x_hts CX w2, trivial⟩ hp rfl hn hls rfl (lv_room (pc := pc) hW) hdg ⟨Nat.zero_le _, Nat.zero_le _⟩) kk
  intro w hw
  rcases List.mem_cons.mp hw with rfl | hw
  · exact w5
  · exact hw
end ROWS
