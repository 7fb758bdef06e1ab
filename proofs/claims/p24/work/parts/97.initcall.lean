theorem Ev.mono {E : xE} {A A' : Nat → Prop} {U : State} {H : Heap} (h : Ev E A U H) (hA : ∀ q, A' q → A q) : Ev E A' U H := by
  obtain ⟨h1, h2, ⟨z1, z2, z3⟩, hT⟩ := h
  have fz : ∀ {C n d : String} {v : Value}, va_Z C n d v A U H → va_Z C n d v A' U H := by
    rintro C n d v ⟨cf, kf, fi, f, a, cell, q1, q2, q3, q4, q5, q6, q7, q8⟩
    exact ⟨cf, kf, fi, f, a, cell, q1, q2, q3, q4, q5, q6, q7, fun z => q8 (hA _ z)⟩
  refine ⟨h1, h2, ⟨fz z1, fz z2, fz z3⟩, fun t ht => ?_⟩
  obtain ⟨cell, q1, q2, q3, q4, q5, q6, q7⟩ := hT t ht
  exact ⟨cell, q1, q2, q3, q4, q5, q6, fun z => q7 (hA _ z)⟩
section ICALL
variable {p : Program} {l : Launch} {e : Env} {R : Room} {s : State} {m : MethodId} {args : Array Value} {below : List Frame} {meth : Method} {c : Code} {H : Heap} {locs : List Loc} {cells slots : Nat} {Q : State → Prop}
variable {cc : ByteArray} {pc nL : Nat} {ls : Array Slot} {rest : List Value} {E : xE} {B k n : Nat} {L : Nat → (Nat → Int32) → va_E} {σ : xM} {x0 : Cond} {own : String}
theorem i_back {i mm mc ms : Nat} {σc : xM} {st0 : List Value} {a : Array Value} (hM : iS E B k n L s σ H locs) (hi : n = i + 1)
    (hr : va_Run p l e R s m args below meth c H locs cells slots mc ms (F0 m pc ls st0) rest (iQ E B (k + i) mm L σc a) (iA (B + (k + i))))
    (kk : ∀ (H1 : Heap) (locs1 : List Loc) (σ1 : xM), (∀ q, q < k + i → σ1 q = σ q) → (∀ q, k + i ≤ q → q < k + i + mm → σ1 q = σc q) → (∀ q, k + i + mm ≤ q → σ1 q = σ q) → iS E B k (i + mm) L s σ1 H1 locs1 → W p l e R s m args below meth c H1 locs1 (cells + mc) (slots + ms) Q (F0 m (pc + 3) ls rest)) : W p l e R s m args below meth c H locs cells slots Q (F0 m pc ls st0) := by
  subst hi
  intro T hT X
  obtain ⟨v', st₀, t, T', Lx, h0, X', hL, e1, e2, ⟨⟨hv, hb, hsz⟩, hz, hk⟩, st⟩ := hr T hT X
  cases hv
  rw [h0] at hz hk
  obtain ⟨hP, hS, hHz⟩ := hM
  generalize hσ : (fun q => if k + i ≤ q ∧ q < k + i + mm then σc q else σ q : xM) = σ1
  have s1 : ∀ q, q < k + i → σ1 q = σ q := fun q hq => by rw [← hσ]; exact if_neg (by omega)
  have s2 : ∀ q, k + i ≤ q → q < k + i + mm → σ1 q = σc q := fun q h1 h2 => by rw [← hσ]; exact if_pos ⟨h1, h2⟩
  have s3 : ∀ q, k + i + mm ≤ q → σ1 q = σ q := fun q hq => by rw [← hσ]; exact if_neg (by omega)
  suffices hN : iS E B k (i + mm) L s σ1 T'.heap (locs ++ Lx) by
    obtain ⟨t2, a1, b1⟩ := kk T'.heap (locs ++ Lx) σ1 s1 s2 s3 hN T' rfl X'
    exact ⟨t2, st t2 a1, b1⟩
  refine ⟨?_, ⟨Nat.le_trans hS.1 (by rw [e1]; exact hz), fun q h1 h2 => ?_, fun q hq => ?_⟩, by rw [e1, hsz]; omega⟩
  · rw [e1]
    intro j q hj
    obtain ⟨hjn, rfl⟩ := wS_inv hj
    by_cases hji : j < i
    · have h3 := hP j _ (wS_get (show j < i + 1 by omega))
      rw [s1 (k + j) (by omega)]
      exact h3.kept (hk _ (by show B + (k + j) < H.size; omega) (by show ¬ B + (k + i) ≤ B + (k + j); omega))
    · have h3 := hb (j - i) _ (wS_get (show j - i < mm by omega))
      rw [show k + i + (j - i) = k + j by omega] at h3
      rw [s2 (k + j) (by omega) (by omega)]
      exact h3
  · rw [e1, hk q (Nat.lt_of_lt_of_le h1 hS.1) (fun z => h2 (by
      have z' : B + (k + i) ≤ q := z
      show B + k ≤ q
      omega))]
    exact hS.2.1 q h1 h2
  · rcases List.mem_append.mp hq with h | h
    · exact hS.2.2 q h
    · have z' : B + (k + i) ≤ q.base := hL q h
      show B + k ≤ q.base
      omega
theorem i_pre (CX : iCX p m c cc nL s args x0 own E B k) (hM : iS E B k n L s σ H locs) {i : Nat} (hi : n = i + 1) :
    FrameBlind (iP E B (k + i) L σ) ∧ ∀ U : State, U.heap = H → s.WarmedH U.vm → iP E B (k + i) L σ ([.ref (B + (k + i))] : List Value).toArray U := by
  subst hi
  refine ⟨fun a U g mk q => ⟨q.1, ⟨Ev.call q.2.1.1, E2.call q.2.1.2⟩, q.2.2⟩, fun U hU hW => ⟨rfl, ⟨?_, CX.2.2.warm hW⟩, ?_, by rw [hU]; exact hM.2.2⟩⟩
  · rw [hU]
    refine ((CX.2.1.warm hW).kept hM.2.1.2.1).mono (fun q z => ?_)
    have z' : B + (k + i) ≤ q := z
    show B + k ≤ q
    omega
  · rw [hU]
    intro j q hj
    obtain ⟨hjn, rfl⟩ := wS_inv hj
    obtain rfl : j = 0 := by omega
    exact hM.1 i _ (wS_get (show i < i + 1 by omega))
variable {y : MethodName} {b : ByteArray} {mL index : Nat} {rm : Room}
theorem i_call (CX : iCX p m c cc nL s args x0 own E B k) (hM : iS E B k n L s σ H locs) {i mm mc ms : Nat} {σc : xM} (hi : n = i + 1) (hL : (Cond.methodLink own index y ∈ AL ∧ Cond.instanceMethod y ∈ AL ∧ Cond.initialized y.cls ∈ AL ∧ Cond.code y b mL none ∈ AL) ∧ y.name = "<init>" ∧ y.cls ≠ "java/lang/invoke/MethodHandle" ∧ y.cls ≠ "java/lang/invoke/VarHandle" ∧ (parseMethodDescriptor y.desc).map (fun d => d.parameters.length) = some 0)
    (hm : Met l y (Cond.code y b mL none :: AL) rm (iP E B (k + i) L σ) (iQ E B (k + i) mm L σc) mc ms (iA (B + (k + i)))) (hr : rm.cells = mc ∧ rm.slots = ms ∧ rm.frames + 1 ≤ R.frames ∧ 8 + (mL + 11) + rm.locals ≤ R.locals) (hcs : cells + mc ≤ R.cells ∧ slots + ms ≤ R.slots) (hls : ls.size = nL) (hW : (rest.map fun v => v.category).sum ≤ 8) (hdg : decode cc pc = .ok (.invokespecial index, 3))
    (kk : ∀ (H1 : Heap) (locs1 : List Loc) (σ1 : xM), (∀ q, q < k + i → σ1 q = σ q) → (∀ q, k + i ≤ q → q < k + i + mm → σ1 q = σc q) → (∀ q, k + i + mm ≤ q → σ1 q = σ q) → iS E B k (i + mm) L s σ1 H1 locs1 → W p l e R s m args below meth c H1 locs1 (cells + mc) (slots + ms) Q (F0 m (pc + 3) ls rest)) : W p l e R s m args below meth c H locs cells slots Q (F0 m pc ls (.ref (B + (k + i)) :: rest)) := by
  obtain ⟨⟨w1, w2, w3, w4⟩, d0, d1, d2, d3⟩ := hL
  have hG : GoodIn (x0 :: AL) (Cond.code y b mL none :: AL) := AL_gi (fun w hw => by
    rcases List.mem_cons.mp hw with rfl | hw
    · exact w4
    · exact hw)
  refine i_back hM hi (va_runI (As := []) (rest := rest) CX.1 hm ⟨callB_of 0 CX.1.2.2.2.2 hG rfl hr.1 hr.2.1 (i_hts CX w3) (i_hts CX w1) ⟨d1, d2, d3⟩ hr.2.2, d0, i_hts CX w2⟩ (i_pre CX hM hi) rfl rfl hls rfl (lv_room (pc := pc) hW) hdg hcs) kk
theorem i_callN (CX : iCX p m c cc nL s args x0 own E B k) (hM : iS E B k n L s σ H locs) {i mm mc ms : Nat} {σc : xM} {host : String} (hi : n = i + 1) (hnw : va_Nw (.methodLinkNest own index y host) s) (hL : (Cond.instanceMethod y ∈ AL ∧ Cond.initialized y.cls ∈ AL ∧ Cond.code y b mL none ∈ AL) ∧ y.name = "<init>" ∧ y.cls ≠ "java/lang/invoke/MethodHandle" ∧ y.cls ≠ "java/lang/invoke/VarHandle" ∧ (parseMethodDescriptor y.desc).map (fun d => d.parameters.length) = some 0)
    (hm : Met l y (Cond.code y b mL none :: AL) rm (iP E B (k + i) L σ) (iQ E B (k + i) mm L σc) mc ms (iA (B + (k + i)))) (hr : rm.cells = mc ∧ rm.slots = ms ∧ rm.frames + 1 ≤ R.frames ∧ 8 + (mL + 11) + rm.locals ≤ R.locals) (hcs : cells + mc ≤ R.cells ∧ slots + ms ≤ R.slots) (hls : ls.size = nL) (hW : (rest.map fun v => v.category).sum ≤ 8) (hdg : decode cc pc = .ok (.invokespecial index, 3))
    (kk : ∀ (H1 : Heap) (locs1 : List Loc) (σ1 : xM), (∀ q, q < k + i → σ1 q = σ q) → (∀ q, k + i ≤ q → q < k + i + mm → σ1 q = σc q) → (∀ q, k + i + mm ≤ q → σ1 q = σ q) → iS E B k (i + mm) L s σ1 H1 locs1 → W p l e R s m args below meth c H1 locs1 (cells + mc) (slots + ms) Q (F0 m (pc + 3) ls rest)) : W p l e R s m args below meth c H locs cells slots Q (F0 m pc ls (.ref (B + (k + i)) :: rest)) := by
  obtain ⟨⟨w2, w3, w4⟩, d0, d1, d2, d3⟩ := hL
  have hG : GoodIn (x0 :: AL) (Cond.code y b mL none :: AL) := AL_gi (fun w hw => by
    rcases List.mem_cons.mp hw with rfl | hw
    · exact w4
    · exact hw)
  refine i_back hM hi (va_runIN (As := []) (rest := rest) CX.1 hm ⟨va_cnB 0 CX.1.2.2.2.2 hG rfl hr.1 hr.2.1 hnw (i_hts CX w3) ⟨d1, d2, d3⟩ hr.2.2, d0, i_hts CX w2⟩ (i_pre CX hM hi) rfl rfl hls rfl (lv_room (pc := pc) hW) hdg hcs) kk
end ICALL
/-! the class's shapes, references set or not -/
def fh1 (B k : Nat) (f : Nat → Int32) : List Value := [rv (f 0) (B + (k + 1)), rv (f 1) (B + (k + 2)), rv (f 2) (B + (k + 3)), rv (f 3) (B + (k + 4)), .int (f 4), .int (f 5)]
def fh2 (B k : Nat) (f : Nat → Int32) : List Value := [rv (f 0) (B + (k + 1)), .int (f 1), .int (f 2)]
def fh3 (B k : Nat) (f : Nat → Int32) : List Value := [rv (f 0) (B + (k + 1)), .int (f 1), .int (f 2), .int (f 3), .int (f 4), .int (f 5), .int (f 6), .int (f 7), .int (bz (f 8)), .int (bz (f 9)), .int (bz (f 10)), .int (f 11), .int (f 12), .int (f 13), .int (f 14), .int (f 15), .int (f 16), .int (f 17)]
def fh4 (B k : Nat) (f : Nat → Int32) : List Value := [rv (f 0) (B + (k + 1)), rv (f 1) (B + (k + 2)), .int (f 2)]
def fh5 (B k : Nat) (f : Nat → Int32) : List Value := [rv (f 0) (B + (k + 1)), .int (f 1), .int (f 2)]
def fh6 (B k : Nat) (f : Nat → Int32) : List Value := [rv (f 0) (B + (k + 1)), rv (f 1) (B + (k + 20)), rv (f 2) (B + (k + 39)), rv (f 3) (B + (k + 155)), rv (f 4) (B + (k + 157))]
def fhX (E : xE) (B k : Nat) (f : Nat → Int32) (K : Nat) : va_E := match K with
  | 0 => .inr (0, sh0 f)
  | 1 => .inr (1, fh1 B k f)
  | 2 => .inr (2, fh2 B k f)
  | 3 => .inr (3, fh3 B k f)
  | 4 => .inr (4, fh4 B k f)
  | 5 => .inr (5, fh5 B k f)
  | 6 => .inr (6, fh6 B k f)
  | 10 => .inl (E.2.1 0, 7, .inl f)
  | 11 => .inl (E.2.1 2, 6, .inr (.inr (.inr (.inr (fun j => rq (f j) (B + (k + 5 + 2 * j)))))))
  | 12 => .inl (E.2.1 0, 36, .inl f)
  | 13 => .inl (E.2.1 0, 12, .inl f)
  | 14 => .inl (E.2.1 3, 6, .inr (.inr (.inr (.inr (fun j => rq (f j) (B + (k + 1 + 19 * j)))))))
  | 15 => .inl (E.2.1 0, 100, .inl f)
  | _ => .inl (E.2.1 0, 0, .inl f)
def layF (E : xE) (B : Nat) (k : Nat) (f : Nat → Int32) : va_E := fhX E B k f (kd k)
/-- what the constructors leave -/
def zK (K : Nat) : Nat → Int32 := match K with
  | 1 => fun j => if j < 4 then 1 else 0
  | 2 => fun j => if j < 1 then 1 else 0
  | 3 => fun j => if j < 1 then 1 else 0
  | 4 => fun j => if j < 2 then 1 else 0
  | 5 => fun j => if j < 1 then 1 else 0
  | 6 => fun j => if j < 5 then 1 else 0
  | 10 => stI 0
  | 11 => fun _ => 1
  | 14 => fun _ => 1
  | _ => fun _ => 0
def zF : xM := fun k => zK (kd k)
def z0 : xM := fun _ _ => 0
theorem lf {E : xE} {B k K : Nat} (h : kd k = K) (f : Nat → Int32) : layF E B k f = fhX E B k f K := by unfold layF; rw [h]
theorem zf {k K : Nat} (h : kd k = K) : zF k = zK K := by unfold zF; rw [h]
theorem lay_end {E : xE} {B k : Nat} (hk : k < 160) : layF E B k (zF k) = layX E B k (zF k) := by
  have hK : kd k ∈ [0, 1, 2, 3, 4, 5, 6, 10, 11, 12, 13, 14, 15] := (by decide +kernel : ∀ k, k < 160 → kd k ∈ [0, 1, 2, 3, 4, 5, 6, 10, 11, 12, 13, 14, 15]) k hk
  unfold layF layX zF
  generalize kd k = K at hK
  simp only [List.mem_cons, List.not_mem_nil, or_false] at hK
  rcases hK with rfl | rfl | rfl | rfl | rfl | rfl | rfl | rfl | rfl | rfl | rfl | rfl | rfl <;> rfl
