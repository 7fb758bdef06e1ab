/-! the law's rows -/
section LROW
variable {p : Program} {l : Launch} {e : Env} {R : Room} {s : State} {m : MethodId} {args : Array Value} {below : List Frame} {meth : Method} {c : Code} {H : Heap} {locs : List Loc} {cells slots : Nat} {Q : State → Prop}
variable {cc : ByteArray} {pc nL : Nat} {ls : Array Slot} {rest : List Value} {E : xE} {B B1 n : Nat} {lay : Nat → (Nat → Int32) → va_E} {σ : xM} {x0 : Cond} {own : String}
variable {y : MethodName} {b : ByteArray} {mL index na : Nat} {ret : Option FieldType} {rm : Room} {As st0 : List Value} {v : Option Value} {σ' : xM}
theorem l_call (S : CallFix p m c cc nL s args (x0 :: AL) own) (hE : Ev E (iA B) s s.heap) (hP : va_P E.1 vwCl (wl B1 lay n σ) H) (hS : va_S (iA B) s.heap H locs) (hB : B ≤ B1) (hk : 0 < n) {ci : Nat} {fs : List Value} {T : u_T} {N : Nat} (hlay : lay 0 (σ 0) = .inr (ci, fs)) (hc : vwCl[ci]? = some (y.cls, T, N)) (hL : xLV own index y b mL ret na)
    (hm : Met l y (Cond.code y b mL ret :: AL) rm (xP E B1 n lay (.ref (B1 + 0) :: As) σ) (xQ E B1 n lay v σ') 0 0 (wA B1 n)) (hr : rm.cells = 0 ∧ rm.slots = 0 ∧ rm.frames + 1 ≤ R.frames ∧ 8 + (mL + 11) + rm.locals ≤ R.locals) (hcs : cells ≤ R.cells ∧ slots ≤ R.slots) (hn : As.length = na) (hls : ls.size = nL) (hst : st0 = As.reverse ++ .ref (B1 + 0) :: rest) (hW : (rest.map fun v => v.category).sum ≤ 8) (hdg : decode cc pc = .ok (.invokevirtual index, 3))
    (kk : ∀ (H1 : Heap) (locs1 : List Loc), va_P E.1 vwCl (wl B1 lay n σ') H1 → (∀ q, q < H.size → ¬ wA B1 n q → H1[q]? = H[q]?) → va_S (iA B) s.heap H1 locs1 → W p l e R s m args below meth c H1 locs1 cells slots Q (F0 m (pc + 3) ls (v.toList ++ rest))) : W p l e R s m args below meth c H locs cells slots Q (F0 m pc ls st0) := by
  subst hst
  obtain ⟨⟨w1, w2, w3, w4, w5⟩, d1, d2, d3⟩ := hL
  have hA : ∀ q, wA B1 n q → iA B q := fun q h => Nat.le_trans hB h.1
  have hgi : GoodIn (x0 :: AL) (wsV own index y.cls y (Cond.code y b mL ret :: AL)) := AL_gi (fun w hw => by
    unfold wsV at hw
    rcases List.mem_append.mp hw with hw | hw
    · simp only [List.mem_cons, List.not_mem_nil, or_false] at hw
      rcases hw with rfl | rfl | rfl | rfl <;> assumption
    · rcases List.mem_cons.mp hw with rfl | hw
      · exact w5
      · exact hw)
  have hrun := va_runV (l := l) (e := e) (below := below) (meth := meth) (H := H) (locs := locs) (cells := cells) (slots := slots) (b := B1 + 0) (As := As) (rest := rest) (C := y.cls) (R := R) (g := F0 m pc ls (As.reverse ++ .ref (B1 + 0) :: rest)) S hm (cwV na S.2.2.2.2 hgi rfl hr.1 hr.2.1 ⟨rfl, d1, d2, d3⟩ hr.2.2)
    ⟨fun a U g mk q => ⟨q.1, Ev.call q.2.1, q.2.2⟩, va_recv hE.1 hP hc (by rw [wl_get hk, hlay]), fun U hU hW => ⟨rfl, by rw [hU]; exact ((hE.warm hW).kept hS.2.1).mono hA, by rw [hU]; exact hP⟩⟩ rfl hn hls rfl (lv_room (pc := pc) hW) hdg ⟨hcs.1, hcs.2⟩
  intro T hT X
  obtain ⟨v', st₀, t, T', Lx, h0, X', hLx, e1, e2, ⟨⟨hv, hb⟩, hz, hkq⟩, st⟩ := hrun T hT X
  cases hv
  rw [h0] at hz hkq
  obtain ⟨t2, a1, b1⟩ := kk T'.heap (locs ++ Lx) (by rw [e1]; exact hb) (fun q h1 h2 => by rw [e1]; exact hkq q h1 h2) ⟨Nat.le_trans hS.1 (by rw [e1]; exact hz), fun q h1 h2 => by rw [e1, hkq q (Nat.lt_of_lt_of_le h1 hS.1) (fun z => h2 (hA q z))]; exact hS.2.1 q h1 h2, fun q hq => by
      rcases List.mem_append.mp hq with h | h
      · exact hS.2.2 q h
      · exact hA _ (hLx q h)⟩ T' rfl X'
  exact ⟨t2, st t2 a1, b1⟩
end LROW
def lS (E : xE) (B : Nat) (s : State) (σ τ : xM) (H : Heap) (locs : List Loc) : Prop := va_P E.1 vwCl (wl B (layX E B) 160 σ) H ∧ va_P E.1 vwCl (wl (B + 160) (layY E (B + 160)) 7 τ) H ∧ va_S (iA B) s.heap H locs
theorem lS_x {E : xE} {B : Nat} {s : State} {σ τ σ' : xM} {H H1 : Heap} {locs locs1 : List Loc} (h : lS E B s σ τ H locs) (h1 : va_P E.1 vwCl (wl B (layX E B) 160 σ') H1) (h2 : ∀ q, q < H.size → ¬ wA B 160 q → H1[q]? = H[q]?) (h3 : va_S (iA B) s.heap H1 locs1) : lS E B s σ' τ H1 locs1 := by
  refine ⟨h1, h.2.1.kept (fun k q hk => ?_), h3⟩
  have hlt := (h.2.1 k q hk).lt
  obtain ⟨hk7, rfl⟩ := wl_inv hk
  refine h2 _ hlt (fun z => ?_)
  have : B + 160 + k < B + 160 := z.2
  omega
theorem lS_y {E : xE} {B : Nat} {s : State} {σ τ τ' : xM} {H H1 : Heap} {locs locs1 : List Loc} (h : lS E B s σ τ H locs) (h1 : va_P E.1 vwCl (wl (B + 160) (layY E (B + 160)) 7 τ') H1) (h2 : ∀ q, q < H.size → ¬ wA (B + 160) 7 q → H1[q]? = H[q]?) (h3 : va_S (iA B) s.heap H1 locs1) : lS E B s σ τ' H1 locs1 := by
  refine ⟨h.1.kept (fun k q hk => ?_), h1, h3⟩
  have hlt := (h.1 k q hk).lt
  obtain ⟨hk7, rfl⟩ := wl_inv hk
  refine h2 _ hlt (fun z => ?_)
  have : B + 160 ≤ B + k := z.1
  omega
