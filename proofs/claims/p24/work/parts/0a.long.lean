section LONG
variable {p : Program} {l : Launch} {e : Env} {R : Room} {s : State} {m : MethodId} {args : Array Value} {below : List Frame} {meth : Method} {c : Code} {H : Heap} {locs : List Loc} {Q : State → Prop}
variable {cc : ByteArray} {pc nL : Nat} {ls : Array Slot} {rest : List Value} {E : xE} {B n : Nat} {lay : Nat → (Nat → Int32) → va_E} {σ : xM} {x0 : Cond} {own : String}
theorem x_lret {x : Int64} {v : Option Value} (CX : xCX p m c cc nL s args x0 own E B n) (hr : meth.sig.returnType = some .long) (hlk : meth.locks = false) (hM : xS E B n lay s σ H locs) (hv : v = some (.long x)) (hdg : decode cc pc = .ok (.lreturn, 1)) :
    W p l e R s m args below meth c H locs 0 0 (MQ below (xQ E B n lay v σ) args s 0 0 (wA B n)) (F0 m pc ls [.long x]) := by
  subst hv
  exact W.lret CX.1.1 CX.1.2.1 hr (fun t ht _ => ⟨⟨rfl, by rw [ht]; exact hM.1⟩, hM.2.F ht⟩) hM.2.2.2 hdg hlk
end LONG
