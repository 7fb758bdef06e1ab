def nY : Nat → Int32 := (upd (upd (upd (upd (upd (upd (upd (fun _ => 0) 0 25) 1 1000) 2 5) 3 10) 4 7) 5 45000) 6 15)
def gY : Nat → Int32 := (upd (upd (upd (upd (upd (upd (fun _ => 0) 0 1) 1 1) 3 1) 5 1) 6 1) 10 1)
def zKY (K : Nat) : Nat → Int32 := match K with
  | 7 => gY
  | 20 => nY
  | _ => fun _ => 0
def zY : xM := fun k => zKY (kdY k)
theorem zy {k K : Nat} (h : kdY k = K) : zY k = zKY K := by unfold zY; rw [h]
/-! the first states agree -/
theorem nY_hi {j : Nat} (h : 7 ≤ j) : nY j = 0 := by
  unfold nY
  rw [upd_ne (by omega), upd_ne (by omega), upd_ne (by omega), upd_ne (by omega), upd_ne (by omega), upd_ne (by omega), upd_ne (by omega)]
theorem nY_lo {j : Nat} (h : j < 7) : nY j = stI 0 j := by
  have hj : j = 0 ∨ j = 1 ∨ j = 2 ∨ j = 3 ∨ j = 4 ∨ j = 5 ∨ j = 6 := by omega
  rcases hj with rfl | rfl | rfl | rfl | rfl | rfl | rfl <;> simp [nY, upd, stI]
theorem zY1 : zY 1 = nY := rfl
theorem zY0 : zY 0 = gY := rfl
theorem GG_start : GG zF zY := by
  have n0 : (0 : Int32) = nI 0 := rfl
  refine ⟨⟨0, 0, 0, by omega, ⟨fun j hj => ?_, rfl, ?_, ⟨rfl, fun j hj => by omega⟩, fun i hi => ?_, fun r hr => by omega⟩, ⟨by omega, by omega, ?_, ?_, ⟨?_, ?_⟩, ⟨by omega, ?_, fun j hj => by omega, fun j hj => by omega, fun j hj => by omega⟩, ?_, fun r hr => by omega, fun r h0 h6 f hf => ?_⟩⟩, ⟨0, 0, by omega, by omega, ?_, rfl, rfl, fun i hi => by omega⟩, ⟨0, by omega, ?_, rfl, fun i hi => by omega⟩⟩
  · rw [zY1, nY_lo hj]; rfl
  · rw [zY1, nY_hi (by omega)]; rfl
  · rw [zY1, nY_hi (by omega)]; rfl
  · rw [zY1, nY_hi (by omega)]; rfl
  · rw [zY1, nY_hi (by omega)]; rfl
  · rw [zY1, nY_lo (by omega)]; decide
  · rw [zY1, nY_lo (by omega)]; decide
  · rw [zY1, nY_hi (by omega)]; rfl
  · intro a b ha hb
    rw [zY1, nY_hi (by omega), nY_hi (by omega)]
    exact ⟨by decide, rfl, fun _ => rfl, fun _ => rfl⟩
  · show zY 1 (70 + 21 * r + f) = 0
    rw [zY1, nY_hi (by omega)]
  · rw [zY0]; simp [gY, upd, nI]
  · rw [zY0]; simp [gY, upd, nI]
