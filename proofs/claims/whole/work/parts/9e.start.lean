/-! the first states agree -/
theorem nY_hi {j : Nat} (h : 7 ≤ j) : nY j = 0 := by
  unfold nY
  rw [upd_ne (by omega), upd_ne (by omega), upd_ne (by omega), upd_ne (by omega), upd_ne (by omega), upd_ne (by omega), upd_ne (by omega)]
theorem nY_lo {j : Nat} (h : j < 7) : nY j = stI 0 j := by
  have hj : j = 0 ∨ j = 1 ∨ j = 2 ∨ j = 3 ∨ j = 4 ∨ j = 5 ∨ j = 6 := by omega
  rcases hj with rfl | rfl | rfl | rfl | rfl | rfl | rfl <;> simp [nY, upd, stI]
theorem zY1 : zY 1 = nY := rfl
theorem zY0 : zY 0 = gY := rfl
theorem GG_start : GG zF zY := by
  have n0 : (0 : Int32) = nI 0 := rfl
  refine ⟨⟨0, 0, 0, by omega, ⟨fun j hj => ?_, rfl, ?_, ⟨rfl, fun j hj => by omega⟩, fun i hi => ?_, fun r hr => by omega⟩, ⟨by omega, by omega, ?_, ?_, ⟨?_, ?_⟩, ⟨by omega, ?_, fun j hj => by omega, fun j hj => by omega, fun j hj => by omega⟩, ?_, fun r hr => by omega, fun r h0 h6 f hf => ?_⟩⟩, ⟨0, 0, by omega, by omega, ?_, rfl, rfl, fun i hi => by omega⟩, ⟨0, by omega, ?_, rfl, fun i hi => by omega⟩⟩
  · rw [zY1, nY_lo hj]; rfl
  · rw [zY1, nY_hi (by omega)]; rfl
  · rw [zY1, nY_hi (by omega)]; rfl
  · rw [zY1, nY_hi (by omega)]; rfl
  · rw [zY1, nY_hi (by omega)]; rfl
  · rw [zY1, nY_lo (by omega)]; decide
  · rw [zY1, nY_lo (by omega)]; decide
  · rw [zY1, nY_hi (by omega)]; rfl
  · intro a b ha hb
    rw [zY1, nY_hi (by omega), nY_hi (by omega)]
    exact ⟨by decide, rfl, fun _ => rfl, fun _ => rfl⟩
  · show zY 1 (70 + 21 * r + f) = 0
    rw [zY1, nY_hi (by omega)]
  · rw [zY0]; simp [gY, upd, nI]
  · rw [zY0]; simp [gY, upd, nI]
/-! both worlds in one, while they are made -/
def layL (E : xE) (B : Nat) : Nat → (Nat → Int32) → va_E := fun c f => if c < 160 then layF E B c f else layG E (B + 160) (c - 160) f
theorem wS_L1 {E : xE} {B n : Nat} {σ : xM} (hn : n ≤ 160) : wS B 0 n (layL E B) σ = wS B 0 n (layF E B) σ := by
  apply List.ext_getElem?
  intro j
  by_cases hj : j < n
  · rw [wS_get hj, wS_get hj]
    unfold layL
    rw [if_pos (by omega)]
  · rw [List.getElem?_eq_none (by simp [wS]; omega), List.getElem?_eq_none (by simp [wS]; omega)]
theorem wS_L2 {E : xE} {B n : Nat} {σ : xM} : wS B 160 n (layL E B) σ = wS (B + 160) 0 n (layG E (B + 160)) (fun q => σ (160 + q)) := by
  apply List.ext_getElem?
  intro j
  by_cases hj : j < n
  · rw [wS_get hj, wS_get hj]
    unfold layL
    rw [if_neg (by omega), show 160 + j - 160 = 0 + j by omega, show B + (160 + j) = B + 160 + (0 + j) by omega, show 160 + (0 + j) = 160 + j by omega]
  · rw [List.getElem?_eq_none (by simp [wS]; omega), List.getElem?_eq_none (by simp [wS]; omega)]
theorem n_X6L (l : Launch) (E : xE) (B : Nat) {σ : xM} (hz : ∀ q, 0 ≤ q → σ q = fun _ => 0) : Met l yX6_init (Cond.code yX6_init cX6_init 1 none :: AL) rm_i6 (iP E B 0 (layL E B) σ) (iQ E B 0 160 (layL E B) zF) 159 1899 (iA (B + 0)) := by
  have h := n_X6 l E B (k := 0) (σ := σ) rfl hz
  have e1 : iP E B 0 (layL E B) σ = iP E B 0 (layF E B) σ := by unfold iP; rw [wS_L1 (by omega)]
  have e2 : iQ E B 0 160 (layL E B) zF = iQ E B 0 160 (layF E B) zF := by unfold iQ; rw [wS_L1 (by omega)]
  rw [e1, e2]
  exact h
def zL : xM := fun q => if q < 160 then zF q else zY (q - 160)
theorem n_X7L (l : Launch) (E : xE) (B : Nat) {σ : xM} (hz : ∀ q, 160 ≤ q → σ q = fun _ => 0) : Met l yX7_init (Cond.code yX7_init cX7_init 1 none :: AL) rm_i7 (iP E B 160 (layL E B) σ) (iQ E B 160 7 (layL E B) zL) 6 1698 (iA (B + 160)) := by
  have h := n_X7 l E (B + 160) (k := 0) (σ := fun q => σ (160 + q)) rfl (fun q hq => hz _ (by omega))
  have e1 : iP E B 160 (layL E B) σ = iP E (B + 160) 0 (layG E (B + 160)) (fun q => σ (160 + q)) := by
    unfold iP
    rw [wS_L2]
  have ez : (fun q => zL (160 + q)) = zY := by
    funext q
    unfold zL
    rw [if_neg (by omega), show 160 + q - 160 = q by omega]
  have e2 : iQ E B 160 7 (layL E B) zL = iQ E (B + 160) 0 7 (layG E (B + 160)) zY := by
    unfold iQ
    rw [wS_L2, ez]
  rw [e1, e2]
  exact h
theorem L_end {E : xE} {B : Nat} {σ : xM} {H : Heap} (h : va_P E.1 vwCl (wS B 0 167 (layL E B) σ) H) (h1 : ∀ q, q < 160 → σ q = zF q) (h2 : ∀ q, 160 ≤ q → q < 167 → σ q = zL q) :
    va_P E.1 vwCl (wl B (layX E B) 160 zF) H ∧ va_P E.1 vwCl (wl (B + 160) (layY E (B + 160)) 7 zY) H := by
  constructor
  · intro j q hj
    obtain ⟨hjn, rfl⟩ := wl_inv hj
    have := h j _ (wS_get (show j < 167 by omega))
    rw [Nat.zero_add, h1 j hjn] at this
    unfold layL at this
    rw [if_pos hjn, lay_end hjn] at this
    exact this
  · intro j q hj
    obtain ⟨hjn, rfl⟩ := wl_inv hj
    have := h (160 + j) _ (wS_get (show 160 + j < 167 by omega))
    rw [Nat.zero_add, h2 (160 + j) (by omega) (by omega)] at this
    unfold layL zL at this
    rw [if_neg (by omega), if_neg (by omega), show 160 + j - 160 = j by omega, lay_endY hjn, show B + (160 + j) = B + 160 + j by omega] at this
    exact this
