/-! the class: a colony at cell k, its room r at k + 7 + 2 r -/
theorem kd_room {k r : Nat} (h : kd k = 1) (hr : r < 6) : kd (k + 7 + 2 * r) = 3 :=
  (by decide +kernel : ∀ k, k < 160 → kd k = 1 → ∀ r, r < 6 → kd (k + 7 + 2 * r) = 3) k (kd_lt (by omega)) h r hr
theorem c_room {k n r : Nat} {σ : xM} (h4 : σ k 4 = nI n) (hr : r < n) (hn : n ≤ 6) : F_X1_roomAt k (nI r) σ = some (some (k + 7 + 2 * r), σ) := by
  unfold F_X1_roomAt
  rw [if_neg (nI_pos (by omega)), h4, if_neg (nI_ge hr (by omega)), if_neg (show ¬ (6 : Int32) ≤ nI r from nI_ge (b := 6) (by omega) (by omega)), if_pos (inb_nI (by omega) (by omega)), cl_nI (by omega)]
theorem c_noroom {k n : Nat} {σ : xM} {x : Int32} (h4 : σ k 4 = nI n) (h : x < 0 ∨ nI n ≤ x) : F_X1_roomAt k x σ = some (none, σ) := by
  unfold F_X1_roomAt
  by_cases h0 : x < 0
  · rw [if_pos h0]
  · rw [if_neg h0, h4, if_pos (h.resolve_left h0)]
theorem c_num {k j : Nat} {σ : xM} (hj : j < 7) : F_X1_number k (nI j) σ = some (σ (k + 1) j, σ) := by
  unfold F_X1_number
  rw [if_neg (nI_pos (by omega)), if_neg (show ¬ (7 : Int32) ≤ nI j from nI_ge (b := 7) (by omega) (by omega)), if_pos (inb_nI (by omega) (by omega)), cl_nI (by omega)]
theorem c_num0 {k : Nat} {σ : xM} : F_X1_number k 0 σ = some (σ (k + 1) 0, σ) := c_num (j := 0) (by omega)
theorem c_num1 {k : Nat} {σ : xM} : F_X1_number k 1 σ = some (σ (k + 1) 1, σ) := c_num (j := 1) (by omega)
theorem c_num2 {k : Nat} {σ : xM} : F_X1_number k 2 σ = some (σ (k + 1) 2, σ) := c_num (j := 2) (by omega)
theorem c_num3 {k : Nat} {σ : xM} : F_X1_number k 3 σ = some (σ (k + 1) 3, σ) := c_num (j := 3) (by omega)
theorem c_num4 {k : Nat} {σ : xM} : F_X1_number k 4 σ = some (σ (k + 1) 4, σ) := c_num (j := 4) (by omega)
theorem c_num5 {k : Nat} {σ : xM} : F_X1_number k 5 σ = some (σ (k + 1) 5, σ) := c_num (j := 5) (by omega)
theorem c_num6 {k : Nat} {σ : xM} : F_X1_number k 6 σ = some (σ (k + 1) 6, σ) := c_num (j := 6) (by omega)
/-- floorDiv by a number above 0 is the reference's way to round down -/
theorem xor_neg {a b : Int32} (hb : 0 < b) : 0 ≤ (a ^^^ b) ↔ 0 ≤ a := by
  have key : ∀ x : Int32, 0 ≤ x ↔ x.toBitVec.msb = false := by
    intro x
    rw [i_le]
    show (0 : Int) ≤ x.toBitVec.toInt ↔ _
    rw [BitVec.toInt_eq_msb_cond]
    have := x.toBitVec.isLt
    cases h : x.toBitVec.msb
    · simp
    · simp
      omega
  have hb0 : b.toBitVec.msb = false := by
    rw [← key]
    rw [i_lt] at hb
    rw [i_le]
    exact Int.le_of_lt hb
  rw [key, key, Int32.toBitVec_xor, BitVec.msb_xor, hb0]
  simp
theorem c_fdiv {q c : Int32} {σ : xM} (hc : 0 < c) : F_J9_floorDiv_7cf53 (1000 * q) c σ = some (degI q c, σ) := by
  have hc0 : ¬ c = 0 := by intro h; rw [h] at hc; exact absurd hc (by decide)
  simp only [F_J9_floorDiv_7cf53, degI, nm_eq]
  rw [if_neg hc0]
  by_cases h : 0 ≤ 1000 * q
  · rw [if_pos ((xor_neg hc).mpr h), if_pos h]
  · rw [if_neg (fun z => h ((xor_neg hc).mp z)), if_neg h]
    by_cases h2 : (1000 * q) / c * c = 1000 * q
    · rw [if_pos h2, if_pos (by rw [h2]; simp)]
    · rw [if_neg h2, if_neg (by
        intro z
        apply h2
        have := Int32.sub_eq_iff_eq_add.mp z
        rw [Int32.zero_add] at this
        exact this.symm)]
theorem c_temp {k : Nat} {σ : xM} {q : Int32} (hc : 0 < σ k 1) : F_X3_temperatureWith k q σ = some (degI q (σ k 1), σ) := by
  unfold F_X3_temperatureWith
  rw [if_neg (by rw [i_le, i_lt] at *; omega), c_fdiv hc, bd_some]
theorem c_temp0 {k : Nat} {σ : xM} (hc : 0 < σ k 1) : F_X3_temperature k σ = some (degI (σ k 4) (σ k 1), σ) := by
  unfold F_X3_temperature
  rw [c_temp hc, bd_some]
/-- a room of the class and a row of the reference -/
def RR (g b v : Nat → Int32) : Prop :=
  (g 1 = v 0 ∧ g 4 = v 1 ∧ g 2 = v 2 ∧ g 3 = v 3 ∧ g 5 = v 4 ∧ g 6 = v 5 ∧ g 7 = v 6) ∧ (bz (g 8) = v 7 ∧ bz (g 9) = v 8 ∧ g 11 = v 9 ∧ g 12 = v 10 ∧ g 13 = v 11 ∧ g 15 = v 12 ∧ g 16 = v 13) ∧
  (bz (g 10) = v 14 ∧ g 14 = v 15 ∧ b 0 = v 16 ∧ b 1 = v 17 ∧ b 2 = v 18 ∧ b 3 = v 19 ∧ b 4 = v 20)
def cls38 (N : Nat → Int32) (t : Int32) (g : Nat → Int32) : Nat → Int32 :=
  if g 11 + g 2 < N 1 then upd (upd (upd (upd g 8 1) 13 (g 13 + 1)) 14 t) 11 (g 11 + g 2) else upd (upd (upd (upd (upd g 8 1) 13 (g 13 + 1)) 14 t) 11 (g 11 + g 2)) 9 1
def clsF (N : Nat → Int32) (t : Int32) (g : Nat → Int32) : Nat → Int32 :=
  if g 13 ≤ 0 then g else if N 3 ≤ t - g 14 then g else upd g 15 (g 15 + N 4)
def clsG (N : Nat → Int32) (t : Int32) (g : Nat → Int32) : Nat → Int32 := cls38 N t (clsF N t g)
theorem c_close38 {k c : Nat} {σ : xM} {g : Nat → Int32} (h1 : k ≠ c) (h2 : k + 1 ≠ c) : F_X1_close_J38 k c (upc σ c g) = some ((), upc σ c (cls38 (σ (k + 1)) (σ k 5) g)) := by
  simp only [F_X1_close_J38, nm_eq, xup_upc, upc_same, upc_upc, c_num1, bd_some, upc_ne h1, upc_ne h2]
  simp only [upd_same, upd_ne, ne_eq, Nat.reduceEqDiff, not_false_eq_true]
  by_cases a : g 11 + g 2 < σ (k + 1) 1
  · rw [if_pos a]; unfold cls38; rw [if_pos a]
  · rw [if_neg a]; unfold cls38; rw [if_neg a]
theorem c_closeA {k c : Nat} {σ : xM} (a : σ c 13 ≤ 0) : F_X1_close k c σ = F_X1_close_J38 k c σ := by
  unfold F_X1_close
  rw [if_pos a]
theorem c_closeB {k c : Nat} {σ : xM} (a : ¬ σ c 13 ≤ 0) (b : σ (k + 1) 3 ≤ σ k 5 - σ c 14) : F_X1_close k c σ = F_X1_close_J38 k c σ := by
  unfold F_X1_close
  rw [if_neg a, c_num3, bd_some, if_pos b]
theorem c_closeC {k c : Nat} {σ : xM} (a : ¬ σ c 13 ≤ 0) (b : ¬ σ (k + 1) 3 ≤ σ k 5 - σ c 14) : F_X1_close k c σ = F_X1_close_J38 k c (xup σ c 15 (σ c 15 + σ (k + 1) 4)) := by
  unfold F_X1_close
  rw [if_neg a, c_num3, bd_some, if_neg b, c_num4, bd_some, nm_eq]
theorem c_close {k c : Nat} {σ : xM} {g : Nat → Int32} (h1 : k ≠ c) (h2 : k + 1 ≠ c) : F_X1_close k c (upc σ c g) = some ((), upc σ c (clsG (σ (k + 1)) (σ k 5) g)) := by
  have e1 : upc σ c g c = g := upc_same
  have e2 : upc σ c g k = σ k := upc_ne h1
  have e3 : upc σ c g (k + 1) = σ (k + 1) := upc_ne h2
  unfold clsG clsF
  by_cases a : g 13 ≤ 0
  · rw [c_closeA (by rw [e1]; exact a), if_pos a]
    exact c_close38 h1 h2
  · by_cases b : σ (k + 1) 3 ≤ σ k 5 - g 14
    · rw [c_closeB (by rw [e1]; exact a) (by rw [e1, e2, e3]; exact b), if_neg a, if_pos b]
      exact c_close38 h1 h2
    · rw [c_closeC (by rw [e1]; exact a) (by rw [e1, e2, e3]; exact b), if_neg a, if_neg b, e1, e3, xup_upc, e1, upc_upc]
      exact c_close38 h1 h2
theorem RR_cls {N : Nat → Int32} {t : Int32} {g b v : Nat → Int32} (h : RR g b v) (hL : g 13 ≤ 0 ↔ v 15 = -1000009) : RR (clsG N t g) b (clsV N t v) := by
  obtain ⟨⟨a0, a1, a2, a3, a4, a5, a6⟩, ⟨a7, a8, a9, a10, a11, a12, a13⟩, ⟨a14, a15, a16, a17, a18, a19, a20⟩⟩ := h
  have a8' := a8
  rw [a11] at hL
  by_cases c1 : v 15 = -1000009 <;> by_cases c2 : N 3 ≤ t - v 15 <;> by_cases c3 : v 9 + v 2 < N 1 <;>
    simp [RR, clsG, clsF, cls38, clsV, c1, c2, c3, hL, upd, a0, a1, a2, a3, a4, a5, a6, a7, a8, a9, a10, a11, a12, a13, a14, a15, a16, a17, a18, a19, a20, bz_1]
def opnG (N : Nat → Int32) (g : Nat → Int32) : Nat → Int32 :=
  if bz (g 9) = 0 then upd g 8 0
  else if g 12 + 1 < N 2 then upd g 12 (g 12 + 1) else upd (upd (upd (upd (upd g 12 (g 12 + 1)) 8 0) 9 0) 12 0) 11 (g 11 / 2)
theorem c_open {k c : Nat} {σ : xM} {g : Nat → Int32} : F_X3_tryToOpen c (σ (k + 1) 2) (upc σ c g) = some ((), upc σ c (opnG (σ (k + 1)) g)) := by
  simp only [F_X3_tryToOpen, nm_eq, xup_upc, upc_same, upc_upc]
  simp only [upd_same, upd_ne, ne_eq, Nat.reduceEqDiff, not_false_eq_true]
  unfold opnG
  split
  · rfl
  · split <;> rfl
theorem RR_opn {N : Nat → Int32} {g b v : Nat → Int32} (h : RR g b v) : RR (opnG N g) b (opnV N v).2 := by
  obtain ⟨⟨a0, a1, a2, a3, a4, a5, a6⟩, ⟨a7, a8, a9, a10, a11, a12, a13⟩, ⟨a14, a15, a16, a17, a18, a19, a20⟩⟩ := h
  have hw : v 8 = 0 ∨ v 8 = 1 := by rw [← a8]; exact bz_cases _
  unfold RR opnG opnV
  simp only [a8, a10, a9]
  have hc : v 10 + 1 < N 2 ↔ ¬ N 2 ≤ v 10 + 1 := by rw [i_lt, i_le]; omega
  rcases hw with c1 | c1 <;> by_cases c2 : N 2 ≤ v 10 + 1 <;>
    simp [c1, c2, hc, upd, a0, a1, a2, a3, a4, a5, a6, a7, a8, a9, a10, a11, a12, a13, a14, a15, a16, a17, a18, a19, a20, bz_1, bz_0]
theorem bz1n : ¬ bz 1 = 0 := by decide
theorem c_hot0 {c : Nat} {σ : xM} (h : σ c 7 < σ c 5 + σ c 6) : F_X3_isBladeHot c σ = some (0, σ) := by unfold F_X3_isBladeHot; rw [if_pos h]
theorem c_hot1 {c : Nat} {σ : xM} (h : ¬ σ c 7 < σ c 5 + σ c 6) : F_X3_isBladeHot c σ = some (1, σ) := by unfold F_X3_isBladeHot; rw [if_neg h]
theorem c_cold0 {c : Nat} {σ : xM} (h : σ c 5 - σ c 6 < σ c 7) : F_X3_isBladeCold c σ = some (0, σ) := by unfold F_X3_isBladeCold; rw [if_pos h]
theorem c_cold1 {c : Nat} {σ : xM} (h : ¬ σ c 5 - σ c 6 < σ c 7) : F_X3_isBladeCold c σ = some (1, σ) := by unfold F_X3_isBladeCold; rw [if_neg h]
theorem c_s118 {c : Nat} {v2 y : Int32} {σ : xM} : F_X1_settle_J118 c v2 y σ = some (if bz (σ c 8) = v2 then 0 else 1, upc σ c (upd (σ c) 16 y)) := by
  unfold F_X1_settle_J118
  rw [nm_eq, xup_upc, upc_same, upd_ne (by omega)]
  split <;> rfl
def stkG (g : Nat → Int32) : Nat → Int32 := upd g 16 (if bz (g 8) = 0 then 0 else if g 7 < g 5 + g 6 then 0 else g 16 + 1)
theorem c_s93 {c : Nat} {v2 : Int32} {σ : xM} : F_X1_settle_J93 c v2 σ = some (if bz (σ c 8) = v2 then 0 else 1, upc σ c (stkG (σ c))) := by
  unfold F_X1_settle_J93 stkG F_X1_settle_J117
  by_cases h1 : bz (σ c 8) = 0
  · rw [if_pos h1, c_s118, if_pos h1]
  · rw [if_neg h1, if_neg h1]
    by_cases h2 : σ c 7 < σ c 5 + σ c 6
    · rw [if_pos h2, c_hot0 h2, bd_some]
      dsimp only
      rw [if_pos bz_0, c_s118]
    · rw [if_neg h2, c_hot1 h2, bd_some]
      dsimp only
      rw [if_neg bz1n, c_s118]
/-- what the class's contact does in a minute -/
def actG (N : Nat → Int32) (t : Int32) (g : Nat → Int32) : Nat → Int32 :=
  if bz (g 8) = 0 then (if g 5 - g 6 < g 7 then g else clsG N t g) else (if g 7 < g 5 + g 6 then g else opnG N g)
theorem c_s70 {k c : Nat} {v2 : Int32} {σ : xM} (h1 : bz (σ c 8) = 0) : F_X1_settle_J70 k c v2 σ = F_X1_settle_J93 c v2 σ := by
  unfold F_X1_settle_J70
  rw [if_pos h1]
theorem c_s70h {k c : Nat} {v2 : Int32} {σ : xM} (h1 : ¬ bz (σ c 8) = 0) (h2 : σ c 7 < σ c 5 + σ c 6) : F_X1_settle_J70 k c v2 σ = F_X1_settle_J93 c v2 σ := by
  unfold F_X1_settle_J70
  rw [if_neg h1, c_hot0 h2, bd_some]
  dsimp only
  rw [if_pos bz_0]
theorem c_s70o {k c : Nat} {v2 : Int32} {σ : xM} (h1 : ¬ bz (σ c 8) = 0) (h2 : ¬ σ c 7 < σ c 5 + σ c 6) (hk : k + 1 ≠ c) : F_X1_settle_J70 k c v2 σ = F_X1_settle_J93 c v2 (upc σ c (opnG (σ (k + 1)) (σ c))) := by
  unfold F_X1_settle_J70
  rw [if_neg h1, c_hot1 h2, bd_some]
  dsimp only
  rw [if_neg bz1n, c_num2, bd_some]
  dsimp only
  have e := c_open (k := k) (c := c) (σ := σ) (g := σ c)
  rw [upc_self] at e
  rw [e, bd_some]
theorem c_s24 {k c : Nat} {v2 T : Int32} {σ : xM} (hk : k ≠ c) (hk1 : k + 1 ≠ c) :
    F_X1_settle_J24 k c v2 T σ = F_X1_settle_J93 c v2 (upc σ c (actG (σ (k + 1)) (σ k 5) (upd (σ c) 7 (σ c 7 + ((T - σ c 7) * σ (k + 1) 0) / 100)))) := by
  unfold F_X1_settle_J24
  rw [c_num0, bd_some, nm_eq]
  show (if bz ((xup σ c 7 (σ c 7 + ((T - σ c 7) * σ (k + 1) 0) / 100)) c 8) = 0 then _ else F_X1_settle_J70 k c v2 (xup σ c 7 (σ c 7 + ((T - σ c 7) * σ (k + 1) 0) / 100))) = _
  rw [xup_upc]
  generalize upd (σ c) 7 (σ c 7 + ((T - σ c 7) * σ (k + 1) 0) / 100) = g
  have e1 : upc σ c g c = g := upc_same
  have e2 : upc σ c g (k + 1) = σ (k + 1) := upc_ne hk1
  unfold actG
  by_cases h1 : bz (g 8) = 0
  · rw [if_pos (by rw [e1]; exact h1), if_pos h1]
    by_cases h2 : g 5 - g 6 < g 7
    · rw [c_cold0 (by rw [e1]; exact h2), bd_some, if_pos h2]
      dsimp only
      rw [if_pos bz_0]
      exact c_s70 (by rw [e1]; exact h1)
    · rw [c_cold1 (by rw [e1]; exact h2), bd_some, if_neg h2]
      dsimp only
      rw [if_neg bz1n, c_close hk hk1, bd_some]
  · rw [if_neg (by rw [e1]; exact h1), if_neg h1]
    by_cases h2 : g 7 < g 5 + g 6
    · rw [if_pos h2]
      exact c_s70h (by rw [e1]; exact h1) (by rw [e1]; exact h2)
    · rw [if_neg h2, c_s70o (by rw [e1]; exact h1) (by rw [e1]; exact h2) hk1, e1, e2, upc_upc]
def cutG (N : Nat → Int32) (g : Nat → Int32) : Nat → Int32 := if degI (g 4) (g 1) ≤ N 5 then g else upd g 10 1
def setG (N : Nat → Int32) (t : Int32) (g : Nat → Int32) : Nat → Int32 := actG N t (upd (cutG N g) 7 (g 7 + ((degI (g 4) (g 1) - g 7) * N 0) / 100))
theorem c_settle0 {k c : Nat} {σ : xM} (hk : k ≠ c) (hk1 : k + 1 ≠ c) (hc : 0 < σ c 1) :
    F_X1_settle k c σ = some (if bz (setG (σ (k + 1)) (σ k 5) (σ c) 8) = bz (σ c 8) then 0 else 1, upc σ c (stkG (setG (σ (k + 1)) (σ k 5) (σ c)))) := by
  have key : ∀ g1 : Nat → Int32, g1 7 = σ c 7 → F_X1_settle_J24 k c (bz (σ c 8)) (degI (σ c 4) (σ c 1)) (upc σ c g1) = some (if bz (actG (σ (k + 1)) (σ k 5) (upd g1 7 (σ c 7 + ((degI (σ c 4) (σ c 1) - σ c 7) * σ (k + 1) 0) / 100)) 8) = bz (σ c 8) then 0 else 1, upc σ c (stkG (actG (σ (k + 1)) (σ k 5) (upd g1 7 (σ c 7 + ((degI (σ c 4) (σ c 1) - σ c 7) * σ (k + 1) 0) / 100))))) := by
    intro g1 h7
    have e1 : upc σ c g1 c = g1 := upc_same
    have e2 : upc σ c g1 (k + 1) = σ (k + 1) := upc_ne hk1
    have e3 : upc σ c g1 k = σ k := upc_ne hk
    rw [c_s24 hk hk1, e1, e2, e3, upc_upc, c_s93, h7, upc_same, upc_upc]
  unfold F_X1_settle setG cutG
  rw [c_temp0 hc, bd_some, c_num5, bd_some]
  by_cases h : degI (σ c 4) (σ c 1) ≤ σ (k + 1) 5
  · rw [if_pos h, if_pos h]
    have := key (σ c) rfl
    rw [upc_self] at this
    exact this
  · rw [if_neg h, if_neg h, nm_eq]
    exact key (upd (σ c) 10 1) (upd_ne (by omega))
