/-! the outside temperature in the class -/
def WR (w : Nat) (σ : xM) (s : Nat → Int32) (p : Nat) : Prop := σ w 2 = nI p ∧ ∀ j, j < p → σ (w + 1) j = s (10 + 2 * j) ∧ σ (w + 2) j = s (11 + 2 * j)
theorem c_before {w i p : Nat} {m : Int32} {σ : xM} {s : Nat → Int32} (hW : WR w σ s p) (hp : p ≤ 12) (hR : Ris s p) (h0 : 0 < i) (hi : i < p) : F_X4_temperatureBefore w (nI i) m σ = some (airI s m i, σ) := by
  have e : nI i - 1 = nI (i - 1) := pk_sub (b := 1) (by omega)
  have d1 := hW.2 i hi
  have d0 := hW.2 (i - 1) (by omega)
  have hne : ¬ s (10 + 2 * i) - s (8 + 2 * i) = 0 := by
    have := hR (i - 1) (by omega)
    rw [show i - 1 + 1 = i by omega, show 10 + 2 * (i - 1) = 8 + 2 * i by omega] at this
    exact this
  have f1 : σ (w + 1) (Int32.toNatClampNeg (nI i)) = s (10 + 2 * i) := by rw [cl_nI (by omega)]; exact d1.1
  have f2 : σ (w + 2) (Int32.toNatClampNeg (nI i)) = s (11 + 2 * i) := by rw [cl_nI (by omega)]; exact d1.2
  have f3 : σ (w + 1) (Int32.toNatClampNeg (nI (i - 1))) = s (8 + 2 * i) := by rw [cl_nI (by omega), d0.1]; congr 1; omega
  have f4 : σ (w + 2) (Int32.toNatClampNeg (nI (i - 1))) = s (9 + 2 * i) := by rw [cl_nI (by omega), d0.2]; congr 1; omega
  unfold F_X4_temperatureBefore
  rw [if_neg (show ¬ nI i < (1 : Int32) from nI_nlt (a := i) (b := 1) (by omega) (by omega)), if_pos (show nI i < (12 : Int32) from nI_lt (b := 12) (by omega) (by omega)), e, if_pos (inb_nI (by omega) (by omega)), nm_eq, if_pos (inb_nI (by omega) (by omega)), if_pos (inb_nI (by omega) (by omega)), nm_eq, if_pos (inb_nI (by omega) (by omega)), nm_eq, f1, f2, f3, f4]
  rw [if_neg hne, if_pos (inb_nI (by omega) (by omega)), if_neg hne]
  rfl
theorem c_airL {w p : Nat} {m : Int32} {σ : xM} {s : Nat → Int32} (hW : WR w σ s p) (hp : p ≤ 12) (hR : Ris s p) : ∀ d i N, i + d = p → d < N → F_X4_temperatureAt_L4 w N m (if i = 0 then 0 else 1000 * s (9 + 2 * i)) (nI i) σ = some (airF s m p d i, σ) := by
  intro d
  induction d with
  | zero =>
    intro i N hi hN
    obtain ⟨N, rfl⟩ : ∃ M, N = M + 1 := ⟨N - 1, by omega⟩
    obtain rfl : i = p := by omega
    rw [F_X4_temperatureAt_L4, hW.1, if_pos (nI_le (Nat.le_refl i) (by omega))]
    rfl
  | succ d ih =>
    intro i N hi hN
    obtain ⟨N, rfl⟩ : ∃ M, N = M + 1 := ⟨N - 1, by omega⟩
    obtain ⟨e1, e2⟩ := hW.2 i (by omega)
    have f1 : σ (w + 1) (Int32.toNatClampNeg (nI i)) = s (10 + 2 * i) := by rw [cl_nI (by omega)]; exact e1
    have f2 : σ (w + 2) (Int32.toNatClampNeg (nI i)) = s (11 + 2 * i) := by rw [cl_nI (by omega)]; exact e2
    rw [F_X4_temperatureAt_L4, hW.1, if_neg (nI_ge (by omega) (by omega)), if_neg (show ¬ (12 : Int32) ≤ nI i from nI_ge (b := 12) (by omega) (by omega)), if_pos (inb_nI (by omega) (by omega)), f1, airF]
    by_cases h : m < s (10 + 2 * i)
    · rw [if_neg (by rw [i_le]; rw [i_lt] at h; omega), if_pos h]
      by_cases h0 : i = 0
      · subst h0
        rw [if_pos nI_0, if_pos (by decide), if_pos rfl]
        have := (hW.2 0 (by omega)).2
        rw [cll0, this]
      · rw [if_neg (nI_ne0 (by omega) (by omega)), if_neg h0, c_before hW hp hR (by omega) (by omega), bd_some]
    · rw [if_pos (by rw [i_le]; rw [i_lt] at h; omega), if_pos (inb_nI (by omega) (by omega)), if_neg h, nm_eq, f2, nI_1]
      have := ih (i + 1) N (by omega) (by omega)
      rw [if_neg (by omega), show 9 + 2 * (i + 1) = 11 + 2 * i by omega] at this
      exact this
theorem c_air {w p : Nat} {m : Int32} {σ : xM} {s : Nat → Int32} (hW : WR w σ s p) (hp : p ≤ 12) (hR : Ris s p) : F_X4_temperatureAt w m σ = some (airS s p m, σ) := by
  unfold F_X4_temperatureAt
  have := c_airL (m := m) hW hp hR p 0 FU (by omega) (by rw [FU_eq]; omega)
  rw [if_pos rfl] at this
  exact this
