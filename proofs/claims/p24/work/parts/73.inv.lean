/-! what holds of a row: bounds -/
theorem fdiv_i {q c : Int32} (hc : 0 < c.toInt) (h1 : -2147483 ≤ q.toInt) (h2 : q.toInt ≤ 2147483) : (degI q c).toInt = (1000 * q.toInt) / c.toInt := by
  have hm : (1000 * q).toInt = 1000 * q.toInt := by
    have e : (1000 : Int32).toInt = 1000 := by decide
    rw [i_mul (by rw [e]; omega) (by rw [e]; omega), e]
  have hd : ((1000 * q) / c).toInt = (1000 * q.toInt).tdiv c.toInt := by rw [i_div (by rw [hm]; omega), hm]
  unfold degI
  by_cases h0 : 0 ≤ 1000 * q
  · rw [if_pos h0, hd]
    rw [i_le, hm] at h0
    exact Int.tdiv_eq_ediv_of_nonneg h0
  · rw [if_neg h0]
    rw [i_le, hm] at h0
    have h0' : 1000 * q.toInt < 0 := by simpa using h0
    have ht : (1000 * q.toInt).tdiv c.toInt = -((-(1000 * q.toInt)) / c.toInt) := by
      rw [← Int.tdiv_eq_ediv_of_nonneg (by omega), Int.neg_tdiv, Int.neg_neg]
    -- e c ≤ -m < (e + 1) c
    have he1 : c.toInt * ((-(1000 * q.toInt)) / c.toInt) ≤ -(1000 * q.toInt) := Int.mul_ediv_self_le (by omega)
    have he2 : -(1000 * q.toInt) < c.toInt * ((-(1000 * q.toInt)) / c.toInt) + c.toInt := Int.lt_mul_ediv_self_add hc
    generalize hE : (-(1000 * q.toInt)) / c.toInt = E at he1 he2 ht
    have hE0 : 0 ≤ E := by rw [← hE]; exact Int.ediv_nonneg (by omega) (by omega)
    have hcE : 0 ≤ c.toInt * E := Int.mul_nonneg (by omega) hE0
    have hp : ((1000 * q) / c * c).toInt = -(c.toInt * E) := by
      have e : ((1000 * q) / c).toInt * c.toInt = -(c.toInt * E) := by rw [hd, ht, Int.neg_mul, Int.mul_comm]
      rw [i_mul (by rw [e]; omega) (by rw [e]; omega), e]
    have hs : ((1000 * q) - (1000 * q) / c * c).toInt = 1000 * q.toInt + c.toInt * E := by
      rw [i_sub (by rw [hm, hp]; omega) (by rw [hm, hp]; omega), hm, hp]; omega
    have uniq : ∀ x r : Int, r + c.toInt * x = 1000 * q.toInt → 0 ≤ r → r < c.toInt → (1000 * q.toInt) / c.toInt = x := fun x r a b d => ((Int.ediv_emod_unique hc).mpr ⟨a, b, d⟩).1
    by_cases h3 : (1000 * q) - (1000 * q) / c * c = 0
    · rw [if_pos h3, hd, ht]
      rw [i_eq, hs] at h3
      have h3' : 1000 * q.toInt + c.toInt * E = 0 := by simpa using h3
      exact (uniq (-E) 0 (by rw [Int.mul_neg]; omega) (by omega) hc).symm
    · rw [if_neg h3]
      have h3' : ¬ 1000 * q.toInt + c.toInt * E = 0 := fun z => h3 (i_ext (by rw [hs, z]; decide))
      have hE3 : E ≤ 2147483000 := by
        have : E * 1 ≤ E * c.toInt := Int.mul_le_mul_of_nonneg_left (by omega) hE0
        have e2 : E * c.toInt = c.toInt * E := Int.mul_comm _ _
        omega
      have e1 : ((1000 * q) / c - 1).toInt = -E - 1 := by
        have : (1 : Int32).toInt = 1 := by decide
        rw [i_sub (by rw [hd, ht, this]; omega) (by rw [hd, ht, this]; omega), hd, ht, this]
      rw [e1]
      refine (uniq (-E - 1) (1000 * q.toInt + c.toInt * E + c.toInt) ?_ ?_ ?_).symm
      · rw [Int.mul_sub, Int.mul_neg, Int.mul_one]; omega
      · omega
      · omega
/-- a temperature in bounds -/
theorem tmp_i {q c : Int32} (hc : 10 ≤ c.toInt) (hc2 : c.toInt ≤ 500) (h1 : -200000 * c.toInt ≤ 1000 * q.toInt) (h2 : 1000 * q.toInt < 240001 * c.toInt) :
    ∃ T : Int, (degI q c).toInt = T ∧ -200000 ≤ T ∧ T ≤ 240000 ∧ c.toInt * T ≤ 1000 * q.toInt ∧ 1000 * q.toInt < c.toInt * T + c.toInt := by
  refine ⟨(1000 * q.toInt) / c.toInt, fdiv_i (by omega) (by omega) (by omega), ?_, ?_, Int.mul_ediv_self_le (by omega), Int.lt_mul_ediv_self_add (by omega)⟩
  · exact Int.le_ediv_of_mul_le (by omega) h1
  · have := Int.ediv_lt_of_lt_mul (by omega : 0 < c.toInt) h2
    omega
/-- a thousandth, rounded toward 0 -/
theorem td_lo {x y : Int} (hy : 0 ≤ y) (h : -y ≤ x) : -y ≤ 1000 * x.tdiv 1000 := by
  rcases Int.lt_or_le x 0 with h0 | h0
  · have e : x.tdiv 1000 = -((-x) / 1000) := by rw [← Int.tdiv_eq_ediv_of_nonneg (by omega), Int.neg_tdiv, Int.neg_neg]
    rw [e]; omega
  · rw [Int.tdiv_eq_ediv_of_nonneg h0]; omega
theorem td_hi {x y : Int} (hy : 0 ≤ y) (h : x ≤ y) : 1000 * x.tdiv 1000 ≤ y := by
  rcases Int.lt_or_le x 0 with h0 | h0
  · have e : x.tdiv 1000 = -((-x) / 1000) := by rw [← Int.tdiv_eq_ediv_of_nonneg (by omega), Int.neg_tdiv, Int.neg_neg]
    rw [e]; omega
  · rw [Int.tdiv_eq_ediv_of_nonneg h0]; omega
/-- one flow: a coefficient of 0 to 250 times a difference, in thousandths -/
theorem flow_i {l a b : Int32} {T U : Int} (hl0 : 0 ≤ l.toInt) (hl : l.toInt ≤ 250) (ha : a.toInt = T) (hb : b.toInt = U) (h1 : -200000 ≤ T) (h2 : T ≤ 240000) (h3 : -200000 ≤ U) (h4 : U ≤ 240000) :
    ((l * (a - b)) / 1000).toInt = (l.toInt * (T - U)).tdiv 1000 ∧ -(l.toInt * (240000 - T)) ≤ 1000 * ((l * (a - b)) / 1000).toInt ∧ 1000 * ((l * (a - b)) / 1000).toInt ≤ l.toInt * (T + 200000) := by
  have hs : (a - b).toInt = T - U := by rw [i_sub (by omega) (by omega), ha, hb]
  have m1 : l.toInt * (T - U) ≤ l.toInt * (T + 200000) := Int.mul_le_mul_of_nonneg_left (by omega) hl0
  have m2 : l.toInt * (T - U) ≥ l.toInt * (T - 240000) := Int.mul_le_mul_of_nonneg_left (by omega) hl0
  have m3 : l.toInt * (T + 200000) ≤ 250 * 440000 := Int.mul_le_mul hl (by omega) (by omega) (by omega)
  have m4 : l.toInt * (240000 - T) ≤ 250 * 440000 := Int.mul_le_mul hl (by omega) (by omega) (by omega)
  have m5 : 0 ≤ l.toInt * (T + 200000) := Int.mul_nonneg hl0 (by omega)
  have m6 : 0 ≤ l.toInt * (240000 - T) := Int.mul_nonneg hl0 (by omega)
  have m7 : l.toInt * (T - 240000) = -(l.toInt * (240000 - T)) := by rw [← Int.mul_neg]; congr 1; omega
  have hm : (l * (a - b)).toInt = l.toInt * (T - U) := by rw [i_mul (by rw [hs]; omega) (by rw [hs]; omega), hs]
  have hd : ((l * (a - b)) / 1000).toInt = (l.toInt * (T - U)).tdiv 1000 := by
    rw [i_div (by rw [hm]; omega), hm]; rfl
  refine ⟨hd, ?_, ?_⟩
  · rw [hd]; exact td_lo m6 (by omega)
  · rw [hd]; exact td_hi m5 m1
