theorem l1000 : (1000 : Int32).toInt = 1000 := by decide
/-- the outside temperature is in bounds (roughly) -/
theorem airI_b {s : Nat → Int32} {p i m : Nat} (hW : IvW s p) (h0 : 0 < i) (hi : i < p) (h1 : ¬ nI m < s (8 + 2 * i)) (h2 : nI m < s (10 + 2 * i)) (hm : m ≤ 100000) : -120000 ≤ (airI s (nI m) i).toInt ∧ (airI s (nI m) i).toInt ≤ 120000 := by
  obtain ⟨hp, h9, hM, hRi, hD⟩ := hW
  obtain ⟨a, ha, ea⟩ := hM (i - 1) (by omega)
  obtain ⟨b, hb, eb⟩ := hM i hi
  rw [show 10 + 2 * (i - 1) = 8 + 2 * i by omega] at ea
  obtain ⟨x1, x2⟩ := hD (i - 1) (by omega)
  rw [show 11 + 2 * (i - 1) = 9 + 2 * i by omega] at x1 x2
  obtain ⟨y1, y2⟩ := hD i hi
  have eM : (nI m).toInt = m := nI_toInt (by omega)
  have eA : (s (8 + 2 * i)).toInt = a := by rw [ea]; exact nI_toInt (by omega)
  have eB : (s (10 + 2 * i)).toInt = b := by rw [eb]; exact nI_toInt (by omega)
  rw [i_lt, eM, eA] at h1
  rw [i_lt, eM, eB] at h2
  generalize hX : (s (9 + 2 * i)).toInt = X at x1 x2
  generalize hY : (s (11 + 2 * i)).toInt = Y at y1 y2
  have d1 : (s (11 + 2 * i) - s (9 + 2 * i)).toInt = Y - X := by rw [i_sub (by omega) (by omega), hX, hY]
  have d2 : (1000 * (s (11 + 2 * i) - s (9 + 2 * i))).toInt = 1000 * (Y - X) := by rw [i_mul (by rw [d1, l1000]; omega) (by rw [d1, l1000]; omega), d1, l1000]
  have d3 : (nI m - s (8 + 2 * i)).toInt = (m : Int) - a := by rw [i_sub (by omega) (by omega), eM, eA]
  have d4 : (s (10 + 2 * i) - s (8 + 2 * i)).toInt = (b : Int) - a := by rw [i_sub (by omega) (by omega), eB, eA]
  have q1 : (1000 * (Y - X)) * ((m : Int) - a) ≤ 80000 * ((m : Int) - a) := Int.mul_le_mul_of_nonneg_right (by omega) (by omega)
  have q2 : -80000 * ((m : Int) - a) ≤ (1000 * (Y - X)) * ((m : Int) - a) := Int.mul_le_mul_of_nonneg_right (by omega) (by omega)
  have d5 : ((1000 * (s (11 + 2 * i) - s (9 + 2 * i))) * (nI m - s (8 + 2 * i))).toInt = (1000 * (Y - X)) * ((m : Int) - a) := by
    rw [i_mul (by rw [d2, d3]; omega) (by rw [d2, d3]; omega), d2, d3]
  generalize hZ : (1000 * (Y - X)) * ((m : Int) - a) = Z at q1 q2 d5
  have d6 : (((1000 * (s (11 + 2 * i) - s (9 + 2 * i))) * (nI m - s (8 + 2 * i))) / (s (10 + 2 * i) - s (8 + 2 * i))).toInt = Z.tdiv ((b : Int) - a) := by
    rw [i_div (by rw [d5]; omega), d5, d4]
  have hw : 0 < (b : Int) - a := by omega
  have r1 : Z.tdiv ((b : Int) - a) ≤ 80000 ∧ -80000 ≤ Z.tdiv ((b : Int) - a) := by
    rcases Int.lt_or_le Z 0 with z | z
    · have e : Z.tdiv ((b : Int) - a) = -((-Z) / ((b : Int) - a)) := by rw [← Int.tdiv_eq_ediv_of_nonneg (by omega), Int.neg_tdiv, Int.neg_neg]
      rw [e]
      have k1 : (-Z) / ((b : Int) - a) < 80001 := Int.ediv_lt_of_lt_mul hw (by omega)
      have k2 : 0 ≤ (-Z) / ((b : Int) - a) := Int.ediv_nonneg (by omega) (by omega)
      omega
    · rw [Int.tdiv_eq_ediv_of_nonneg z]
      have k1 : Z / ((b : Int) - a) < 80001 := Int.ediv_lt_of_lt_mul hw (by omega)
      have k2 : 0 ≤ Z / ((b : Int) - a) := Int.ediv_nonneg (by omega) (by omega)
      omega
  have d7 : (1000 * s (9 + 2 * i)).toInt = 1000 * X := by rw [i_mul (by rw [l1000]; omega) (by rw [l1000]; omega), l1000, hX]
  unfold airI
  rw [i_add (by rw [d7, d6]; omega) (by rw [d7, d6]; omega), d7, d6]
  omega
theorem airS_b {s : Nat → Int32} {p m : Nat} (hW : IvW s p) (hm : m ≤ 100000) : -120000 ≤ (airS s p (nI m)).toInt ∧ (airS s p (nI m)).toInt ≤ 120000 := by
  have deg : ∀ j, j < p → -40000 ≤ (1000 * s (11 + 2 * j)).toInt ∧ (1000 * s (11 + 2 * j)).toInt ≤ 40000 := by
    intro j hj
    obtain ⟨x1, x2⟩ := hW.2.2.2.2 j hj
    rw [i_mul (by rw [l1000]; omega) (by rw [l1000]; omega), l1000]
    omega
  have key : ∀ d i, i + d = p → (∀ j, j < i → ¬ nI m < s (10 + 2 * j)) → -120000 ≤ (airF s (nI m) p d i).toInt ∧ (airF s (nI m) p d i).toInt ≤ 120000 := by
    intro d
    induction d with
    | zero =>
      intro i hi hj
      rw [airF]
      by_cases h0 : p = 0
      · rw [if_pos h0]; decide
      · rw [if_neg h0]
        have := deg (p - 1) (by omega)
        rw [show 11 + 2 * (p - 1) = 9 + 2 * p by omega] at this
        omega
    | succ d ih =>
      intro i hi hj
      rw [airF]
      by_cases h : nI m < s (10 + 2 * i)
      · rw [if_pos h]
        by_cases h0 : i = 0
        · rw [if_pos h0]
          have := deg 0 (by omega)
          rw [show 11 + 2 * 0 = 11 from rfl] at this
          omega
        · rw [if_neg h0]
          have := hj (i - 1) (by omega)
          rw [show 10 + 2 * (i - 1) = 8 + 2 * i by omega] at this
          exact airI_b hW (by omega) (by omega) this h hm
      · rw [if_neg h]
        exact ih (i + 1) (by omega) (fun j hj2 => by
          by_cases hji : j = i
          · rw [hji]; exact h
          · exact hj j (by omega))
  exact key p 0 (by omega) (fun j hj => by omega)
theorem ris_i {s : Nat → Int32} {p : Nat} (hW : IvW s p) : Ris s p := by
  intro i hi h
  have := hW.2.2.2.1 i hi
  obtain ⟨a, ha, ea⟩ := hW.2.2.1 i (by omega)
  obtain ⟨b, hb, eb⟩ := hW.2.2.1 (i + 1) hi
  rw [ea, eb, nI_toInt (by omega), nI_toInt (by omega)] at this
  rw [ea, eb, i_eq, i_sub (by rw [nI_toInt (by omega), nI_toInt (by omega)]; omega) (by rw [nI_toInt (by omega), nI_toInt (by omega)]; omega), nI_toInt (by omega), nI_toInt (by omega)] at h
  have z : (0 : Int32).toInt = 0 := by decide
  rw [z] at h
  omega
theorem tmp_b {s : Nat → Int32} {n r t : Nat} {S : Int} (h : IvV (vw s r) S t) : -200000 ≤ (tmp s r).toInt ∧ (tmp s r).toInt ≤ 240000 ∧ (vw s r 0).toInt * (tmp s r).toInt ≤ 1000 * (vw s r 1).toInt ∧ 1000 * (vw s r 1).toInt < (vw s r 0).toInt * (tmp s r).toInt + (vw s r 0).toInt := by
  obtain ⟨⟨⟨a, b⟩, _, _, ⟨c, d⟩, _⟩, _⟩ := h
  obtain ⟨T, e, h1, h2, h3, h4⟩ := tmp_i a b c d
  have e' : (tmp s r).toInt = T := e
  rw [e']
  exact ⟨h1, h2, h3, h4⟩
/-- the flows keep the bounds -/
theorem flow_inv {v : Nat → Int32} {S G : Int} {t : Nat} {A g T : Int32} (h : IvV v S t) (hT : degI (v 1) (v 0) = T) (hA1 : -200000 ≤ A.toInt) (hA2 : A.toInt ≤ 240000) (hS : 0 ≤ G ∧ G ≤ S) (hS2 : S ≤ 300)
    (hg1 : -(G * (240000 - T.toInt)) ≤ 1000 * g.toInt) (hg2 : 1000 * g.toInt ≤ G * (T.toInt + 200000)) : IvF (flowV v (hea v) (lkg v T A) g) S t := by
  obtain ⟨⟨⟨a, b⟩, ⟨p1, p2⟩, ⟨l1, l2⟩, ⟨c, d⟩, h7, h14, hc, hf⟩, hh⟩ := h
  obtain ⟨U, e, u1, u2, u3, u4⟩ := tmp_i a b c d
  rw [hT] at e
  rw [e] at hg1 hg2
  obtain ⟨f1, f2, f3⟩ := flow_i (l := v 3) (a := T) (b := A) l1 (by omega) e rfl u1 u2 hA1 hA2
  have elk : lkg v T A = (v 3 * (T - A)) / 1000 := rfl
  rw [← elk] at f1 f2 f3
  -- the heater
  have eh : (hea v).toInt = 0 ∨ ((hea v).toInt = (v 2).toInt ∧ U ≤ 200000) := by
    unfold hea
    by_cases c1 : v 7 = 1
    · rw [if_pos c1]
      by_cases c2 : v 14 = 0
      · rw [if_pos c2]
        refine Or.inr ⟨rfl, ?_⟩
        rcases hh with hh | hh
        · rcases Int.lt_or_le 200000 U with z | z
          · have : (v 0).toInt * 200001 ≤ (v 0).toInt * U := Int.mul_le_mul_of_nonneg_left (by omega) (by omega)
            omega
          · exact z
        · rw [hh] at c2; exact absurd c2 (by decide)
      · rw [if_neg c2]; exact Or.inl rfl
    · rw [if_neg c1]; exact Or.inl rfl
  -- products
  generalize hC : (v 0).toInt = C at *
  generalize hQ : (v 1).toInt = Q at *
  generalize hL : (v 3).toInt = L at *
  have m1 : G * (240000 - U) ≤ S * (240000 - U) := Int.mul_le_mul_of_nonneg_right hS.2 (by omega)
  have m2 : G * (U + 200000) ≤ S * (U + 200000) := Int.mul_le_mul_of_nonneg_right hS.2 (by omega)
  have m3 : (2 * (L + S)) * (240000 - U) ≤ C * (240000 - U) := Int.mul_le_mul_of_nonneg_right l2 (by omega)
  have m4 : (2 * (L + S)) * (U + 200000) ≤ C * (U + 200000) := Int.mul_le_mul_of_nonneg_right l2 (by omega)
  have x3 : (2 * (L + S)) * (240000 - U) = 2 * (L * (240000 - U)) + 2 * (S * (240000 - U)) := by rw [Int.mul_assoc, Int.add_mul, Int.mul_add]
  have x4 : (2 * (L + S)) * (U + 200000) = 2 * (L * (U + 200000)) + 2 * (S * (U + 200000)) := by rw [Int.mul_assoc, Int.add_mul, Int.mul_add]
  have x1 : C * (240000 - U) = 240000 * C - C * U := by rw [Int.mul_sub, Int.mul_comm C 240000]
  have x2 : C * (U + 200000) = C * U + 200000 * C := by rw [Int.mul_add, Int.mul_comm C 200000]
  have cu1 : C * U ≤ C * 240000 := Int.mul_le_mul_of_nonneg_left u2 (by omega)
  have cu2 : C * (-200000) ≤ C * U := Int.mul_le_mul_of_nonneg_left u1 (by omega)
  have cu3 : U ≤ 200000 → C * U ≤ C * 200000 := fun z => Int.mul_le_mul_of_nonneg_left z (by omega)
  have b1 : S * (240000 - U) ≤ 300 * 440000 := Int.mul_le_mul hS2 (by omega) (by omega) (by omega)
  have b2 : S * (U + 200000) ≤ 300 * 440000 := Int.mul_le_mul hS2 (by omega) (by omega) (by omega)
  have b3 : L * (240000 - U) ≤ 250 * 440000 := Int.mul_le_mul (by omega) (by omega) (by omega) (by omega)
  have b4 : L * (U + 200000) ≤ 250 * 440000 := Int.mul_le_mul (by omega) (by omega) (by omega) (by omega)
  have hhb : 0 ≤ (hea v).toInt ∧ (hea v).toInt ≤ 200 := by rcases eh with z | ⟨z, -⟩ <;> rw [z] <;> omega
  have s1 : ((hea v) - (lkg v T A)).toInt = (hea v).toInt - (lkg v T A).toInt := i_sub (by omega) (by omega)
  have s2 : ((hea v) - (lkg v T A) - g).toInt = (hea v).toInt - (lkg v T A).toInt - g.toInt := by rw [i_sub (by rw [s1]; omega) (by rw [s1]; omega), s1]
  have s3 : (v 1 + ((hea v) - (lkg v T A) - g)).toInt = Q + ((hea v).toInt - (lkg v T A).toInt - g.toInt) := by
    rw [i_add (by rw [s2, hQ]; omega) (by rw [s2, hQ]; omega), s2, hQ]
  have q : ∀ j, j ≠ 1 → j ≠ 17 → j ≠ 18 → j ≠ 19 → flowV v (hea v) (lkg v T A) g j = v j := by
    intro j h1 h2 h3 h4
    unfold flowV
    rw [upd_ne h4, upd_ne h3, upd_ne h2, upd_ne h1]
  have q1 : flowV v (hea v) (lkg v T A) g 1 = v 1 + ((hea v) - (lkg v T A) - g) := by simp [flowV, upd]
  unfold IvF
  rw [q 0 (by omega) (by omega) (by omega) (by omega), q 2 (by omega) (by omega) (by omega) (by omega), q 3 (by omega) (by omega) (by omega) (by omega), q 7 (by omega) (by omega) (by omega) (by omega), q 14 (by omega) (by omega) (by omega) (by omega), q 11 (by omega) (by omega) (by omega) (by omega), q 15 (by omega) (by omega) (by omega) (by omega), q 12 (by omega) (by omega) (by omega) (by omega), q1, s3, hC, hL]
  refine ⟨⟨a, b⟩, ⟨p1, p2⟩, ⟨l1, l2⟩, ⟨?_, ?_⟩, h7, h14, hc, hf⟩
  · omega
  · rcases eh with z | ⟨z, zz⟩
    · omega
    · have := cu3 zz
      omega
