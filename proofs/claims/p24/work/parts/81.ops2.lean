/-! operations that read -/
theorem c_prop1 {c : Nat} {σ : xM} : F_X3_property c 1 σ = some (σ c 4, σ) := by
  unfold F_X3_property
  rw [if_neg (by decide), if_pos rfl]
theorem c_prop2 {c : Nat} {σ : xM} : F_X3_property c 2 σ = some (σ c 7, σ) := by
  unfold F_X3_property
  rw [if_neg (by decide), if_neg (by decide), if_pos rfl]
theorem c_prop3 {c : Nat} {σ : xM} : F_X3_property c 3 σ = some (bz (σ c 8), σ) := by
  unfold F_X3_property
  rw [if_neg (by decide), if_neg (by decide), if_neg (by decide), if_pos rfl]
  rcases bz_cases (σ c 8) with h | h
  · rw [if_pos h, h]
  · rw [if_neg (by rw [h]; decide), h]
theorem c_prop4 {c : Nat} {σ : xM} : F_X3_property c 4 σ = some (bz (σ c 9), σ) := by
  unfold F_X3_property
  rw [if_neg (by decide), if_neg (by decide), if_neg (by decide), if_neg (by decide), if_pos rfl]
  rcases bz_cases (σ c 9) with h | h
  · rw [if_pos h, h]
  · rw [if_neg (by rw [h]; decide), h]
theorem c_prop5 {c : Nat} {σ : xM} : F_X3_property c 5 σ = some (σ c 11, σ) := by
  unfold F_X3_property
  rw [if_neg (by decide), if_neg (by decide), if_neg (by decide), if_neg (by decide), if_neg (by decide), if_pos rfl]
theorem c_prop6 {c : Nat} {σ : xM} : F_X3_property c 6 σ = some (σ c 12, σ) := by
  unfold F_X3_property
  rw [if_neg (by decide), if_neg (by decide), if_neg (by decide), if_neg (by decide), if_neg (by decide), if_neg (by decide), if_pos rfl]
theorem c_prop7 {c : Nat} {σ : xM} : F_X3_property c 7 σ = some (σ c 13, σ) := by
  unfold F_X3_property
  rw [if_neg (by decide), if_neg (by decide), if_neg (by decide), if_neg (by decide), if_neg (by decide), if_neg (by decide), if_neg (by decide), if_pos rfl]
theorem c_prop8 {c : Nat} {σ : xM} : F_X3_property c 8 σ = some (σ c 15, σ) := by
  unfold F_X3_property
  rw [if_neg (by decide), if_neg (by decide), if_neg (by decide), if_neg (by decide), if_neg (by decide), if_neg (by decide), if_neg (by decide), if_neg (by decide), if_pos rfl]
theorem c_prop9 {c : Nat} {σ : xM} : F_X3_property c 9 σ = some (σ c 16, σ) := by
  unfold F_X3_property
  rw [if_neg (by decide), if_neg (by decide), if_neg (by decide), if_neg (by decide), if_neg (by decide), if_neg (by decide), if_neg (by decide), if_neg (by decide), if_neg (by decide), if_pos rfl]
theorem c_prop10 {c : Nat} {σ : xM} : F_X3_property c 10 σ = some (bz (σ c 10), σ) := by
  unfold F_X3_property
  rw [if_neg (by decide), if_neg (by decide), if_neg (by decide), if_neg (by decide), if_neg (by decide), if_neg (by decide), if_neg (by decide), if_neg (by decide), if_neg (by decide), if_neg (by decide), if_pos rfl]
  rcases bz_cases (σ c 10) with h | h
  · rw [if_pos h, h]
  · rw [if_neg (by rw [h]; decide), h]
theorem c_prop11 {c : Nat} {σ : xM} : F_X3_property c 11 σ = some (σ c 14, σ) := by
  unfold F_X3_property
  rw [if_neg (by decide), if_neg (by decide), if_neg (by decide), if_neg (by decide), if_neg (by decide), if_neg (by decide), if_neg (by decide), if_neg (by decide), if_neg (by decide), if_neg (by decide), if_neg (by decide), if_pos rfl]
theorem c_prop12 {c : Nat} {σ : xM} : F_X3_property c 12 σ = some (σ c 5, σ) := by
  unfold F_X3_property
  rw [if_neg (by decide), if_neg (by decide), if_neg (by decide), if_neg (by decide), if_neg (by decide), if_neg (by decide), if_neg (by decide), if_neg (by decide), if_neg (by decide), if_neg (by decide), if_neg (by decide), if_neg (by decide), if_pos rfl]
theorem c_prop13 {c : Nat} {σ : xM} : F_X3_property c 13 σ = some (σ c 6, σ) := by
  unfold F_X3_property
  rw [if_neg (by decide), if_neg (by decide), if_neg (by decide), if_neg (by decide), if_neg (by decide), if_neg (by decide), if_neg (by decide), if_neg (by decide), if_neg (by decide), if_neg (by decide), if_neg (by decide), if_neg (by decide), if_neg (by decide), if_pos rfl]
theorem c_prop0 {c : Nat} {σ : xM} (h : 0 < σ c 1) : F_X3_property c 0 σ = some (degI (σ c 4) (σ c 1), σ) := by
  unfold F_X3_property
  rw [if_pos rfl, c_temp0 h, bd_some]
theorem lit_cases {a b : Int32} (x : Int32) (h : ¬ bz (inW x a b) = 0) (ha : a.toInt = 0) {B : Nat} (hb : b.toInt = B) (hB : B < 2 ^ 31) : ∃ j : Nat, j ≤ B ∧ x = nI j := by
  obtain ⟨h1, h2, _⟩ := inW_1 h
  exact ⟨x.toInt.toNat, by omega, nI_ofT (by omega)⟩
theorem ofS {τ : xM} {r f : Nat} (hr : r < 6) (hf : f < 21) : F_X7_of 0 (nI r) (nI f) τ = some (vw (τ 1) r f, τ) := of_nI hr hf
theorem tempS {τ : xM} {r : Nat} (hr : r < 6) (hc : ¬ vw (τ 1) r 0 = 0) : F_X7_temperature 0 (nI r) τ = some (degI (vw (τ 1) r 1) (vw (τ 1) r 0), τ) := by
  have := m_temp (τ := τ) (r := r) (v := vw (τ 1) r) hr hc
  rw [stm_self] at this
  exact this
theorem CG.cap {σ τ : xM} {n p t r : Nat} (h : CG σ τ n p t) (hr : r < n) : 0 < vw (τ 1) r 0 := (inv_fit h.2.2).2.1 r hr
theorem ne0_of {x : Int32} (h : 0 < x) : ¬ x = 0 := by intro z; rw [z] at h; exact absurd h (by decide)
theorem op_room {x y : Int32} : OpS (F_X6_room 0 x y) (F_X7_room 0 x y) := by
  intro σ τ hG
  obtain ⟨⟨n, p, t, hC⟩, hH, hT⟩ := hG
  unfold F_X6_room F_X7_room
  simp only [Nat.zero_add]
  rw [m_isRoom, bd_some, hC.t7]
  rcases room_cases hC.n6 x with ⟨r, hr, rfl, e⟩ | ⟨hx, e⟩
  · have r6 : r < 6 := by have := hC.n6; omega
    rw [c_room hC.s4 hr hC.n6, bd_some]
    show ∃ r' σ'' τ'', oc (some (1 + 7 + 2 * r)) _ _ = _ ∧ _
    rw [oc_some, if_pos (kd_room rfl r6), e, if_neg bz1n, m_in, bd_some]
    obtain ⟨⟨a0, a1, a2, a3, a4, a5, a6⟩, ⟨a7, a8, a9, a10, a11, a12, a13⟩, ⟨a14, a15, a16, a17, a18, a19, a20⟩⟩ := hC.rr hr
    have cap := hC.cap hr
    have fin : ∀ z : Int32, ∃ r' σ'' τ'', some (z, σ) = some (r', σ'') ∧ some (z, τ) = some (r', τ'') ∧ GG σ'' τ'' := fun z => ⟨z, σ, τ, rfl, rfl, ⟨n, p, t, hC⟩, hH, hT⟩
    by_cases h1 : bz (inW y 0 13) = 0
    · rw [if_pos h1]
      have g := inW_2 h1
      have n0 : ∀ k : Int32, 0 ≤ k.toInt → k.toInt ≤ 13 → ¬ y = k := by
        intro k k1 k2 z
        have z0 : (0 : Int32).toInt = 0 := by decide
        have z13 : (13 : Int32).toInt = 13 := by decide
        rw [z] at g; omega
      unfold F_X3_property
      rw [if_neg (n0 0 (by decide) (by decide)), if_neg (n0 1 (by decide) (by decide)), if_neg (n0 2 (by decide) (by decide)), if_neg (n0 3 (by decide) (by decide)), if_neg (n0 4 (by decide) (by decide)), if_neg (n0 5 (by decide) (by decide)), if_neg (n0 6 (by decide) (by decide)), if_neg (n0 7 (by decide) (by decide)), if_neg (n0 8 (by decide) (by decide)), if_neg (n0 9 (by decide) (by decide)), if_neg (n0 10 (by decide) (by decide)), if_neg (n0 11 (by decide) (by decide)), if_neg (n0 12 (by decide) (by decide)), if_neg (n0 13 (by decide) (by decide)), bd_some]
      exact fin _
    · rw [if_neg h1]
      obtain ⟨j, hj, rfl⟩ := lit_cases y h1 (by decide) (B := 13) (by decide) (by omega)
      dsimp only
      have hj' : j = 0 ∨ j = 1 ∨ j = 2 ∨ j = 3 ∨ j = 4 ∨ j = 5 ∨ j = 6 ∨ j = 7 ∨ j = 8 ∨ j = 9 ∨ j = 10 ∨ j = 11 ∨ j = 12 ∨ j = 13 := by omega
      rcases hj' with rfl | rfl | rfl | rfl | rfl | rfl | rfl | rfl | rfl | rfl | rfl | rfl | rfl | rfl
      · rw [show nI 0 = 0 from rfl, c_prop0 (by rw [a0]; exact cap), bd_some, if_pos rfl, tempS r6 (ne0_of cap), bd_some]
        dsimp only
        rw [a0, a1]
        exact fin _
      · rw [show nI 1 = 1 from rfl, c_prop1, bd_some, if_neg (by decide), if_pos rfl, show (1 : Int32) = nI 1 from rfl, ofS r6 (by omega), bd_some]
        dsimp only
        rw [a1]
        exact fin _
      · rw [show nI 2 = 2 from rfl, c_prop2, bd_some, if_neg (by decide), if_neg (by decide), if_neg (by decide), if_neg (by decide), show ((6 : Int32) + 2) - 2 = nI 6 by decide, ofS r6 (by omega), bd_some]
        dsimp only
        rw [a6]
        exact fin _
      · rw [show nI 3 = 3 from rfl, c_prop3, bd_some, if_neg (by decide), if_neg (by decide), if_neg (by decide), if_neg (by decide), show ((6 : Int32) + 3) - 2 = nI 7 by decide, ofS r6 (by omega), bd_some]
        dsimp only
        rw [a7]
        exact fin _
      · rw [show nI 4 = 4 from rfl, c_prop4, bd_some, if_neg (by decide), if_neg (by decide), if_neg (by decide), if_neg (by decide), show ((6 : Int32) + 4) - 2 = nI 8 by decide, ofS r6 (by omega), bd_some]
        dsimp only
        rw [a8]
        exact fin _
      · rw [show nI 5 = 5 from rfl, c_prop5, bd_some, if_neg (by decide), if_neg (by decide), if_neg (by decide), if_neg (by decide), show ((6 : Int32) + 5) - 2 = nI 9 by decide, ofS r6 (by omega), bd_some]
        dsimp only
        rw [a9]
        exact fin _
      · rw [show nI 6 = 6 from rfl, c_prop6, bd_some, if_neg (by decide), if_neg (by decide), if_neg (by decide), if_neg (by decide), show ((6 : Int32) + 6) - 2 = nI 10 by decide, ofS r6 (by omega), bd_some]
        dsimp only
        rw [a10]
        exact fin _
      · rw [show nI 7 = 7 from rfl, c_prop7, bd_some, if_neg (by decide), if_neg (by decide), if_neg (by decide), if_neg (by decide), show ((6 : Int32) + 7) - 2 = nI 11 by decide, ofS r6 (by omega), bd_some]
        dsimp only
        rw [a11]
        exact fin _
      · rw [show nI 8 = 8 from rfl, c_prop8, bd_some, if_neg (by decide), if_neg (by decide), if_neg (by decide), if_neg (by decide), show ((6 : Int32) + 8) - 2 = nI 12 by decide, ofS r6 (by omega), bd_some]
        dsimp only
        rw [a12]
        exact fin _
      · rw [show nI 9 = 9 from rfl, c_prop9, bd_some, if_neg (by decide), if_neg (by decide), if_neg (by decide), if_neg (by decide), show ((6 : Int32) + 9) - 2 = nI 13 by decide, ofS r6 (by omega), bd_some]
        dsimp only
        rw [a13]
        exact fin _
      · rw [show nI 10 = 10 from rfl, c_prop10, bd_some, if_neg (by decide), if_neg (by decide), if_neg (by decide), if_neg (by decide), show ((6 : Int32) + 10) - 2 = nI 14 by decide, ofS r6 (by omega), bd_some]
        dsimp only
        rw [a14]
        exact fin _
      · rw [show nI 11 = 11 from rfl, c_prop11, bd_some, if_neg (by decide), if_neg (by decide), if_neg (by decide), if_neg (by decide), show ((6 : Int32) + 11) - 2 = nI 15 by decide, ofS r6 (by omega), bd_some]
        dsimp only
        rw [a15]
        exact fin _
      · rw [show nI 12 = 12 from rfl, c_prop12, bd_some, if_neg (by decide), if_neg (by decide), if_pos rfl, show (4 : Int32) = nI 4 from rfl, ofS r6 (by omega), bd_some]
        dsimp only
        rw [a4]
        exact fin _
      · rw [show nI 13 = 13 from rfl, c_prop13, bd_some, if_neg (by decide), if_neg (by decide), if_neg (by decide), if_pos rfl, show (5 : Int32) = nI 5 from rfl, ofS r6 (by omega), bd_some]
        dsimp only
        rw [a5]
        exact fin _
  · rw [c_noroom hC.s4 hx, bd_some, e]
    exact ⟨-1000001, σ, τ, rfl, rfl, ⟨n, p, t, hC⟩, hH, hT⟩
theorem c_sum0 {c : Nat} {σ : xM} : F_X0_sum c 0 σ = some (σ c 0, σ) := by
  unfold F_X0_sum
  rw [if_pos rfl]
theorem c_sum1 {c : Nat} {σ : xM} : F_X0_sum c 1 σ = some (σ c 1, σ) := by
  unfold F_X0_sum
  rw [if_neg (by decide), if_pos rfl]
theorem c_sum2 {c : Nat} {σ : xM} : F_X0_sum c 2 σ = some (σ c 2, σ) := by
  unfold F_X0_sum
  rw [if_neg (by decide), if_neg (by decide), if_pos rfl]
theorem c_sum3 {c : Nat} {σ : xM} : F_X0_sum c 3 σ = some (σ c 3, σ) := by
  unfold F_X0_sum
  rw [if_neg (by decide), if_neg (by decide), if_neg (by decide), if_pos rfl]
theorem c_sum4 {c : Nat} {σ : xM} : F_X0_sum c 4 σ = some (σ c 4, σ) := by
  unfold F_X0_sum
  rw [if_neg (by decide), if_neg (by decide), if_neg (by decide), if_neg (by decide), if_pos rfl]
theorem op_book {x y : Int32} : OpS (F_X6_book 0 x y) (F_X7_book 0 x y) := by
  intro σ τ hG
  obtain ⟨⟨n, p, t, hC⟩, hH, hT⟩ := hG
  unfold F_X6_book F_X7_book
  simp only [Nat.zero_add]
  rw [m_isRoom, bd_some, hC.t7]
  rcases room_cases hC.n6 x with ⟨r, hr, rfl, e⟩ | ⟨hx, e⟩
  · have r6 : r < 6 := by have := hC.n6; omega
    rw [c_room hC.s4 hr hC.n6, bd_some]
    show ∃ r' σ'' τ'', oc (some (1 + 7 + 2 * r)) _ _ = _ ∧ _
    rw [oc_some, if_pos (kd_room rfl r6), e, if_neg bz1n, m_in, bd_some]
    obtain ⟨⟨a0, a1, a2, a3, a4, a5, a6⟩, ⟨a7, a8, a9, a10, a11, a12, a13⟩, ⟨a14, a15, a16, a17, a18, a19, a20⟩⟩ := hC.rr hr
    have fin : ∀ z : Int32, ∃ r' σ'' τ'', some (z, σ) = some (r', σ'') ∧ some (z, τ) = some (r', τ'') ∧ GG σ'' τ'' := fun z => ⟨z, σ, τ, rfl, rfl, ⟨n, p, t, hC⟩, hH, hT⟩
    by_cases h1 : bz (inW y 0 4) = 0
    · rw [if_pos h1]
      have g := inW_2 h1
      have n0 : ∀ k : Int32, 0 ≤ k.toInt → k.toInt ≤ 4 → ¬ y = k := by
        intro k k1 k2 z
        have z0 : (0 : Int32).toInt = 0 := by decide
        have z13 : (4 : Int32).toInt = 4 := by decide
        rw [z] at g; omega
      unfold F_X0_sum
      rw [if_neg (n0 0 (by decide) (by decide)), if_neg (n0 1 (by decide) (by decide)), if_neg (n0 2 (by decide) (by decide)), if_neg (n0 3 (by decide) (by decide)), if_neg (n0 4 (by decide) (by decide)), bd_some]
      exact fin _
    · rw [if_neg h1]
      obtain ⟨j, hj, rfl⟩ := lit_cases y h1 (by decide) (B := 4) (by decide) (by omega)
      dsimp only
      have hj' : j = 0 ∨ j = 1 ∨ j = 2 ∨ j = 3 ∨ j = 4 := by omega
      rcases hj' with rfl | rfl | rfl | rfl | rfl
      · rw [show nI 0 = 0 from rfl, c_sum0, bd_some, show (16 : Int32) + 0 = nI 16 by decide, ofS r6 (by omega), bd_some]
        dsimp only
        rw [a16]
        exact fin _
      · rw [show nI 1 = 1 from rfl, c_sum1, bd_some, show (16 : Int32) + 1 = nI 17 by decide, ofS r6 (by omega), bd_some]
        dsimp only
        rw [a17]
        exact fin _
      · rw [show nI 2 = 2 from rfl, c_sum2, bd_some, show (16 : Int32) + 2 = nI 18 by decide, ofS r6 (by omega), bd_some]
        dsimp only
        rw [a18]
        exact fin _
      · rw [show nI 3 = 3 from rfl, c_sum3, bd_some, show (16 : Int32) + 3 = nI 19 by decide, ofS r6 (by omega), bd_some]
        dsimp only
        rw [a19]
        exact fin _
      · rw [show nI 4 = 4 from rfl, c_sum4, bd_some, show (16 : Int32) + 4 = nI 20 by decide, ofS r6 (by omega), bd_some]
        dsimp only
        rw [a20]
        exact fin _
  · rw [c_noroom hC.s4 hx, bd_some, e]
    exact ⟨-1000001, σ, τ, rfl, rfl, ⟨n, p, t, hC⟩, hH, hT⟩
theorem pair_cases {σ τ : xM} {n p t : Nat} (hC : CG σ τ n p t) (x y : Int32) : (∃ a b, a < n ∧ b < n ∧ a ≠ b ∧ x = nI a ∧ y = nI b ∧ F_X1_hasPair 1 x y σ = some (1, σ) ∧ F_X7_areRooms 0 x y τ = some (1, τ)) ∨ (F_X1_hasPair 1 x y σ = some (0, σ) ∧ F_X7_areRooms 0 x y τ = some (0, τ)) := by
  have hn := hC.n6
  unfold F_X1_hasPair F_X7_areRooms
  rw [m_isRoom, bd_some, hC.t7]
  dsimp only
  rcases room_cases hC.n6 x with ⟨a, ha, rfl, e⟩ | ⟨hx, e⟩
  · rw [e, if_neg bz1n, m_isRoom, bd_some, hC.t7]
    dsimp only
    rcases room_cases hC.n6 y with ⟨b, hb, rfl, e'⟩ | ⟨hy, e'⟩
    · rw [e', if_neg bz1n]
      by_cases h : a = b
      · subst h
        rw [if_pos rfl, if_pos rfl]
        exact Or.inr ⟨rfl, rfl⟩
      · have h' : ¬ nI a = nI b := fun z => h ((nI_eq (by omega) (by omega)).mp z)
        rw [if_neg h', if_neg h', c_room hC.s4 ha hn, bd_some]
        refine Or.inl ⟨a, b, ha, hb, h, rfl, rfl, ?_, rfl⟩
        rw [oc_some, if_pos (kd_room rfl (by omega)), c_room hC.s4 hb hn, bd_some, oc_some, if_pos (kd_room rfl (by omega))]
    · rw [e', if_pos bz_0]
      refine Or.inr ⟨?_, rfl⟩
      by_cases h : nI a = y
      · rw [if_pos h]
      · rw [if_neg h, c_room hC.s4 ha hn, bd_some, oc_some, if_pos (kd_room rfl (by omega)), c_noroom hC.s4 hy, bd_some]
        rfl
  · rw [e, if_pos bz_0]
    refine Or.inr ⟨?_, rfl⟩
    by_cases h : x = y
    · rw [if_pos h]
    · rw [if_neg h, c_noroom hC.s4 hx, bd_some]
      rfl
theorem lk_nI {a b : Nat} : (34 + (6 * nI a)) + nI b = nI (34 + 6 * a + b) := ixl_eq a b
theorem op_link {x y : Int32} : OpS (F_X6_link 0 x y) (F_X7_link 0 x y) := by
  intro σ τ hG
  obtain ⟨⟨n, p, t, hC⟩, hH, hT⟩ := hG
  have hn := hC.n6
  unfold F_X6_link F_X7_link
  simp only [Nat.zero_add]
  rcases pair_cases hC x y with ⟨a, b, ha, hb, hab, rfl, rfl, e1, e2⟩ | ⟨e1, e2⟩
  · rw [e1, e2, bd_some, bd_some, if_neg bz1n, if_neg bz1n, c_link (by omega) (by omega), bd_some, lk_nI, if_pos (inb_nI (by omega) (by omega)), cl_nI (by omega)]
    refine ⟨_, σ, τ, rfl, ?_, ⟨n, p, t, hC⟩, hH, hT⟩
    have := hC.2.1.2.2.2.2.1 (6 * a + b) (by omega)
    dsimp only
    rw [this, show 34 + (6 * a + b) = 34 + 6 * a + b by omega]
  · rw [e1, e2]
    exact ⟨-1000001, σ, τ, rfl, rfl, ⟨n, p, t, hC⟩, hH, hT⟩
