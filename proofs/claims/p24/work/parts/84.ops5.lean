/-! setNumber, count -/
theorem Rel_num {k n p j : Nat} {σ : xM} {s : Nat → Int32} {x : Int32} (h : Rel k n p σ s) (hj : j < 7) : Rel k n p (xup σ (k + 1) j x) (upd s j x) := by
  obtain ⟨hN7, h4, h5, ⟨hw, hW⟩, hL, hRR⟩ := h
  refine ⟨fun i hi => ?_, ?_, ?_, ⟨?_, fun j hj => ⟨?_, ?_⟩⟩, fun i hi => ?_, fun q hq => ?_⟩
  · rw [xup_same]
    by_cases e : i = j
    · subst e; rw [upd_same, upd_same]
    · rw [upd_ne e, upd_ne e]; exact hN7 i hi
  · rw [xup_ne (by omega)]; exact h4
  · rw [xup_ne (by omega), upd_ne (by omega)]; exact h5
  · rw [xup_ne (by omega)]; exact hw
  · rw [xup_ne (by omega), upd_ne (by omega)]; exact (hW j hj).1
  · rw [xup_ne (by omega), upd_ne (by omega)]; exact (hW j hj).2
  · rw [xup_ne (by omega), upd_ne (by omega)]; exact hL i hi
  · rw [xup_ne (by omega), xup_ne (by omega)]
    exact RR_v (hRR q hq) (fun f hf => (upd_ne (show 70 + 21 * q + f ≠ j by omega)).symm)
theorem Inv_num {s : Nat → Int32} {n p t j : Nat} {x : Int32} (h : Inv s n p t) (hj : j < 7) (h4 : j = 4 → 0 ≤ x.toInt ∧ x.toInt ≤ 100) (h5 : j = 5 → x.toInt ≤ 90000) : Inv (upd s j x) n p t := by
  obtain ⟨hn, ht, h7, h8, hN, hW, hL, hV, hz⟩ := h
  have lo : ∀ i, 7 ≤ i → upd s j x i = s i := fun i hi => upd_ne (by omega)
  refine ⟨hn, ht, ?_, ?_, ⟨?_, ?_⟩, ?_, ?_, ?_, ?_⟩
  · rw [lo _ (by omega)]; exact h7
  · rw [lo _ (by omega)]; exact h8
  · by_cases e : 4 = j
    · rw [e, upd_same]; exact h4 e.symm
    · rw [upd_ne e]; exact hN.1
  · by_cases e : 5 = j
    · rw [e, upd_same]; exact h5 e.symm
    · rw [upd_ne e]; exact hN.2
  · obtain ⟨w1, w2, w3, w4, w5⟩ := hW
    refine ⟨w1, by rw [lo 9 (by omega)]; exact w2, fun j hj => ?_, fun j hj => ?_, fun j hj => ?_⟩
    · rw [lo _ (by omega)]; exact w3 j hj
    · rw [lo _ (by omega), lo _ (by omega)]; exact w4 j hj
    · rw [lo _ (by omega)]; exact w5 j hj
  · intro a b ha hb
    rw [lo _ (by omega), lo _ (by omega)]
    exact hL a b ha hb
  · intro q hq
    rw [sl_congr (s' := s) (show q < 6 by omega) (fun j h1 h2 => lo j (by omega)) 6 (by omega)]
    exact IvV_v (hV q hq) (fun f hf => (lo _ (by omega)).symm)
  · intro q hq hq6 f hf
    show upd s j x (70 + 21 * q + f) = 0
    rw [lo _ (by omega)]
    exact hz q hq hq6 f hf
theorem GG_num {σ τ : xM} {n p t j : Nat} {x : Int32} (hC : CG σ τ n p t) (hH : HG σ τ) (hT : TG σ τ) (hj : j < 7) (h4 : j = 4 → 0 ≤ x.toInt ∧ x.toInt ≤ 100) (h5 : j = 5 → x.toInt ≤ 90000) : GG (xup σ 2 j x) (xup τ 1 j x) := by
  obtain ⟨ht, R, I⟩ := hC
  refine ⟨⟨n, p, t, ht, ?_, ?_⟩, HG_c hH (fun i h1 h2 => xup_ne (by omega)) (fun j => by rw [xup_ne (by omega)]) (by rw [xup_ne (by omega)]), TG_c hT (by rw [xup_ne (by omega)]) (fun j => by rw [xup_ne (by omega)]) (fun j => by rw [xup_ne (by omega)]) (by rw [xup_ne (by omega)])⟩
  · rw [xup_same]; exact Rel_num R hj
  · rw [xup_same]; exact Inv_num I hj h4 h5
theorem m_isN0 {x : Int32} {τ : xM} : F_X7_isNumber 0 x τ = some (inW x 1 100, τ) := by
  unfold F_X7_isNumber
  rw [if_pos rfl, m_in, bd_some]
theorem m_isN1 {x : Int32} {τ : xM} : F_X7_isNumber 1 x τ = some (inW x 1 9999, τ) := by
  unfold F_X7_isNumber
  rw [if_neg (by decide), if_pos rfl, m_in, bd_some]
theorem m_isN2 {x : Int32} {τ : xM} : F_X7_isNumber 2 x τ = some (inW x 1 50, τ) := by
  unfold F_X7_isNumber
  rw [if_neg (by decide), if_neg (by decide), if_pos rfl, m_in, bd_some]
theorem m_isN3 {x : Int32} {τ : xM} : F_X7_isNumber 3 x τ = some (inW x 0 120, τ) := by
  unfold F_X7_isNumber
  rw [if_neg (by decide), if_neg (by decide), if_neg (by decide), if_pos rfl, m_in, bd_some]
theorem m_isN4 {x : Int32} {τ : xM} : F_X7_isNumber 4 x τ = some (inW x 0 100, τ) := by
  unfold F_X7_isNumber
  rw [if_neg (by decide), if_neg (by decide), if_neg (by decide), if_neg (by decide), if_pos rfl, m_in, bd_some]
theorem m_isN5 {x : Int32} {τ : xM} : F_X7_isNumber 5 x τ = some (inW x 20000 90000, τ) := by
  unfold F_X7_isNumber
  rw [if_neg (by decide), if_neg (by decide), if_neg (by decide), if_neg (by decide), if_neg (by decide), if_pos rfl, m_in, bd_some]
theorem m_isN6 {x : Int32} {τ : xM} : F_X7_isNumber 6 x τ = some (inW x 1 120, τ) := by
  unfold F_X7_isNumber
  rw [if_neg (by decide), if_neg (by decide), if_neg (by decide), if_neg (by decide), if_neg (by decide), if_neg (by decide), if_pos rfl, m_in, bd_some]
theorem c_isN {j : Nat} (hj : j < 7) {x : Int32} {σ : xM} : F_X6_isNumberInRange (nI j) x σ = some (if bz (inW x (stI 1 j) (stI 2 j)) = 0 then 0 else 1, σ) := by
  have h7 : ¬ (7 : Int32) ≤ nI j := nI_ge (b := 7) hj (by omega)
  unfold F_X6_isNumberInRange
  rw [if_neg (nI_pos (by omega)), if_neg h7, if_neg h7, if_pos (inb_nI hj (by omega)), if_pos (inb_nI hj (by omega)), cl_nI (by omega), c_in, bd_some]
  by_cases h : bz (inW x (stI 1 j) (stI 2 j)) = 0
  · rw [if_pos h, if_pos h]
  · rw [if_neg h, if_neg h]
theorem op_setNumber {x a : Int32} : OpS (F_X6_setNumber 0 x a) (F_X7_setNumber 0 x a) := by
  intro σ τ hG
  have hG0 := hG
  obtain ⟨⟨n, p, t, hC⟩, hH, hT⟩ := hG
  unfold F_X6_setNumber F_X7_setNumber
  simp only [Nat.zero_add]
  by_cases hx : ∃ j, j < 7 ∧ x = nI j
  · obtain ⟨j, hj, rfl⟩ := hx
    have em : F_X7_isNumber (nI j) a τ = some (inW a (stI 1 j) (stI 2 j), τ) := by
      have hj' : j = 0 ∨ j = 1 ∨ j = 2 ∨ j = 3 ∨ j = 4 ∨ j = 5 ∨ j = 6 := by omega
      rcases hj' with rfl | rfl | rfl | rfl | rfl | rfl | rfl
      · exact m_isN0
      · exact m_isN1
      · exact m_isN2
      · exact m_isN3
      · exact m_isN4
      · exact m_isN5
      · exact m_isN6
    rw [c_isN hj, bd_some, em, bd_some]
    dsimp only
    by_cases h : bz (inW a (stI 1 j) (stI 2 j)) = 0
    · rw [if_pos h, if_pos bz_0, if_pos h]
      exact ⟨-1000001, σ, τ, rfl, rfl, hG0⟩
    · rw [if_neg h, if_neg bz1n, if_neg h]
      obtain ⟨σ', τ', E, N, hC', hH', hT', f1, f2, f3⟩ := after hC hH hT
      rw [E, bd_some, N, bd_some]
      dsimp only
      rw [c_num hj, bd_some, if_pos (inb_nI (by omega) (by omega)), nm_eq, if_pos (inb_nI (by omega) (by omega)), nm_eq, cl_nI (by omega)]
      dsimp only
      unfold F_X1_putNumber
      rw [if_neg (nI_pos (by omega)), if_neg (show ¬ (7 : Int32) ≤ nI j from nI_ge (b := 7) hj (by omega)), if_pos (inb_nI hj (by omega)), nm_eq, bd_some, cl_nI (by omega)]
      dsimp only
      obtain ⟨w1, w2, _⟩ := inW_1 h
      refine ⟨_, _, _, rfl, by rw [hC'.2.1.1 j hj], GG_num hC' hH' hT' hj ?_ ?_⟩
      · rintro rfl
        have e1 : (stI 1 4).toInt = 0 := by decide
        have e2 : (stI 2 4).toInt = 100 := by decide
        omega
      · rintro rfl
        have e2 : (stI 2 5).toInt = 90000 := by decide
        omega
  · have hc : F_X6_isNumberInRange x a σ = some (0, σ) := by
      unfold F_X6_isNumberInRange
      by_cases h0 : x < 0
      · rw [if_pos h0]
      · rw [if_neg h0]
        obtain ⟨j, hj, rfl⟩ := nI_of h0
        rw [if_pos (show (7 : Int32) ≤ nI j from nI_le (a := 7) (by
          rcases Nat.lt_or_ge j 7 with z | z
          · exact absurd ⟨j, z, rfl⟩ hx
          · exact z) hj)]
    have hm : F_X7_isNumber x a τ = some (0, τ) := by
      have n0 : ∀ j : Nat, j < 7 → ¬ x = nI j := fun j hj z => hx ⟨j, hj, z⟩
      unfold F_X7_isNumber
      rw [if_neg (show ¬ x = 0 from n0 0 (by omega)), if_neg (show ¬ x = 1 from n0 1 (by omega)), if_neg (show ¬ x = 2 from n0 2 (by omega)), if_neg (show ¬ x = 3 from n0 3 (by omega)), if_neg (show ¬ x = 4 from n0 4 (by omega)), if_neg (show ¬ x = 5 from n0 5 (by omega)), if_neg (show ¬ x = 6 from n0 6 (by omega))]
    rw [hc, hm, bd_some, bd_some, if_pos bz_0]
    exact ⟨-1000001, σ, τ, rfl, rfl, hG0⟩
/-- two sums over the rooms -/
theorem both_sus {n p : Nat} {σ τ : xM} (R : Rel 1 n p σ (τ 1)) (hn : n ≤ 6) (h7 : τ 1 7 = nI n) : ∀ d i N N' v, i + d = n → d < N → d < N' → ∃ z, F_X1_suspectRooms_L4 1 N v (nI i) σ = some (z, σ) ∧ F_X7_count_L34 0 N' v (nI i) τ = some (z, τ) := by
  intro d
  induction d with
  | zero =>
    intro i N N' v hi hN hN'
    obtain ⟨N, rfl⟩ : ∃ M, N = M + 1 := ⟨N - 1, by omega⟩
    obtain ⟨N', rfl⟩ : ∃ M, N' = M + 1 := ⟨N' - 1, by omega⟩
    obtain rfl : i = n := by omega
    refine ⟨v, ?_, ?_⟩
    · rw [F_X1_suspectRooms_L4, R.2.1, if_pos (nI_le (Nat.le_refl i) (by omega))]
    · rw [F_X7_count_L34, if_pos inl7, Nat.zero_add, cll7, h7, if_pos (nI_le (Nat.le_refl i) (by omega))]
  | succ d ih =>
    intro i N N' v hi hN hN'
    obtain ⟨N, rfl⟩ : ∃ M, N = M + 1 := ⟨N - 1, by omega⟩
    obtain ⟨N', rfl⟩ : ∃ M, N' = M + 1 := ⟨N' - 1, by omega⟩
    have hin : i < n := by omega
    have rr := R.2.2.2.2.2 i hin
    rw [F_X1_suspectRooms_L4, R.2.1, if_neg (nI_ge hin (by omega)), c_room R.2.1 hin hn, bd_some, oc_some, if_pos (kd_room rfl (by omega)), F_X7_count_L34, if_pos inl7, Nat.zero_add, cll7, h7, if_neg (nI_ge hin (by omega))]
    unfold F_X1_isSuspect F_X7_isSuspect
    rw [c_num6, bd_some, show (13 : Int32) = nI 13 from rfl, ofS (by omega) (by omega), bd_some, if_pos inl6, Nat.zero_add, cll6]
    dsimp only
    have e6 : σ (1 + 1) 6 = τ 1 6 := R.1 6 (by omega)
    have e16 : σ (1 + 7 + 2 * i) 16 = vw (τ 1) i 13 := rr.2.1.2.2.2.2.2.2
    by_cases h : vw (τ 1) i 13 < τ 1 6
    · rw [if_pos (by rw [e6, e16]; exact h), if_pos h, bd_some, bd_some]
      dsimp only
      rw [if_pos bz_0, if_pos bz_0, nm_eq, nm_eq, nI_1]
      exact ih (i + 1) N N' _ (by omega) (by omega) (by omega)
    · rw [if_neg (by rw [e6, e16]; exact h), if_neg h, bd_some, bd_some]
      dsimp only
      rw [if_neg bz1n, if_neg bz1n, nm_eq, nm_eq, nI_1]
      exact ih (i + 1) N N' _ (by omega) (by omega) (by omega)
theorem both_fin {n p : Nat} {σ τ : xM} (R : Rel 1 n p σ (τ 1)) (hn : n ≤ 6) (h7 : τ 1 7 = nI n) : ∀ d i N N' v, i + d = n → d < N → d < N' → ∃ z, F_X1_allFines_L4 1 N v (nI i) σ = some (z, σ) ∧ F_X7_count_L71 0 N' v (nI i) τ = some (z, τ) := by
  intro d
  induction d with
  | zero =>
    intro i N N' v hi hN hN'
    obtain ⟨N, rfl⟩ : ∃ M, N = M + 1 := ⟨N - 1, by omega⟩
    obtain ⟨N', rfl⟩ : ∃ M, N' = M + 1 := ⟨N' - 1, by omega⟩
    obtain rfl : i = n := by omega
    refine ⟨v, ?_, ?_⟩
    · rw [F_X1_allFines_L4, R.2.1, if_pos (nI_le (Nat.le_refl i) (by omega))]
    · rw [F_X7_count_L71, if_pos inl7, Nat.zero_add, cll7, h7, if_pos (nI_le (Nat.le_refl i) (by omega))]
  | succ d ih =>
    intro i N N' v hi hN hN'
    obtain ⟨N, rfl⟩ : ∃ M, N = M + 1 := ⟨N - 1, by omega⟩
    obtain ⟨N', rfl⟩ : ∃ M, N' = M + 1 := ⟨N' - 1, by omega⟩
    have hin : i < n := by omega
    have rr := R.2.2.2.2.2 i hin
    have e15 : σ (1 + 7 + 2 * i) 15 = vw (τ 1) i 12 := rr.2.1.2.2.2.2.2.1
    rw [F_X1_allFines_L4, R.2.1, if_neg (nI_ge hin (by omega)), c_room R.2.1 hin hn, bd_some, oc_some, if_pos (kd_room rfl (by omega)), F_X7_count_L71, if_pos inl7, Nat.zero_add, cll7, h7, if_neg (nI_ge hin (by omega)), show (12 : Int32) = nI 12 from rfl, ofS (by omega) (by omega), bd_some, nm_eq, nm_eq, nI_1]
    dsimp only
    rw [e15]
    exact ih (i + 1) N N' _ (by omega) (by omega) (by omega)
theorem both_heat {k n p : Nat} {σ τ : xM} (hk : kd k = 1) (R : Rel k n p σ (τ 1)) (hn : n ≤ 6) (h7 : τ 1 7 = nI n) : ∀ d i N N' v, i + d = n → d < N → d < N' → ∃ z, F_X1_heatFromHeaters_L4 k N v (nI i) σ = some (z, σ) ∧ F_X7_heated_L4 0 N' v (nI i) τ = some (z, τ) := by
  intro d
  induction d with
  | zero =>
    intro i N N' v hi hN hN'
    obtain ⟨N, rfl⟩ : ∃ M, N = M + 1 := ⟨N - 1, by omega⟩
    obtain ⟨N', rfl⟩ : ∃ M, N' = M + 1 := ⟨N' - 1, by omega⟩
    obtain rfl : i = n := by omega
    refine ⟨v, ?_, ?_⟩
    · rw [F_X1_heatFromHeaters_L4, R.2.1, if_pos (nI_le (Nat.le_refl i) (by omega))]
    · rw [F_X7_heated_L4, if_pos inl7, Nat.zero_add, cll7, h7, if_pos (nI_le (Nat.le_refl i) (by omega))]
  | succ d ih =>
    intro i N N' v hi hN hN'
    obtain ⟨N, rfl⟩ : ∃ M, N = M + 1 := ⟨N - 1, by omega⟩
    obtain ⟨N', rfl⟩ : ∃ M, N' = M + 1 := ⟨N' - 1, by omega⟩
    have hin : i < n := by omega
    have rr := R.2.2.2.2.2 i hin
    have e15 : σ (k + 7 + 2 * i + 1) 1 = vw (τ 1) i 17 := rr.2.2.2.2.2.1
    rw [F_X1_heatFromHeaters_L4, R.2.1, if_neg (nI_ge hin (by omega)), c_room R.2.1 hin hn, bd_some, oc_some, if_pos (kd_room hk (by omega)), F_X7_heated_L4, if_pos inl7, Nat.zero_add, cll7, h7, if_neg (nI_ge hin (by omega)), show (17 : Int32) = nI 17 from rfl, ofS (by omega) (by omega), bd_some, nm_eq, nm_eq, nI_1]
    dsimp only
    rw [e15]
    exact ih (i + 1) N N' _ (by omega) (by omega) (by omega)
theorem op_count {x : Int32} : OpS (F_X6_count 0 x) (F_X7_count 0 x) := by
  intro σ τ hG
  have hG0 := hG
  obtain ⟨⟨n, p, t, hC⟩, hH, hT⟩ := hG
  have R := hC.2.1
  have I := hC.2.2
  have hn := hC.n6
  have fin : ∀ z : Int32, ∃ r' σ'' τ'', some (z, σ) = some (r', σ'') ∧ some (z, τ) = some (r', τ'') ∧ GG σ'' τ'' := fun z => ⟨z, σ, τ, rfl, rfl, hG0⟩
  unfold F_X6_count F_X7_count
  simp only [Nat.zero_add]
  rw [c_in, bd_some]
  by_cases h : bz (inW x 0 6) = 0
  · rw [if_pos h]
    have g := inW_2 h
    have z0 : (0 : Int32).toInt = 0 := by decide
    have z6 : (6 : Int32).toInt = 6 := by decide
    have z9 : (9 : Int32).toInt = 9 := by decide
    rw [z0, z6] at g
    by_cases h7 : x = 7
    · subst h7
      rw [if_pos rfl, if_neg (by decide), if_neg (by decide), if_neg (by decide), if_neg (by decide), m_in, bd_some, if_neg (show ¬ bz (inW 7 0 9) = 0 by decide), if_pos (by decide)]
      dsimp only
      rw [show Int32.toNatClampNeg 7 = 7 by decide, R.2.1, hC.t7]
      exact fin _
    rw [if_neg h7]
    by_cases h8 : x = 8
    · subst h8
      rw [if_pos rfl, if_neg (by decide), if_neg (by decide), if_neg (by decide), if_neg (by decide), m_in, bd_some, if_neg (show ¬ bz (inW 8 0 9) = 0 by decide), if_pos (by decide)]
      dsimp only
      rw [show Int32.toNatClampNeg 8 = 8 by decide, R.2.2.1]
      exact fin _
    rw [if_neg h8]
    by_cases h9 : x = 9
    · subst h9
      rw [if_pos rfl, if_neg (by decide), if_neg (by decide), if_neg (by decide), if_neg (by decide), m_in, bd_some, if_neg (show ¬ bz (inW 9 0 9) = 0 by decide), if_pos (by decide)]
      dsimp only
      have w : σ 5 2 = nI p := R.2.2.2.1.1
      rw [show Int32.toNatClampNeg 9 = 9 by decide, w, I.2.2.2.2.2.1.2.1]
      exact fin _
    rw [if_neg h9]
    by_cases h10 : x = 10
    · subst h10
      rw [if_pos rfl, if_pos rfl]
      obtain ⟨z, e1, e2⟩ := both_sus R hn hC.t7 n 0 FU FU 0 (by omega) (by rw [FU_eq]; omega) (by rw [FU_eq]; omega)
      rw [nI_0] at e1 e2
      unfold F_X1_suspectRooms
      rw [e1, e2, bd_some]
      exact fin _
    rw [if_neg h10, if_neg h10]
    by_cases h11 : x = 11
    · subst h11
      rw [if_pos rfl, if_pos rfl]
      obtain ⟨z, e1, e2⟩ := both_fin R hn hC.t7 n 0 FU FU 0 (by omega) (by rw [FU_eq]; omega) (by rw [FU_eq]; omega)
      rw [nI_0] at e1 e2
      unfold F_X1_allFines
      rw [e1, e2, bd_some]
      exact fin _
    rw [if_neg h11, if_neg h11]
    by_cases h12 : x = 12
    · obtain ⟨m, hm, b1, b2, _⟩ := hT
      rw [if_pos h12, if_pos h12]
      dsimp only
      rw [b1, b2]
      exact fin _
    rw [if_neg h12, if_neg h12]
    by_cases h13 : x = 13
    · obtain ⟨c, x', hc, hx, b1, b2, _⟩ := hH
      rw [if_pos h13, if_pos h13]
      dsimp only
      rw [b1, b2]
      exact fin _
    rw [if_neg h13, if_neg h13, m_in, bd_some]
    have o9 : bz (inW x 0 9) = 0 := by
      rcases bz_cases (inW x 0 9) with q | q
      · exact q
      · exfalso
        obtain ⟨w1, w2, _⟩ := inW_1 (x := x) (a := 0) (b := 9) (by rw [q]; decide)
        rw [z0] at w1
        rw [z9] at w2
        have n7 : x.toInt ≠ 7 := fun z => h7 (i_ext z)
        have n8 : x.toInt ≠ 8 := fun z => h8 (i_ext z)
        have n9 : x.toInt ≠ 9 := fun z => h9 (i_ext z)
        omega
    rw [if_pos o9]
    exact fin _
  · rw [if_neg h]
    obtain ⟨j, hj, rfl⟩ := lit_cases x h (by decide) (B := 6) (by decide) (by omega)
    dsimp only
    have nj : ∀ k : Nat, 10 ≤ k → k < 14 → ¬ nI j = nI k := fun k h1 h2 z => by
      have := (nI_eq (by omega) (by omega)).mp z
      omega
    have o9 : ¬ bz (inW (nI j) 0 9) = 0 := by
      intro q
      have := inW_2 q
      rw [nI_toInt (by omega), show (0 : Int32).toInt = 0 by decide, show (9 : Int32).toInt = 9 by decide] at this
      omega
    rw [c_num (by omega), bd_some, if_neg (show ¬ nI j = 10 from nj 10 (by omega) (by omega)), if_neg (show ¬ nI j = 11 from nj 11 (by omega) (by omega)), if_neg (show ¬ nI j = 12 from nj 12 (by omega) (by omega)), if_neg (show ¬ nI j = 13 from nj 13 (by omega) (by omega)), m_in, bd_some, if_neg o9, if_pos (inb_nI (by omega) (by omega)), cl_nI (by omega)]
    dsimp only
    rw [R.1 j (by omega)]
    exact fin _
