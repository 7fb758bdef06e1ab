/-! warm, setNumber -/
theorem l_200 {c : Int32} : (200 * c.toInt64).toInt = 200 * c.toInt := by
  have h1 := (i_rng c).1
  have h2 := (i_rng c).2
  rw [Int64.toInt_mul, Int32.toInt_toInt64, show (200 : Int64).toInt = 200 from rfl]
  exact Int.bmod_eq_of_le (by simp; omega) (by simp; omega)
theorem l_neg {x : Int64} {y : Int} (h : x.toInt = y) (h1 : -1000000000000 ≤ y) (h2 : y ≤ 1000000000000) : (-x).toInt = -y := by
  rw [Int64.toInt_neg, h]
  exact Int.bmod_eq_of_le (by simp; omega) (by simp; omega)
theorem l_plus {a b : Int32} : (a.toInt64 + b.toInt64).toInt = a.toInt + b.toInt := by
  have h1 := (i_rng a).1
  have h2 := (i_rng a).2
  have h3 := (i_rng b).1
  have h4 := (i_rng b).2
  rw [Int64.toInt_add, Int32.toInt_toInt64, Int32.toInt_toInt64]
  exact Int.bmod_eq_of_le (by simp; omega) (by simp; omega)
theorem l_i32 {a b : Int32} : (a.toInt64 + b.toInt64).toInt32 = a + b := by simp
theorem op_warm {x a : Int32} : OpS (F_X6_warm 0 x a) (F_X7_warm 0 x a) := by
  intro σ τ hG
  have hG0 := hG
  obtain ⟨⟨n, p, t, hC⟩, hH, hT⟩ := hG
  unfold F_X6_warm F_X7_warm
  simp only [Nat.zero_add]
  rw [m_isRoom, bd_some, hC.t7]
  rcases room_cases hC.n6 x with ⟨r, hr, rfl, e⟩ | ⟨hx, e⟩
  · have r6 : r < 6 := by have := hC.n6; omega
    have cap := hC.cap hr
    rw [c_room hC.s4 hr hC.n6, bd_some]
    show ∃ r' σ'' τ'', oc (some (1 + 7 + 2 * r)) _ _ = _ ∧ _
    obtain ⟨⟨a0, a1, a2, a3, a4, a5, a6⟩, ⟨a7, a8, a9, a10, a11, a12, a13⟩, ⟨a14, a15, a16, a17, a18, a19, a20⟩⟩ := hC.rr hr
    have cap1 : 0 < σ (1 + 7 + 2 * r) 1 := by rw [a0]; exact cap
    rw [oc_some, if_pos (kd_room rfl r6), e, if_neg bz1n, c_in, bd_some, m_in, bd_some]
    by_cases h1 : bz (inW a (-50000) 50000) = 0
    · rw [if_pos h1, if_pos h1]
      exact ⟨-1000001, σ, τ, rfl, rfl, hG0⟩
    rw [if_neg h1, if_neg h1]
    dsimp only
    have o0 := ofS (τ := τ) (r := r) (f := 0) r6 (by omega)
    have o1 := ofS (τ := τ) (r := r) (f := 1) r6 (by omega)
    rw [nI_0] at o0
    rw [show nI 1 = 1 from rfl] at o1
    rw [c_temp cap1, bd_some, o0, bd_some, nm_eq]
    dsimp only
    rw [o1, bd_some, nm_eq, c_in, bd_some]
    dsimp only
    have hV := hC.iv hr
    obtain ⟨⟨h0, hp, h3, hq, h7, h14, h11, h12⟩, hx⟩ := hV
    obtain ⟨g1, g2, _⟩ := inW_1 h1
    have z5 : (50000 : Int32).toInt = 50000 := by decide
    have z5' : (-50000 : Int32).toInt = -50000 := by decide
    have z20 : (200000 : Int32).toInt = 200000 := by decide
    have z20' : (-200000 : Int32).toInt = -200000 := by decide
    rw [z5'] at g1
    rw [z5] at g2
    have eD : degI (σ (1 + 7 + 2 * r) 4 + a) (σ (1 + 7 + 2 * r) 1) = degI (vw (τ 1) r 1 + a) (vw (τ 1) r 0) := by rw [a0, a1]
    have eq : (vw (τ 1) r 1 + a).toInt = (vw (τ 1) r 1).toInt + a.toInt := i_add (by omega) (by omega)
    have efl : (degI (vw (τ 1) r 1 + a) (vw (τ 1) r 0)).toInt = (1000 * ((vw (τ 1) r 1).toInt + a.toInt)) / (vw (τ 1) r 0).toInt := by
      rw [fdiv_i (by omega) (by rw [eq]; omega) (by rw [eq]; omega), eq]
    -- both tests
    have key : bz (inW (degI (vw (τ 1) r 1 + a) (vw (τ 1) r 0)) (-200000) 200000) = 0 ∨ (¬ bz (inW (degI (vw (τ 1) r 1 + a) (vw (τ 1) r 0)) (-200000) 200000) = 0) := by
      by_cases h : bz (inW (degI (vw (τ 1) r 1 + a) (vw (τ 1) r 0)) (-200000) 200000) = 0
      · exact Or.inl h
      · exact Or.inr h
    generalize hc : (vw (τ 1) r 0).toInt = c at *
    generalize hQ : (vw (τ 1) r 1).toInt + a.toInt = Q at *
    have f1 : c * ((1000 * Q) / c) ≤ 1000 * Q := Int.mul_ediv_self_le (by omega)
    have f2 : 1000 * Q < c * ((1000 * Q) / c) + c := Int.lt_mul_ediv_self_add (by omega)
    have lt1 : (lg_cmp ((vw (τ 1) r 1).toInt64 + a.toInt64) (-(200 * (vw (τ 1) r 0).toInt64)) < 0) ↔ Q < -(200 * c) := by
      rw [lg_cmp_lt, Int64.lt_iff_toInt_lt, l_plus, hQ, l_neg (y := 200 * c) (by rw [l_200, hc]) (by omega) (by omega)]
    have lt2 : (lg_cmp ((vw (τ 1) r 1).toInt64 + a.toInt64) (200 * (vw (τ 1) r 0).toInt64) < 0) ↔ Q < 200 * c := by
      rw [lg_cmp_lt, Int64.lt_iff_toInt_lt, l_plus, hQ, l_200, hc]
    have fdlo : (1000 * Q) / c < -200000 ↔ Q < -(200 * c) := by
      constructor
      · intro z
        have : c * ((1000 * Q) / c) ≤ c * (-200001) := Int.mul_le_mul_of_nonneg_left (by omega) (by omega)
        omega
      · intro z
        have := Int.ediv_lt_of_lt_mul (show 0 < c by omega) (show 1000 * Q < -200000 * c by omega)
        exact this
    have fdhi : Q < 200 * c → (1000 * Q) / c ≤ 200000 := by
      intro z
      have := Int.ediv_lt_of_lt_mul (show 0 < c by omega) (show 1000 * Q < 200001 * c by omega)
      omega
    have good : ((1000 * Q) / c ≤ 200000) → -(200 * c) ≤ Q → ∃ r' σ'' τ'', ((F_X2_save 39 1 σ).bind fun q8 => (F_X3_bringIn (1 + 7 + 2 * r) a q8.2).bind fun q9 => some (degI (vw (τ 1) r 1 + a) (vw (τ 1) r 0), q9.2)) = some (r', σ'') ∧ F_X7_warm_J81 0 (nI r) a τ = some (r', τ'') ∧ GG σ'' τ'' := by
      intro hi lo
      obtain ⟨σ', τ', E, N, hC', hH', hT', f1, f2, f3⟩ := after hC hH hT
      have et : τ' 1 = τ 1 := f2 1 (by omega) (by omega)
      obtain ⟨⟨a0, a1, a2, a3, a4, a5, a6⟩, ⟨a7, a8, a9, a10, a11, a12, a13⟩, ⟨a14, a15, a16, a17, a18, a19, a20⟩⟩ := hC'.rr hr
      rw [E, bd_some]
      unfold F_X7_warm_J81 F_X3_bringIn
      rw [N, bd_some]
      dsimp only
      simp only [nm_eq, bd_some]
      refine ⟨_, _, stm τ' r (upd (upd (vw (τ' 1) r) 1 (vw (τ' 1) r 1 + a)) 20 (vw (τ' 1) r 20 + a)), rfl, ?_, GG_set hC' hH' hT' hr ?_ ?_ ?_⟩
      · have hst := (stm_self (τ := τ') (r := r)).symm
        rw [← et]
        rw [← et] at cap
        generalize hv : vw (τ' 1) r = v at hst cap ⊢
        rw [hst, grows_st1 r6, bd_some]
        dsimp only
        rw [grows_st20 r6, bd_some]
        dsimp only
        rw [upd_ne (show (20 : Nat) ≠ 1 by omega), m_temp r6 (by rw [upd_ne (by omega), upd_ne (by omega)]; exact ne0_of cap), bd_some, stm_stm]
        rw [upd_ne (show (1 : Nat) ≠ 20 by omega), upd_same, upd_ne (show (0 : Nat) ≠ 20 by omega), upd_ne (show (0 : Nat) ≠ 1 by omega)]
      · have x1 : (xup (xup σ' (1 + 7 + 2 * r) 4 (σ' (1 + 7 + 2 * r) 4 + a)) (1 + 7 + 2 * r + 1) 4 (xup σ' (1 + 7 + 2 * r) 4 (σ' (1 + 7 + 2 * r) 4 + a) (1 + 7 + 2 * r + 1) 4 + a)) (1 + 7 + 2 * r) = upd (σ' (1 + 7 + 2 * r)) 4 (σ' (1 + 7 + 2 * r) 4 + a) := by rw [xup_ne (by omega), xup_same]
        have x2 : (xup (xup σ' (1 + 7 + 2 * r) 4 (σ' (1 + 7 + 2 * r) 4 + a)) (1 + 7 + 2 * r + 1) 4 (xup σ' (1 + 7 + 2 * r) 4 (σ' (1 + 7 + 2 * r) 4 + a) (1 + 7 + 2 * r + 1) 4 + a)) (1 + 7 + 2 * r + 1) = upd (σ' (1 + 7 + 2 * r + 1)) 4 (σ' (1 + 7 + 2 * r + 1) 4 + a) := by rw [xup_same, xup_ne (by omega)]
        rw [x1, x2]
        rw [a1, a20]
        exact ⟨⟨a0, rfl, a2, a3, a4, a5, a6⟩, ⟨a7, a8, a9, a10, a11, a12, a13⟩, ⟨a14, a15, a16, a17, a18, a19, rfl⟩⟩
      · intro i h1 h2
        rw [xup_ne h2, xup_ne h1]
      · rw [et]
        have u1 : (upd (upd (vw (τ 1) r) 1 (vw (τ 1) r 1 + a)) 20 (vw (τ 1) r 20 + a)) 1 = vw (τ 1) r 1 + a := by rw [upd_ne (by omega), upd_same]
        have lim : 1000 * Q < 200001 * c := by
          have : c * ((1000 * Q) / c) ≤ c * 200000 := Int.mul_le_mul_of_nonneg_left hi (by omega)
          omega
        refine ⟨⟨by rw [← hc] at h0; exact h0, hp, by rw [← hc] at h3; exact h3, ⟨?_, ?_⟩, h7, h14, h11, h12⟩, Or.inl ?_⟩
        · rw [u1, eq]
          show -200000 * (vw (τ 1) r 0).toInt ≤ _
          rw [hc]; omega
        · rw [u1, eq]
          show _ < 240001 * (vw (τ 1) r 0).toInt
          rw [hc]; omega
        · rw [u1, eq]
          show _ < 200001 * (vw (τ 1) r 0).toInt
          rw [hc]; omega
    have bad : ∃ r' σ'' τ'', some ((-1000002 : Int32), σ) = some (r', σ'') ∧ some ((-1000002 : Int32), τ) = some (r', τ'') ∧ GG σ'' τ'' := ⟨_, σ, τ, rfl, rfl, hG0⟩
    rw [eD]
    rcases key with k | k
    · rw [if_pos k]
      have k' := inW_2 k
      rw [efl, z20, z20'] at k'
      by_cases c1 : Q < -(200 * c)
      · rw [if_pos (lt1.mpr c1)]; exact bad
      · have k3 : 200000 < (1000 * Q) / c := by
          rcases k' with q | q
          · exact absurd (fdlo.mp q) c1
          · exact q
        have c2 : ¬ Q < 200 * c := fun z => by have := fdhi z; omega
        rw [if_neg (fun z => c1 (lt1.mp z)), if_neg (fun z => c2 (lt2.mp z)), o0, bd_some]
        dsimp only
        rw [l_i32, m_deg (ne0_of cap), bd_some]
        dsimp only
        rw [if_neg (by rw [i_le, efl, z20]; omega)]
        exact bad
    · rw [if_neg k]
      obtain ⟨k1, k2, _⟩ := inW_1 k
      rw [efl, z20'] at k1
      rw [efl, z20] at k2
      have c1 : ¬ Q < -(200 * c) := fun z => by have := fdlo.mpr z; omega
      rw [if_neg (fun z => c1 (lt1.mp z))]
      have G := good k2 (by omega)
      by_cases c2 : Q < 200 * c
      · rw [if_pos (lt2.mpr c2)]; exact G
      · rw [if_neg (fun z => c2 (lt2.mp z)), o0, bd_some]
        dsimp only
        rw [l_i32, m_deg (ne0_of cap), bd_some]
        dsimp only
        rw [if_pos (by rw [i_le, efl, z20]; omega)]
        exact G
  · rw [c_noroom hC.s4 hx, bd_some, e]
    exact ⟨-1000001, σ, τ, rfl, rfl, hG0⟩
