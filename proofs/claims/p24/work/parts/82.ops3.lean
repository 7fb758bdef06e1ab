/-! operations that change one room -/
theorem kelv {v : Nat → Int32} {S : Int} {t : Nat} (h : IvV v S t) : ∃ T : Int, (degI (v 1) (v 0)).toInt = T ∧ -200000 ≤ T ∧ T ≤ 240000 ∧ (v 0).toInt * T ≤ 1000 * (v 1).toInt ∧ 1000 * (v 1).toInt < (v 0).toInt * T + (v 0).toInt :=
  tmp_i h.1.1.1 h.1.1.2 h.1.2.2.2.1.1 h.1.2.2.2.1.2
theorem op_resetCutout {x : Int32} : OpS (F_X6_resetCutout 0 x) (F_X7_resetCutout 0 x) := by
  intro σ τ hG
  obtain ⟨⟨n, p, t, hC⟩, hH, hT⟩ := hG
  unfold F_X6_resetCutout F_X7_resetCutout
  simp only [Nat.zero_add]
  rw [m_isRoom, bd_some, hC.t7]
  rcases room_cases hC.n6 x with ⟨r, hr, rfl, e⟩ | ⟨hx, e⟩
  · have r6 : r < 6 := by have := hC.n6; omega
    have cap := hC.cap hr
    rw [c_room hC.s4 hr hC.n6, bd_some]
    show ∃ r' σ'' τ'', oc (some (1 + 7 + 2 * r)) _ _ = _ ∧ _
    obtain ⟨⟨a0, a1, a2, a3, a4, a5, a6⟩, ⟨a7, a8, a9, a10, a11, a12, a13⟩, ⟨a14, a15, a16, a17, a18, a19, a20⟩⟩ := hC.rr hr
    have cap1 : 0 < σ (1 + 7 + 2 * r) 1 := by rw [a0]; exact cap
    rw [oc_some, if_pos (kd_room rfl r6), e, if_neg bz1n]
    dsimp only
    rw [c_temp0 cap1, bd_some, show (14 : Int32) = nI 14 from rfl, ofS r6 (by omega), bd_some]
    dsimp only
    by_cases h1 : vw (τ 1) r 14 = 0
    · rw [if_pos (a14.trans h1), if_pos h1]
      exact ⟨_, σ, τ, rfl, rfl, ⟨n, p, t, hC⟩, hH, hT⟩
    rw [if_neg (fun z => h1 (a14.symm.trans z)), if_neg h1, c_num5, bd_some, tempS r6 (ne0_of cap), bd_some, if_pos inl5]
    dsimp only
    rw [cll5]
    have eN : σ (1 + 1) 5 = τ 1 5 := hC.2.1.1 5 (by omega)
    have eT : degI (σ (1 + 7 + 2 * r) 4) (σ (1 + 7 + 2 * r) 1) = degI (vw (τ 1) r 1) (vw (τ 1) r 0) := by rw [a0, a1]
    by_cases h2 : degI (vw (τ 1) r 1) (vw (τ 1) r 0) ≤ τ 1 5
    · rw [if_pos (by rw [eT, eN]; exact h2), if_pos h2]
      obtain ⟨σ', τ', E, N, hC', hH', hT', f1, f2, f3⟩ := after hC hH hT
      rw [E, bd_some, N, bd_some, nm_eq]
      dsimp only
      have et : τ' 1 = τ 1 := f2 1 (by omega) (by omega)
      obtain ⟨⟨a0, a1, a2, a3, a4, a5, a6⟩, ⟨a7, a8, a9, a10, a11, a12, a13⟩, ⟨a14, a15, a16, a17, a18, a19, a20⟩⟩ := hC'.rr hr
      refine ⟨_, _, stm τ' r (upd (vw (τ' 1) r) 14 0), rfl, ?_, GG_set hC' hH' hT' hr ?_ ?_ ?_⟩
      · have hst := (stm_self (τ := τ') (r := r)).symm
        rw [eT, ← et]
        generalize hv : vw (τ' 1) r = v at hst ⊢
        have cap' : ¬ (upd v 14 0) 0 = 0 := by rw [upd_ne (by omega), ← hv, et]; exact ne0_of cap
        rw [hst, show nI 14 = 14 from rfl, puts_st14 r6, bd_some]
        dsimp only
        rw [m_temp r6 cap', bd_some, stm_stm, upd_ne (by omega), upd_ne (by omega)]
      · rw [xup_same, xup_ne (by omega)]
        exact ⟨⟨a0, a1, a2, a3, a4, a5, a6⟩, ⟨a7, a8, a9, a10, a11, a12, a13⟩, ⟨rfl, a15, a16, a17, a18, a19, a20⟩⟩
      · intro i h1 h2
        rw [xup_ne h1]
      · have hV := hC'.iv hr
        obtain ⟨T, t1, t2, t3, t4, t5⟩ := kelv hV
        have hN5 : (τ 1 5).toInt ≤ 90000 := hC.2.2.2.2.2.2.1.2
        rw [i_le, ← et, t1, et] at h2
        obtain ⟨⟨h0, hp, h3, hq, h7, h14, h11, h12⟩, hx⟩ := hV
        have m : (vw (τ' 1) r 0).toInt * T ≤ (vw (τ' 1) r 0).toInt * 90000 := Int.mul_le_mul_of_nonneg_left (by omega) (by omega)
        exact ⟨⟨h0, hp, h3, hq, h7, Or.inl rfl, h11, h12⟩, Or.inl (by
          show 1000 * (vw (τ' 1) r 1).toInt < 200001 * (vw (τ' 1) r 0).toInt
          omega)⟩
    · rw [if_neg (by rw [eT, eN]; exact h2), if_neg h2]
      exact ⟨_, σ, τ, rfl, rfl, ⟨n, p, t, hC⟩, hH, hT⟩
  · rw [c_noroom hC.s4 hx, bd_some, e]
    exact ⟨-1000001, σ, τ, rfl, rfl, ⟨n, p, t, hC⟩, hH, hT⟩
theorem op_undo : OpS (F_X6_undo 0) (F_X7_undo 0) := by
  intro σ τ hG
  have hG0 := hG
  obtain ⟨⟨n, p, t, hC⟩, ⟨c, x, hc, hx, a, b, d, H⟩, hT⟩ := hG
  unfold F_X6_undo
  simp only [Nat.zero_add]
  by_cases h0 : c = 0
  · subst h0
    rw [if_pos (show σ 39 2 = 0 from b)]
    unfold F_X7_undo
    rw [if_pos (show τ 0 2 = 0 from a)]
    exact ⟨_, σ, τ, rfl, rfl, hG0⟩
  obtain ⟨c, rfl⟩ : ∃ m, c = m + 1 := ⟨c - 1, by omega⟩
  rw [if_neg (by rw [b]; exact nI_ne0 (by omega) (by omega)), m_undo (by omega) a]
  obtain ⟨n', p', t', ht', R', I'⟩ := H c (by omega)
  have hy : (x + 6 - (c + 1) + c) % 6 = (x + 5) % 6 := by omega
  rw [hy] at R'
  have hx5 : (x + 5) % 6 < 6 := by omega
  obtain ⟨σ1, E, R1, F⟩ := c_copy (k := 1) (c := 41 + 19 * ((x + 5) % 6)) rfl (kd_41 hx5) (by omega) I'.1 I'.p12 R'
  have s39 : σ1 39 = σ 39 := F 39 (by omega)
  have e : F_X2_restore 39 1 σ = some ((), xup (xup σ1 39 1 (nI ((x + 5) % 6))) 39 2 (nI c)) := by
    unfold F_X2_restore
    rw [nm_eq, d, pv_eq hx, c_stateAt hx5, bd_some]
    show oc (some (41 + 19 * ((x + 5) % 6))) _ _ = _
    rw [oc_some, if_pos (kd_41 hx5), if_neg (show ¬ σ 39 2 ≤ 0 by rw [b]; exact nI_nle (by omega) (by omega))]
    dsimp only
    rw [E, bd_some]
    dsimp only
    rw [nm_eq, nm_eq, xup_same, upd_ne (by omega), s39, b, show nI (c + 1) - 1 = nI c from nI_pred c]
  rw [e, bd_some]
  dsimp only
  rw [xup_same, upd_same]
  have m39 : ∀ i, i ≠ 39 → xup (xup σ1 39 1 (nI ((x + 5) % 6))) 39 2 (nI c) i = σ1 i := fun i hi => by rw [xup_ne hi, xup_ne hi]
  have hs : ∀ j, j < 196 → (upc (upc τ 0 (upd (τ 0) 2 (nI c))) 1 (pas (τ 1) (fun j => τ 2 (196 * c + j)) 0 196)) 1 j = τ 2 (196 * c + j) := by
    intro j hj
    rw [upc_same]
    unfold pas
    rw [if_pos (by omega)]
    exact congrArg (τ 2) (by omega)
  refine ⟨nI c, _, _, rfl, rfl, ⟨n', p', t', ht', Rel_c I'.1 I'.p12 R1 (fun i hi => m39 _ (by omega)) hs, Inv_c I' hs⟩, ⟨c, (x + 5) % 6, by omega, hx5, ?_, ?_, ?_, fun i hi => ?_⟩, TG_c hT ?_ ?_ ?_ ?_⟩
  · rw [upc_ne (by omega), upc_same, upd_same]
  · rw [xup_same, upd_same]
  · rw [xup_same, upd_ne (by omega), xup_same, upd_same]
  · obtain ⟨n2, p2, t2, ht2, R2, I2⟩ := H i (by omega)
    have e1 : ((x + 5) % 6 + 6 - c + i) % 6 = (x + 6 - (c + 1) + i) % 6 := by omega
    rw [e1]
    exact ⟨n2, p2, t2, ht2, Rel_c I2.1 I2.p12 R2 (fun j hj => by rw [m39 _ (by omega), F _ (by omega)]) (fun j _ => by rw [upc_ne (by omega), upc_ne (by omega)]), Inv_c I2 (fun j _ => by rw [upc_ne (by omega), upc_ne (by omega)])⟩
  · rw [m39 155 (by omega), F 155 (by omega)]
  · intro j; rw [m39 156 (by omega), F 156 (by omega)]
  · intro j; rw [upc_ne (by omega), upc_ne (by omega)]
  · rw [upc_ne (by omega), upc_same, upd_ne (by omega)]
