/-! what a call does to the ghost: refused, nothing changes; done, the row before is saved, and the row behind has the property -/
noncomputable def NT (τ : xM) (c : Nat) : xM := upc (upc τ 2 (nts (τ 2) (τ 1) c)) 0 (upd (τ 0) 2 (nI (min (c + 1) 6)))
theorem NT_1 {τ : xM} {c : Nat} : NT τ c 1 = τ 1 := by unfold NT; rw [upc_ne (by omega), upc_ne (by omega)]
theorem NT_2 {τ : xM} {c : Nat} : NT τ c 2 = nts (τ 2) (τ 1) c := by unfold NT; rw [upc_ne (by omega), upc_same]
theorem NT_0 {τ : xM} {c : Nat} : NT τ c 0 2 = nI (min (c + 1) 6) := by unfold NT; rw [upc_same, upd_same]
theorem g_notes {τ : xM} {c : Nat} (hc : c ≤ 6) (h2 : τ 0 2 = nI c) : F_X7_notes 0 τ = some ((), NT τ c) := m_notes hc h2
def SV (τ τ' : xM) (c : Nat) : Prop := τ' 2 = nts (τ 2) (τ 1) c ∧ τ' 0 2 = nI (min (c + 1) 6)
def OC (τ : xM) (c : Nat) (q : Option (Int32 × xM)) : Prop :=
  (∃ r : Int32, q = some (r, τ) ∧ ¬ -1000000 < r) ∨ (∃ (r : Int32) (τ' : xM) (n' : Nat), q = some (r, τ') ∧ -1000000 < r ∧ SV τ τ' c ∧ τ' 1 7 = nI n' ∧ n' ≤ 6 ∧ JV (τ' 1) n')
theorem big_i {x : Int32} (h : -1000000 < x.toInt) : -1000000 < x := by
  rw [i_lt, show (-1000000 : Int32).toInt = -1000000 by decide]
  exact h
theorem JV_set {s v : Nat → Int32} {n r : Nat} (J : JV s n) (hr : r < n) (hv : RV v) (h19 : v 19 = vw s r 19) : JV (wrv s r v) n := by
  obtain ⟨j1, j2, j3⟩ := J
  refine ⟨fun q hq => ?_, ?_, ?_⟩
  · by_cases e : q = r
    · subst e
      exact RV_v hv (fun f hf => (vw_wrv hf).symm)
    · exact RV_v (j1 q hq) (fun f hf => (vw_ot hf e).symm)
  · rw [← j2]
    refine sm_congr n (fun i hi => ?_)
    by_cases e : i = r
    · subst e
      rw [vw_wrv (by omega), h19]
    · rw [vw_ot (by omega) e]
  · exact NV_c j3 (fun j hj => wrv_lo (by omega))
theorem oc_set {τ : xM} {n p t c r : Nat} {v : Nat → Int32} {z : Int32} (I : Inv (τ 1) n p t) (J : JV (τ 1) n) (hr : r < n) (hv : RV v) (h19 : v 19 = vw (τ 1) r 19) (hz : -1000000 < z) : OC τ c (some (z, stm (NT τ c) r v)) := by
  refine Or.inr ⟨z, _, n, rfl, hz, ⟨?_, ?_⟩, ?_, I.1, ?_⟩
  · rw [stm_ne (by omega), NT_2]
  · rw [stm_ne (by omega), NT_0]
  · rw [stm_lo (by omega), NT_1]; exact I.2.2.1
  · rw [stm_1, NT_1]; exact JV_set J hr hv h19
section OPS
variable {τ : xM} {n p t c : Nat}
theorem o_service (I : Inv (τ 1) n p t) (J : JV (τ 1) n) (hc : c ≤ 6) (h2 : τ 0 2 = nI c) {x : Int32} : OC τ c (F_X7_service 0 x τ) := by
  have hn := I.1
  unfold F_X7_service
  rw [m_isRoom, bd_some, I.2.2.1]
  rcases room_cases hn x with ⟨r, hr, rfl, e⟩ | ⟨hx, e⟩
  · have r6 : r < 6 := by omega
    have hv0 := J.1 r hr
    dsimp only
    rw [e, if_neg bz1n, g_notes hc h2, bd_some]
    dsimp only
    have hst := (stm_self (τ := NT τ c) (r := r)).symm
    rw [NT_1] at hst
    generalize hv : vw (τ 1) r = v at hst hv0
    rw [hst]
    simp only [of_st9 r6, puts_st9 r6, puts_st10 r6, puts_st8 r6, puts_st7 r6, bd_some, stm_stm]
    obtain ⟨b1, b8, b78, b10, b9⟩ := hv0
    have z0 : (0 : Int32).toInt = 0 := by decide
    have q9 : (upd (upd (upd (upd v 9 0) 10 0) 8 0) 7 0) 9 = 0 := rfl
    have q10 : (upd (upd (upd (upd v 9 0) 10 0) 8 0) 7 0) 10 = 0 := rfl
    refine oc_set I J hr ⟨b1, Or.inl rfl, fun z => absurd (show (0 : Int32) = 1 from z) (by decide), ?_, ?_⟩ (by rw [hv]; rfl) (big_i (by omega))
    · rw [q10, z0]; omega
    · rw [q9, z0]; omega
  · dsimp only
    rw [e, if_pos bz_0]
    exact Or.inl ⟨_, rfl, by decide⟩
theorem o_setThermostat (I : Inv (τ 1) n p t) (J : JV (τ 1) n) (hc : c ≤ 6) (h2 : τ 0 2 = nI c) {x a b : Int32} : OC τ c (F_X7_setThermostat 0 x a b τ) := by
  have hn := I.1
  unfold F_X7_setThermostat
  rw [m_isRoom, bd_some, I.2.2.1]
  rcases room_cases hn x with ⟨r, hr, rfl, e⟩ | ⟨hx, e⟩
  · have r6 : r < 6 := by omega
    have hv0 := J.1 r hr
    dsimp only
    rw [e, if_neg bz1n, m_in, bd_some]
    dsimp only
    by_cases h1 : bz (inW a 5000 35000) = 0
    · rw [if_pos h1]
      exact Or.inl ⟨_, rfl, by decide⟩
    rw [if_neg h1, m_in, bd_some]
    dsimp only
    by_cases h3 : bz (inW b 100 5000) = 0
    · rw [if_pos h3]
      exact Or.inl ⟨_, rfl, by decide⟩
    rw [if_neg h3, g_notes hc h2, bd_some]
    dsimp only
    have hst := (stm_self (τ := NT τ c) (r := r)).symm
    rw [NT_1] at hst
    generalize hv : vw (τ 1) r = v at hst hv0
    rw [hst]
    have key : ∀ y : Int32, OC τ c (F_X7_setThermostat_J64 0 (nI r) a b y (stm (NT τ c) r v)) := by
      intro y
      rw [m_J64 r6]
      refine oc_set I J hr hv0 (by rw [hv]; rfl) ?_
      split <;> decide
    rw [of_st4 r6, bd_some]
    dsimp only
    by_cases c1 : v 4 = a
    · rw [if_pos c1, of_st5 r6, bd_some]
      dsimp only
      by_cases c2 : v 5 = b
      · rw [if_pos c2]; exact key _
      · rw [if_neg c2]; exact key _
    · rw [if_neg c1]; exact key _
  · dsimp only
    rw [e, if_pos bz_0]
    exact Or.inl ⟨_, rfl, by decide⟩
theorem o_resetCutout (I : Inv (τ 1) n p t) (J : JV (τ 1) n) (hc : c ≤ 6) (h2 : τ 0 2 = nI c) {x : Int32} : OC τ c (F_X7_resetCutout 0 x τ) := by
  have hn := I.1
  unfold F_X7_resetCutout
  rw [m_isRoom, bd_some, I.2.2.1]
  rcases room_cases hn x with ⟨r, hr, rfl, e⟩ | ⟨hx, e⟩
  · have r6 : r < 6 := by omega
    have hv0 := J.1 r hr
    have cap := (inv_fit I).2.1 r hr
    have hV := I.2.2.2.2.2.2.2.1 r hr
    dsimp only
    rw [e, if_neg bz1n, show (14 : Int32) = nI 14 from rfl, ofS r6 (by omega), bd_some]
    dsimp only
    by_cases h1 : vw (τ 1) r 14 = 0
    · rw [if_pos h1]
      exact Or.inl ⟨_, rfl, by decide⟩
    rw [if_neg h1, tempS r6 (ne0_of cap), bd_some, if_pos inl5]
    dsimp only
    by_cases h3 : degI (vw (τ 1) r 1) (vw (τ 1) r 0) ≤ τ (0 + 1) (Int32.toNatClampNeg 5)
    · rw [if_pos h3, g_notes hc h2, bd_some]
      dsimp only
      obtain ⟨T, t1, t2, t3, t4, t5⟩ := kelv hV
      have hst := (stm_self (τ := NT τ c) (r := r)).symm
      rw [NT_1] at hst
      generalize hv : vw (τ 1) r = v at hst hv0 cap t1
      have cap' : ¬ (upd v 14 0) 0 = 0 := by rw [upd_ne (by omega)]; exact ne0_of cap
      rw [hst, show nI 14 = 14 from rfl, puts_st14 r6, bd_some]
      dsimp only
      rw [m_temp r6 cap', bd_some]
      dsimp only
      rw [upd_ne (show (1 : Nat) ≠ 14 by omega), upd_ne (show (0 : Nat) ≠ 14 by omega)]
      exact oc_set I J hr hv0 (by rw [hv]; rfl) (big_i (by omega))
    · rw [if_neg h3]
      exact Or.inl ⟨_, rfl, by decide⟩
  · dsimp only
    rw [e, if_pos bz_0]
    exact Or.inl ⟨_, rfl, by decide⟩
theorem o_setNumber (I : Inv (τ 1) n p t) (J : JV (τ 1) n) (hc : c ≤ 6) (h2 : τ 0 2 = nI c) {x a : Int32} : OC τ c (F_X7_setNumber 0 x a τ) := by
  unfold F_X7_setNumber
  by_cases hx : ∃ j, j < 7 ∧ x = nI j
  · obtain ⟨j, hj, rfl⟩ := hx
    have em : F_X7_isNumber (nI j) a τ = some (inW a (stI 1 j) (stI 2 j), τ) := by
      have hj' : j = 0 ∨ j = 1 ∨ j = 2 ∨ j = 3 ∨ j = 4 ∨ j = 5 ∨ j = 6 := by omega
      rcases hj' with rfl | rfl | rfl | rfl | rfl | rfl | rfl
      · exact m_isN0
      · exact m_isN1
      · exact m_isN2
      · exact m_isN3
      · exact m_isN4
      · exact m_isN5
      · exact m_isN6
    rw [em, bd_some]
    dsimp only
    by_cases h : bz (inW a (stI 1 j) (stI 2 j)) = 0
    · rw [if_pos h]
      exact Or.inl ⟨_, rfl, by decide⟩
    · rw [if_neg h, g_notes hc h2, bd_some]
      dsimp only
      rw [if_pos (inb_nI (by omega) (by omega)), nm_eq, if_pos (inb_nI (by omega) (by omega)), nm_eq, cl_nI (by omega)]
      obtain ⟨w1, w2, _⟩ := inW_1 h
      refine Or.inr ⟨_, _, n, rfl, ?_, ⟨?_, ?_⟩, ?_, I.1, ?_⟩
      · rw [NT_1]
        have := J.2.2.2.2 j hj
        exact big_i (by omega)
      · rw [xup_ne (by omega), NT_2]
      · rw [xup_ne (by omega), NT_0]
      · rw [xup_same, upd_ne (by omega), NT_1]; exact I.2.2.1
      · rw [show (0 + 1 : Nat) = 1 from rfl, xup_same, NT_1]
        obtain ⟨j1, j2, ⟨n1, n2⟩, n3, n4⟩ := J
        have ev : ∀ r f, vw (upd (τ 1) j a) r f = vw (τ 1) r f := fun r f => upd_ne (by omega)
        have lo : ∀ j, j < 7 → 0 ≤ (stI 1 j).toInt := by decide
        have lo2 : (stI 1 2).toInt = 1 := by decide
        have hi2 : (stI 2 2).toInt = 50 := by decide
        have hi1 : (stI 2 1).toInt = 9999 := by decide
        refine ⟨fun r hr => RV_v (j1 r hr) (fun f hf => (ev r f).symm), ?_, ⟨?_, ?_⟩, ?_, fun k hk => ?_⟩
        · rw [← j2]; exact sm_congr n (fun i hi => ev i 19)
        · by_cases hj2 : j = 2
          · subst hj2; rw [upd_same]; omega
          · rw [upd_ne (fun z => hj2 z.symm)]; exact n1
        · by_cases hj2 : j = 2
          · subst hj2; rw [upd_same]; omega
          · rw [upd_ne (fun z => hj2 z.symm)]; exact n2
        · by_cases hj1 : j = 1
          · subst hj1; rw [upd_same]; omega
          · rw [upd_ne (fun z => hj1 z.symm)]; exact n3
        · by_cases hk1 : k = j
          · subst hk1; rw [upd_same]; have := lo k hk; omega
          · rw [upd_ne hk1]; exact n4 k hk
  · have hm : F_X7_isNumber x a τ = some (0, τ) := by
      have n0 : ∀ j : Nat, j < 7 → ¬ x = nI j := fun j hj z => hx ⟨j, hj, z⟩
      unfold F_X7_isNumber
      rw [if_neg (show ¬ x = 0 from n0 0 (by omega)), if_neg (show ¬ x = 1 from n0 1 (by omega)), if_neg (show ¬ x = 2 from n0 2 (by omega)), if_neg (show ¬ x = 3 from n0 3 (by omega)), if_neg (show ¬ x = 4 from n0 4 (by omega)), if_neg (show ¬ x = 5 from n0 5 (by omega)), if_neg (show ¬ x = 6 from n0 6 (by omega))]
    rw [hm, bd_some, if_pos bz_0]
    exact Or.inl ⟨_, rfl, by decide⟩
end OPS
