/-! the property of a ghost with its past -/
def JJ (τ : xM) (c : Nat) : Prop := c ≤ 6 ∧ τ 0 2 = nI c ∧ (∀ n, n ≤ 6 → τ 1 7 = nI n → JV (τ 1) n) ∧ ∀ i, i < c → ∀ n, n ≤ 6 → τ 2 (196 * i + 7) = nI n → JV (fun j => τ 2 (196 * i + j)) n
theorem nts_row {f g : Nat → Int32} {c i j : Nat} (hc : c ≤ 6) (hi : i < min (c + 1) 6) (hj : j < 196) : nts f g c (196 * i + j) = if i + 1 = min (c + 1) 6 then g j else f (196 * (if c = 6 then i + 1 else i) + j) := by
  unfold nts pas shf
  by_cases h6 : c = 6
  · subst h6
    rw [if_pos rfl, if_pos rfl]
    by_cases hl : i + 1 = min (6 + 1) 6
    · rw [if_pos hl, if_pos (by omega)]
      exact congrArg g (by omega)
    · rw [if_neg hl, if_neg (by omega), if_pos (by omega)]
      exact congrArg f (by omega)
  · rw [if_neg h6, if_neg h6]
    by_cases hl : i + 1 = min (c + 1) 6
    · rw [if_pos hl, if_pos (by omega)]
      exact congrArg g (by omega)
    · rw [if_neg hl, if_neg (by omega)]
/-- the past behind a saved state -/
theorem JJ_sv {τ τ' : xM} {c n' : Nat} (J : JJ τ c) (hS : SV τ τ' c) (hR : ∃ n, n ≤ 6 ∧ τ 1 7 = nI n) (h7 : τ' 1 7 = nI n') (hn' : n' ≤ 6) (hJ : JV (τ' 1) n') : JJ τ' (min (c + 1) 6) := by
  obtain ⟨hc, h2, j1, j2⟩ := J
  obtain ⟨s2, s0⟩ := hS
  refine ⟨by omega, s0, fun n hn e => ?_, fun i hi n hn e => ?_⟩
  · have : n = n' := (nI_eq (by omega) (by omega)).mp (e.symm.trans h7)
    subst this
    exact hJ
  · rw [s2] at e ⊢
    rw [nts_row hc hi (by omega)] at e
    by_cases hl : i + 1 = min (c + 1) 6
    · rw [if_pos hl] at e
      exact JV_c hn (j1 n hn e) (fun j hj => by rw [nts_row hc hi hj, if_pos hl])
    · rw [if_neg hl] at e
      have hi' : (if c = 6 then i + 1 else i) < c := by split <;> omega
      exact JV_c hn (j2 _ hi' n hn e) (fun j hj => by rw [nts_row hc hi hj, if_neg hl])
theorem JJ_fc {τ τ' : xM} {c : Nat} (J : JJ τ c) (h : FC τ τ') : JJ τ' c := by
  obtain ⟨hc, h2, j1, j2⟩ := J
  obtain ⟨f0, f2, f1⟩ := h
  refine ⟨hc, by rw [f0]; exact h2, fun n hn e => ?_, fun i hi n hn e => ?_⟩
  · rw [f1 7 (by omega)] at e
    exact JV_c hn (j1 n hn e) f1
  · rw [f2] at e ⊢
    exact j2 i hi n hn e
/-- what a call of 'does' leaves -/
def DN (τ τ' : xM) (c : Nat) (P : Prop) (r : Int32) : Prop :=
  (¬ -1000000 < r ∧ τ' = τ) ∨ (-1000000 < r ∧ SV τ τ' c ∧ JJ τ' (min (c + 1) 6) ∧ (P → ∀ n, n ≤ 6 → τ' 1 7 = nI n → SC (τ' 1) n))
theorem dn_op {A B : xM → Option (Int32 × xM)} {σ τ : xM} {c : Nat} {P : Prop} (op : OpS A B) (hG : GG σ τ) (J : JJ τ c) (h : OC τ c (B τ)) (hP : ¬ P) : ∃ (r : Int32) (σ' τ' : xM), ((A σ).bind fun q => some (q.1, q.2)) = some (r, σ') ∧ GG σ' τ' ∧ DN τ τ' c P r := by
  obtain ⟨r, σ', τ', e1, e2, hG'⟩ := op σ τ hG
  refine ⟨r, σ', τ', by rw [e1, bd_some], hG', ?_⟩
  have hR : ∃ n, n ≤ 6 ∧ τ 1 7 = nI n := by
    obtain ⟨⟨n, p, t, hC⟩, -, -⟩ := hG
    exact ⟨n, hC.n6, hC.t7⟩
  rcases h with ⟨r', e, hr⟩ | ⟨r', τ2, n', e, hr, hS, h7, hn', hJ⟩
  · rw [e2] at e
    cases e
    exact Or.inl ⟨hr, rfl⟩
  · rw [e2] at e
    cases e
    exact Or.inr ⟨hr, hS, JJ_sv J hS hR h7 hn' hJ, fun z => absurd z hP⟩
theorem low_some {a b : Int32} {σ : xM} (hb : ¬ b = 0) : ∃ z : Int32, F_L_low a b σ = some (z, σ) := by
  unfold F_L_low
  rw [if_neg hb]
  exact ⟨_, rfl⟩
theorem does_ok {σ τ : xM} {c : Nat} {v : Int32} (hG : GG σ τ) (J : JJ τ c) : ∃ (r : Int32) (σ' τ' : xM), F_L_does 0 v σ = some (r, σ') ∧ GG σ' τ' ∧ DN τ τ' c (¬ (v &&& 15) ≤ 8) r := by
  have hG0 := hG
  obtain ⟨⟨n, p, t, hC⟩, hH, hT⟩ := hG
  obtain ⟨ht, -, I⟩ := hC
  obtain ⟨hc, h2, j1, j2⟩ := id J
  have JV0 := j1 n I.1 I.2.2.1
  obtain ⟨z0, l0⟩ := low_some (a := v >>> (4 &&& 31)) (b := 4) (σ := σ) (by decide)
  have le : ∀ k : Int32, k ≤ 8 → v &&& 15 = k → ¬ ¬ (v &&& 15) ≤ 8 := fun k hk e h => h (by rw [e]; exact hk)
  unfold F_L_does
  rw [l0, bd_some]
  dsimp only
  by_cases c0 : v &&& 15 = 0
  · rw [if_pos c0]
    obtain ⟨z1, l1⟩ := low_some (a := v >>> (6 &&& 31)) (b := 150) (σ := σ) (by decide)
    obtain ⟨z2, l2⟩ := low_some (a := v >>> (14 &&& 31)) (b := 200) (σ := σ) (by decide)
    obtain ⟨z3, l3⟩ := low_some (a := v >>> (22 &&& 31)) (b := 12) (σ := σ) (by decide)
    obtain ⟨z4, l4⟩ := low_some (a := v >>> (26 &&& 31)) (b := 30) (σ := σ) (by decide)
    rw [l1, bd_some, l2, bd_some, l3, bd_some, l4, bd_some]
    exact dn_op op_addRoom hG0 J (o_addRoom I JV0 hc h2) (le 0 (by decide) c0)
  rw [if_neg c0]
  by_cases c1 : v &&& 15 = 1
  · rw [if_pos c1]
    obtain ⟨z1, l1⟩ := low_some (a := v >>> (6 &&& 31)) (b := 150) (σ := σ) (by decide)
    obtain ⟨z2, l2⟩ := low_some (a := v >>> (14 &&& 31)) (b := 200) (σ := σ) (by decide)
    obtain ⟨z3, l3⟩ := low_some (a := v >>> (22 &&& 31)) (b := 12) (σ := σ) (by decide)
    obtain ⟨z4, l4⟩ := low_some (a := v >>> (26 &&& 31)) (b := 30) (σ := σ) (by decide)
    rw [l1, bd_some, l2, bd_some, l3, bd_some, l4, bd_some]
    exact dn_op op_addRoom hG0 J (o_addRoom I JV0 hc h2) (le 1 (by decide) c1)
  rw [if_neg c1]
  by_cases c2 : v &&& 15 = 2
  · rw [if_pos c2]
    obtain ⟨z1, l1⟩ := low_some (a := v >>> (6 &&& 31)) (b := 4) (σ := σ) (by decide)
    obtain ⟨z2, l2⟩ := low_some (a := v >>> (8 &&& 31)) (b := 30) (σ := σ) (by decide)
    rw [l1, bd_some, l2, bd_some]
    exact dn_op op_setLink hG0 J (o_setLink I JV0 hc h2) (le 2 (by decide) c2)
  rw [if_neg c2]
  by_cases c3 : v &&& 15 = 3
  · rw [if_pos c3]
    obtain ⟨z1, l1⟩ := low_some (a := v >>> (6 &&& 31)) (b := 4) (σ := σ) (by decide)
    obtain ⟨z2, l2⟩ := low_some (a := v >>> (8 &&& 31)) (b := 30) (σ := σ) (by decide)
    rw [l1, bd_some, l2, bd_some]
    exact dn_op op_setLink hG0 J (o_setLink I JV0 hc h2) (le 3 (by decide) c3)
  rw [if_neg c3]
  by_cases c4 : v &&& 15 = 4
  · rw [if_pos c4]
    obtain ⟨z1, l1⟩ := low_some (a := v >>> (6 &&& 31)) (b := 31) (σ := σ) (by decide)
    obtain ⟨z2, l2⟩ := low_some (a := v >>> (11 &&& 31)) (b := 20) (σ := σ) (by decide)
    rw [l1, bd_some, l2, bd_some]
    exact dn_op op_setThermostat hG0 J (o_setThermostat I JV0 hc h2) (le 4 (by decide) c4)
  rw [if_neg c4]
  by_cases c5 : v &&& 15 = 5
  · rw [if_pos c5]
    obtain ⟨z1, l1⟩ := low_some (a := v >>> (6 &&& 31)) (b := 8) (σ := σ) (by decide)
    obtain ⟨z2, l2⟩ := low_some (a := v >>> (9 &&& 31)) (b := 60) (σ := σ) (by decide)
    rw [l1, bd_some, l2, bd_some]
    exact dn_op op_setNumber hG0 J (o_setNumber I JV0 hc h2) (le 5 (by decide) c5)
  rw [if_neg c5]
  by_cases c6 : v &&& 15 = 6
  · rw [if_pos c6]
    obtain ⟨z1, l1⟩ := low_some (a := v >>> (6 &&& 31)) (b := 40001) (σ := σ) (by decide)
    rw [l1, bd_some]
    exact dn_op op_warm hG0 J (o_warm I JV0 hc h2) (le 6 (by decide) c6)
  rw [if_neg c6]
  by_cases c7 : v &&& 15 = 7
  · rw [if_pos c7]
    exact dn_op op_service hG0 J (o_service I JV0 hc h2) (le 7 (by decide) c7)
  rw [if_neg c7]
  by_cases c8 : v &&& 15 = 8
  · rw [if_pos c8]
    exact dn_op op_resetCutout hG0 J (o_resetCutout I JV0 hc h2) (le 8 (by decide) c8)
  rw [if_neg c8]
  obtain ⟨z1, l1⟩ := low_some (a := v >>> (6 &&& 31)) (b := 40) (σ := σ) (by decide)
  rw [l1, bd_some]
  dsimp only
  obtain ⟨r, σ', τ', e1, e2, hG'⟩ := op_pass (x := z1) σ τ hG0
  refine ⟨r, σ', τ', by rw [e1, bd_some], hG', ?_⟩
  rcases o_pass I ht JV0 hc h2 (x := z1) with ⟨r', e, hr⟩ | ⟨r', τ2, n', e, hr, hS, h7, hn', hJ, hSC⟩
  · rw [e2] at e
    cases e
    exact Or.inl ⟨hr, rfl⟩
  · rw [e2] at e
    cases e
    refine Or.inr ⟨hr, hS, JJ_sv J hS ⟨n, I.1, I.2.2.1⟩ h7 hn' hJ, fun _ m hm e7 => ?_⟩
    have : m = n' := (nI_eq (by omega) (by omega)).mp (e7.symm.trans h7)
    subst this
    exact hSC
/-- undo -/
theorem u_ok {σ τ : xM} {c : Nat} (hG : GG σ τ) (J : JJ τ (c + 1)) : ∃ σ' τ' : xM, F_X6_undo 0 σ = some (nI c, σ') ∧ GG σ' τ' ∧ JJ τ' c ∧ ∀ j, j < 196 → τ' 1 j = τ 2 (196 * c + j) := by
  obtain ⟨hc, h2, j1, j2⟩ := J
  have em := m_undo (τ := τ) (c := c) (by omega) h2
  obtain ⟨σ', e, hG'⟩ := by_ghost op_undo hG em
  generalize hτ : upc (upc τ 0 (upd (τ 0) 2 (nI c))) 1 (pas (τ 1) (fun j => τ 2 (196 * c + j)) 0 196) = τ' at hG'
  have hrow : ∀ j, j < 196 → τ' 1 j = τ 2 (196 * c + j) := fun j hj => by rw [← hτ, upc_same, pas_1 hj]
  have h2' : τ' 2 = τ 2 := by rw [← hτ, upc_ne (by omega), upc_ne (by omega)]
  have h0' : τ' 0 2 = nI c := by rw [← hτ, upc_ne (by omega), upc_same, upd_same]
  refine ⟨σ', τ', e, hG', ⟨by omega, h0', fun n hn e7 => ?_, fun i hi n hn e7 => ?_⟩, hrow⟩
  · rw [hrow 7 (by omega)] at e7
    exact JV_c hn (j2 c (by omega) n hn e7) (fun j hj => hrow j hj)
  · rw [h2'] at e7 ⊢
    exact j2 i (by omega) n hn e7
theorem u_none {σ τ : xM} (hG : GG σ τ) (J : JJ τ 0) : ∃ σ' : xM, F_X6_undo 0 σ = some (-1000002, σ') := by
  have em : F_X7_undo 0 τ = some (-1000002, τ) := by
    unfold F_X7_undo
    rw [if_pos (show τ 0 2 = 0 from J.2.1)]
  obtain ⟨σ', e, -⟩ := by_ghost op_undo hG em
  exact ⟨σ', e⟩
/-- behind a done call, undo leads to the row before it -/
theorem u_back {σ τ τ1 : xM} {c : Nat} (hc : c ≤ 6) (hG : GG σ τ1) (hS : SV τ τ1 c) (J : JJ τ1 (min (c + 1) 6)) : ∃ σ' τ' : xM, F_X6_undo 0 σ = some (nI (min (c + 1) 6 - 1), σ') ∧ GG σ' τ' ∧ JJ τ' (min (c + 1) 6 - 1) ∧ ∀ j, j < 196 → τ' 1 j = τ 1 j := by
  obtain ⟨c', hc'⟩ : ∃ k, min (c + 1) 6 = k + 1 := ⟨min (c + 1) 6 - 1, by omega⟩
  rw [hc'] at J ⊢
  obtain ⟨σ', τ', e, hG', J', hrow⟩ := u_ok hG J
  refine ⟨σ', τ', e, hG', J', fun j hj => ?_⟩
  rw [hrow j hj, hS.1, nts_row hc (by omega) hj, if_pos (by omega)]
theorem JJ_start : JJ zY 0 := by
  have hz : ∀ j, 7 ≤ j → zY 1 j = 0 := fun j hj => by rw [zY1, nY_hi hj]
  refine ⟨by omega, ?_, fun n hn e => ?_, fun i hi => by omega⟩
  · rw [zY0]; simp [gY, upd, nI]
  · have h0 : n = 0 := by
      rw [hz 7 (by omega)] at e
      exact ((nI_eq (a := n) (b := 0) (by omega) (by omega)).mp e.symm)
    subst h0
    refine ⟨fun r hr => by omega, rfl, ⟨?_, ?_⟩, ?_, fun j hj => ?_⟩
    · rw [zY1, nY_lo (by omega)]; decide
    · rw [zY1, nY_lo (by omega)]; decide
    · rw [zY1, nY_lo (by omega)]; decide
    · rw [zY1, nY_lo hj]
      have := (by decide : ∀ j, j < 7 → 0 ≤ (stI 0 j).toInt) j hj
      exact this
theorem f_heatIn {σ τ : xM} {c : Nat} (hG : GG σ τ) (J : JJ τ c) : ∃ (r : Int32) (σ' τ' : xM), F_X6_heatIn 0 20 σ = some (r, σ') ∧ GG σ' τ' ∧ ¬ r < 0 ∧ FC τ τ' := by
  have hG0 := hG
  obtain ⟨⟨n, p, t, hC⟩, hH, hT⟩ := hG
  obtain ⟨ht, -, I⟩ := hC
  obtain ⟨r, τ', e, hr, hF⟩ := g_heatIn I ht (J.2.2.1 n I.1 I.2.2.1)
  obtain ⟨σ', e', hG'⟩ := by_ghost op_heatIn hG0 e
  exact ⟨r, σ', τ', e', hG', hr, hF⟩
theorem f_soon {σ τ : xM} (hG : GG σ τ) : ∃ (r : Int32) (σ' τ' : xM), F_X6_minutesToSuspect 0 0 σ = some (r, σ') ∧ GG σ' τ' ∧ ¬ 1000 < r ∧ FC τ τ' := by
  have hG0 := hG
  obtain ⟨⟨n, p, t, hC⟩, hH, hT⟩ := hG
  obtain ⟨ht, -, I⟩ := hC
  obtain ⟨r, τ', e, hr, hF⟩ := g_soon I ht
  obtain ⟨σ', e', hG'⟩ := by_ghost op_minutesToSuspect hG0 e
  exact ⟨r, σ', τ', e', hG', hr, hF⟩
