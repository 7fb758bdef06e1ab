/-! the whole text -/
theorem loop_both {m : Nat} {X : Nat → Nat} (hm : m ≤ 100) (hX : ∀ i, i < m → X i < 256) : ∀ d N N' e e0 p (σ τ : xM), m ≤ e + d → d < N → d < N' → PC m X e σ → PM m X e0 τ → Skp m X e0 e → DR p σ τ →
    (∃ p' σ' τ', F_X5_readInto_L30 155 157 N (-1) σ = some (-1, σ') ∧ rdC N' τ = some (1, τ') ∧ DR p' σ' τ' ∧ FC σ σ' ∧ FM τ τ') ∨
    (∃ e' σ' τ', F_X5_readInto_L30 155 157 N (-1) σ = some (nI e', σ') ∧ rdC N' τ = some (0, τ') ∧ τ' 0 8 = nI e' ∧ e' ≤ m ∧ FC σ σ' ∧ FM τ τ') := by
  intro d
  induction d with
  | zero =>
    intro N N' e e0 p σ τ hd hN hN' h hp hS hD
    obtain ⟨N, rfl⟩ : ∃ M, N = M + 1 := ⟨N - 1, by omega⟩
    obtain ⟨N', rfl⟩ : ∃ M, N' = M + 1 := ⟨N' - 1, by omega⟩
    have hem := hS.2.1
    obtain rfl : e = m := by omega
    obtain ⟨s, τ1, E, S, P, F⟩ := m_here hm hX (Nat.le_trans hS.1 hem) hp
    obtain rfl : s = e := S.u hS
    obtain ⟨P2, F2⟩ := PM_adv (q := s) P
    refine Or.inl ⟨p, σ, _, ?_, ?_, DR_c hD FC1.rf (F.tr F2), FC1.rf.w, (F.tr F2).w⟩
    · rw [F_X5_readInto_L30, if_pos rfl, if_pos (show σ 155 1 ≤ σ 155 2 by rw [h.1, h.2.1]; exact nI_le (Nat.le_refl _) (by omega))]
    · unfold rdC
      rw [E, bd_some]
      dsimp only
      rw [if_pos (show ch s X s < 0 by unfold ch; rw [if_neg (by omega)]; decide), nm_eq, L23_0, P.2.1, Int32.add_zero]
  | succ d ih =>
    intro N N' e e0 p σ τ hd hN hN' h hp hS hD
    obtain ⟨N, rfl⟩ : ∃ M, N = M + 1 := ⟨N - 1, by omega⟩
    obtain ⟨N', rfl⟩ : ∃ M, N' = M + 1 := ⟨N' - 1, by omega⟩
    have hem := hS.2.1
    obtain ⟨s, τ1, E, S, P, F⟩ := m_here hm hX (Nat.le_trans hS.1 hem) hp
    obtain rfl : s = e := S.u hS
    by_cases hlt : s < m
    · have hx := hX s hlt
      have hch : ch m X s = nI (X s) := by unfold ch; rw [if_pos hlt]
      rw [F_X5_readInto_L30, if_pos rfl, if_neg (show ¬ σ 155 1 ≤ σ 155 2 by rw [h.1, h.2.1]; exact nI_ge hlt (by omega)), c_here h hm hem, bd_some]
      unfold rdC
      rw [E, bd_some]
      dsimp only
      rw [if_neg (show ¬ ch m X s < 0 by rw [hch]; exact nI_pos (by omega)), m_here2 hm hX S.r P, bd_some]
      dsimp only
      by_cases h59 : ch m X s = 59
      · rw [if_pos h59, if_pos h59, nm_eq, nm_eq, h.2.1, P.2.1, nI_1]
        obtain ⟨Q5, G5⟩ := PC_adv (q := s + 1) h
        obtain ⟨P5, F5⟩ := PM_adv (q := s + 1) P
        obtain ⟨s3, σ6, E6, S6, Q6, G6⟩ := c_skip hm hX (show s + 1 ≤ m by omega) Q5
        have GC := G5.tr G6
        have FX := F.tr F5
        have hD6 : DR p σ6 (xup τ1 0 8 (nI (s + 1))) := DR_c hD GC FX
        rw [E6, bd_some, L23_1 hD6]
        dsimp only
        rcases point_both hm hX Q6 P5 S6 hD6 with ⟨e', σ', τ', t1, t2, t3, t4, t5, t6⟩ | ⟨e', e0', σ', τ', t1, t2, t3, t4, t5, t6, t7, t8, t9⟩
        · rw [t1, bd_some, t2]
          obtain ⟨N, rfl⟩ : ∃ M, N = M + 1 := ⟨N - 1, by omega⟩
          refine Or.inr ⟨e', σ', τ', ?_, rfl, t3, t4, GC.w.tr t5, FX.w.tr t6⟩
          dsimp only
          rw [F_X5_readInto_L30, if_neg (show ¬ nI e' = -1 by
            intro z
            have := congrArg Int32.toInt z
            rw [nI_toInt (by omega), show (-1 : Int32).toInt = -1 by decide] at this
            omega)]
        · rw [t1, bd_some, t2]
          dsimp only
          have hs3 := S6.1
          rcases ih N N' e' e0' (p + 1) σ' τ' (by omega) (by omega) (by omega) t3 t5 t4 t7 with ⟨p', σ2, τ2, r1, r2, r3, r4, r5⟩ | ⟨e2, σ2, τ2, r1, r2, r3, r4, r5, r6⟩
          · exact Or.inl ⟨p', σ2, τ2, r1, r2, r3, GC.w.tr (t8.tr r4), FX.w.tr (t9.tr r5)⟩
          · exact Or.inr ⟨e2, σ2, τ2, r1, r2, r3, r4, GC.w.tr (t8.tr r5), FX.w.tr (t9.tr r6)⟩
      · rw [if_neg h59, if_neg h59]
        exact Or.inr ⟨s, σ, τ1, by rw [h.2.1], rfl, P.2.1, hem, FC1.rf.w, F.w⟩
    · obtain rfl : s = m := by omega
      obtain ⟨P2, F2⟩ := PM_adv (q := s) P
      refine Or.inl ⟨p, σ, _, ?_, ?_, DR_c hD FC1.rf (F.tr F2), FC1.rf.w, (F.tr F2).w⟩
      · rw [F_X5_readInto_L30, if_pos rfl, if_pos (show σ 155 1 ≤ σ 155 2 by rw [h.1, h.2.1]; exact nI_le (Nat.le_refl _) (by omega))]
      · unfold rdC
        rw [E, bd_some]
        dsimp only
        rw [if_pos (show ch s X s < 0 by unfold ch; rw [if_neg (by omega)]; decide), nm_eq, L23_0, P.2.1, Int32.add_zero]
theorem read_both {m : Nat} {X : Nat → Nat} {σ τ : xM} (hm : m ≤ 100) (hX : ∀ i, i < m → X i < 256) (h1 : σ 155 1 = nI m) (h2 : ∀ i, i < m → σ 156 i = nI (X i)) (h3 : τ 0 4 = nI m) (h4 : ∀ i, i < m → τ 3 i = bt (X i)) :
    (∃ p' σ' τ', F_X5_readInto 155 157 σ = some (-1, σ') ∧ F_X7_readsAll 0 τ = some (1, τ') ∧ DR p' σ' τ' ∧ FC σ σ' ∧ FM τ τ') ∨
    (∃ e' σ' τ', F_X5_readInto 155 157 σ = some (nI e', σ') ∧ F_X7_readsAll 0 τ = some (0, τ') ∧ τ' 0 8 = nI e' ∧ e' ≤ m ∧ FC σ σ' ∧ FM τ τ') := by
  obtain ⟨FN, hFN⟩ : ∃ M, FU = M + 1 := ⟨1299, FU_eq⟩
  unfold F_X5_readInto F_X7_readsAll F_X7_readsAll_J22
  rw [nm_eq, nm_eq, nm_eq, nm_eq]
  generalize hσ : xup (xup σ 157 2 0) 155 2 0 = σ1
  generalize hτ : xup (xup τ 0 8 0) 0 7 0 = τ1
  have s155 : σ1 155 = upd (σ 155) 2 0 := by rw [← hσ, xup_same, xup_ne (by omega)]
  have s157 : σ1 157 = upd (σ 157) 2 0 := by rw [← hσ, xup_ne (by omega), xup_same]
  have so : ∀ i, i ≠ 155 → i ≠ 157 → σ1 i = σ i := fun i a b => by rw [← hσ, xup_ne a, xup_ne b]
  have t0 : τ1 0 = upd (upd (τ 0) 8 0) 7 0 := by rw [← hτ, xup_same, xup_same]
  have to : ∀ i, i ≠ 0 → τ1 i = τ i := fun i a => by rw [← hτ, xup_ne a, xup_ne a]
  have Q : PC m X 0 σ1 := ⟨by rw [s155, upd_ne (by omega)]; exact h1, by rw [s155, upd_same]; rfl, fun i hi => by rw [so 156 (by omega) (by omega)]; exact h2 i hi⟩
  have P : PM m X 0 τ1 := ⟨by rw [t0, upd_ne (by omega), upd_ne (by omega)]; exact h3, by rw [t0, upd_ne (by omega), upd_same]; rfl, fun i hi => by rw [to 3 (by omega)]; exact h4 i hi⟩
  have hD : DR 0 σ1 τ1 := ⟨by omega, by rw [s157, upd_same]; rfl, by rw [t0, upd_same]; rfl, fun j hj => by omega, fun j hj => by omega⟩
  have A : FC σ σ1 := ⟨fun i a b _ _ => so i a b, fun j hj => by rw [s155, upd_ne hj]⟩
  have B : FM τ τ1 := ⟨fun i a _ => to i a, fun j h7 h8 _ => by rw [t0, upd_ne h7, upd_ne h8]⟩
  obtain ⟨s, σ2, E2, S2, Q2, G2⟩ := c_skip hm hX (Nat.zero_le m) Q
  obtain ⟨s', τ2, E3, S3, P3, F3⟩ := m_here hm hX (Nat.zero_le m) P
  obtain rfl : s' = s := S3.u S2
  have hD2 : DR 0 σ2 τ2 := DR_c hD G2 F3
  rw [E2, bd_some, c_here Q2 hm S2.2.1, bd_some, E3, bd_some]
  dsimp only
  by_cases hlt : s' < m
  · have hx := hX s' hlt
    have hch : ch m X s' = nI (X s') := by unfold ch; rw [if_pos hlt]
    rw [if_neg (show ¬ ch m X s' = -1 by
      rw [hch]; intro z
      have := congrArg Int32.toInt z
      rw [nI_toInt (by omega), show (-1 : Int32).toInt = -1 by decide] at this
      omega), if_neg (show ¬ ch m X s' < 0 by rw [hch]; exact nI_pos (by omega)), hFN, L23_1 hD2]
    rcases point_both hm hX Q2 P3 S2.r hD2 with ⟨e', σ', τ', t1, t2, t3, t4, t5, t6⟩ | ⟨e', e0', σ', τ', t1, t2, t3, t4, t5, t6, t7, t8, t9⟩
    · rw [t1, bd_some, t2]
      refine Or.inr ⟨e', σ', τ', ?_, rfl, t3, t4, A.tr (G2.w.tr t5), B.tr (F3.w.tr t6)⟩
      dsimp only
      rw [F_X5_readInto_L30, if_neg (show ¬ nI e' = -1 by
        intro z
        have := congrArg Int32.toInt z
        rw [nI_toInt (by omega), show (-1 : Int32).toInt = -1 by decide] at this
        omega)]
    · rw [t1, bd_some, t2]
      dsimp only
      have hs3 := S2.1
      have hf := FU_eq
      rcases loop_both hm hX (m - e') (FN + 1) FN e' e0' (0 + 1) σ' τ' (by omega) (by omega) (by omega) t3 t5 t4 t7 with ⟨p', σ2, τ2, r1, r2, r3, r4, r5⟩ | ⟨e2, σ2, τ2, r1, r2, r3, r4, r5, r6⟩
      · exact Or.inl ⟨p', σ2, τ2, r1, r2, r3, A.tr (G2.w.tr (t8.tr r4)), B.tr (F3.w.tr (t9.tr r5))⟩
      · exact Or.inr ⟨e2, σ2, τ2, r1, r2, r3, r4, A.tr (G2.w.tr (t8.tr r5)), B.tr (F3.w.tr (t9.tr r6))⟩
  · have hch : ch m X s' = -1 := by unfold ch; rw [if_neg hlt]
    rw [if_pos hch, if_pos (show ch m X s' < 0 by rw [hch]; decide), hFN, L23_0]
    exact Or.inl ⟨0, σ2, τ2, rfl, rfl, hD2, A.tr G2.w, B.tr F3.w⟩
theorem m_load32 {τ : xM} {p : Nat} (hp : p ≤ 12) (h7 : τ 0 7 = nI p) : F_X7_load_L32 0 FU 0 τ = some (nI p, upc (upc τ 1 (pas (τ 1) (fun i => if 2 * p ≤ i then 0 else τ 5 i) 10 24)) 0 (upd (τ 0) 4 0)) := by
  have e := loop_up (F := fun N i w => F_X7_load_L32 0 N (nI i) (upc τ 1 w)) (f := fun i w => upd w (10 + i) (if 2 * p ≤ i then 0 else τ 5 i)) (fin := fun w => some (nI p, upc (upc τ 1 w) 0 (upd (τ 0) 4 0))) (I := fun _ _ => True) 24 ?_ ?_ 24 0 (τ 1) FU (by omega) trivial (by rw [FU_eq]; omega)
  · have e1 := e.1
    try simp only at e1
    rw [upc_self, itr_pas (g := fun i => if 2 * p ≤ i then 0 else τ 5 i)] at e1
    exact e1
  · intro N i w hi _
    refine ⟨?_, trivial⟩
    show F_X7_load_L32 0 (N + 1) (nI i) (upc τ 1 w) = _
    have e7 : (upc τ 1 w) 0 7 = nI p := by rw [upc_ne (by omega)]; exact h7
    have e2 : 2 * (upc τ 1 w) 0 7 = nI (2 * p) := by rw [e7]; show nI 2 * nI p = _; rw [nI_mul]
    have ei : 10 + nI i = nI (10 + i) := by show nI 10 + nI i = _; rw [nI_add]
    rw [F_X7_load_L32, if_neg (show ¬ (24 : Int32) ≤ nI i from nI_ge (b := 24) hi (by omega))]
    by_cases q : 2 * p ≤ i
    · rw [if_pos (show 2 * (upc τ 1 w) 0 7 ≤ nI i by rw [e2]; exact nI_le q (by omega)), if_pos (show inb (10 + nI i) 196 by rw [ei]; exact inb_nI (by omega) (by omega)), nm_eq, ei, cl_nI (by omega), nI_1, xup_upc]
      simp only [Nat.zero_add]
      rw [upc_same, upc_upc, if_pos q]
    · rw [if_neg (show ¬ 2 * (upc τ 1 w) 0 7 ≤ nI i by rw [e2]; exact nI_ge (by omega) (by omega)), if_pos (inb_nI (by omega) (by omega)), if_pos (show inb (10 + nI i) 196 by rw [ei]; exact inb_nI (by omega) (by omega)), nm_eq, ei, cl_nI (by omega), cl_nI (by omega), nI_1, xup_upc]
      simp only [Nat.zero_add]
      rw [upc_same, upc_upc, upc_ne (show (5 : Nat) ≠ 1 by omega), if_neg q]
  · intro N w _
    show F_X7_load_L32 0 (N + 1) (nI 24) (upc τ 1 w) = _
    rw [F_X7_load_L32, if_pos (show (24 : Int32) ≤ nI 24 by decide), nm_eq, xup_upc, upc_ne (show (0 : Nat) ≠ 1 by omega), upc_same, upd_ne (by omega), h7]
theorem op_load : OpS (F_X6_load 0) (F_X7_load 0) := by
  intro σ τ hG
  have hG0 := hG
  obtain ⟨⟨n, p, t, hC⟩, hH, hT⟩ := hG
  have hT0 := hT
  obtain ⟨m, hm, b1, b2, b3⟩ := hT
  obtain ⟨X, hX⟩ : ∃ X : Nat → Nat, ∀ i, i < m → X i < 256 ∧ σ 156 i = nI (X i) ∧ τ 3 i = bt (X i) :=
    ⟨fun i => if h : i < m then Classical.choose (b3 i h) else 0, fun i hi => by dsimp only; rw [dif_pos hi]; exact Classical.choose_spec (b3 i hi)⟩
  unfold F_X6_load F_X7_load
  simp only [Nat.zero_add]
  rcases read_both hm (fun i hi => (hX i hi).1) b2 (fun i hi => (hX i hi).2.1) b1 (fun i hi => (hX i hi).2.2) with ⟨p', σ1, τ1, e1, e2, hD, FS, FT⟩ | ⟨e', σ1, τ1, e1, e2, e3, e4, FS, FT⟩
  · rw [e1, e2, bd_some, bd_some]
    dsimp only
    rw [if_pos rfl, if_neg bz1n]
    have hC1 : CG σ1 τ1 n p t := CG_c hC (fun i a b => FS.1 i (by omega) (by omega) (by omega) (by omega)) (fun j _ => by rw [FT.1 1 (by omega) (by omega)])
    have hH1 : HG σ1 τ1 := HG_c hH (fun i a b => FS.1 i (by omega) (by omega) (by omega) (by omega)) (fun j => by rw [FT.1 2 (by omega) (by omega)]) (FT.2 2 (by omega) (by omega) (by omega))
    have hT1 : TG σ1 τ1 := TG_c hT0 (FS.2 1 (by omega)) (fun j => by rw [FS.1 156 (by omega) (by omega) (by omega) (by omega)]) (fun j => by rw [FT.1 3 (by omega) (by omega)]) (FT.2 4 (by omega) (by omega) (by omega))
    obtain ⟨σ', τ', E, N, hC', hH', hT', k1, k2, k3⟩ := after hC1 hH1 hT1
    obtain ⟨d1, d2, d3, d4, d5⟩ := hD
    rw [E, bd_some, N, bd_some, if_pos inl9, nm_eq, cll9]
    dsimp only
    have t7 : τ' 0 7 = nI p' := by rw [k3 7 (by omega)]; exact d3
    have t7' : (xup τ' 1 9 (τ' 0 7)) 0 7 = nI p' := by rw [xup_ne (by omega)]; exact t7
    rw [m_load32 d1 t7']
    unfold F_X4_copyFrom
    simp only [nm_eq, bd_some]
    generalize hσ : xcp (xcp σ' (157 + 1) (5 + 1) 12) (157 + 2) (5 + 2) 12 = σ2
    have cp : ∀ (ρ : xM) (a b m j : Nat), j < m → xcp ρ a b m b j = ρ a j := by
      intro ρ a b m j hj
      rw [xcp_same, pk_cpy_in (by omega) (by omega)]
      exact congrArg (ρ a) (by omega)
    have o2 : ∀ i, i ≠ 6 → i ≠ 7 → σ2 i = σ' i := fun i a b => by rw [← hσ, xcp_ne b, xcp_ne a]
    have c6 : ∀ j, j < 12 → σ2 6 j = σ' 158 j := fun j hj => by rw [← hσ, xcp_ne (by omega), cp _ _ _ _ _ hj]
    have c7 : ∀ j, j < 12 → σ2 7 j = σ' 159 j := fun j hj => by rw [← hσ, cp _ _ _ _ _ hj, xcp_ne (by omega)]
    have e157 : σ2 157 2 = nI p' := by rw [o2 157 (by omega) (by omega), k1 157 (by omega)]; exact d2
    rw [e157]
    have e5 : (xup (xup σ2 5 2 (nI p')) 155 1 0) 5 2 = nI p' := by rw [xup_ne (by omega), xup_same, upd_same]
    rw [e5]
    generalize hs3 : xup (xup σ2 5 2 (nI p')) 155 1 0 = σ3
    have o3 : ∀ i, i ≠ 5 → i ≠ 155 → σ3 i = σ2 i := fun i a b => by rw [← hs3, xup_ne b, xup_ne a]
    have s5 : σ3 5 2 = nI p' := by rw [← hs3]; exact e5
    have s155 : σ3 155 1 = nI 0 := by rw [← hs3, xup_same, upd_same]; rfl
    refine ⟨nI p', σ3, _, rfl, rfl, ?_⟩
    generalize hs : pas ((xup τ' 1 9 (τ' 0 7)) 1) (fun i => if 2 * p' ≤ i then 0 else (xup τ' 1 9 (τ' 0 7)) 5 i) 10 24 = s''
    have q9 : s'' 9 = nI p' := by rw [← hs]; unfold pas; rw [if_neg (by omega), xup_same, upd_same, t7]
    have qo : ∀ j, j ≠ 9 → (j < 10 ∨ 34 ≤ j) → s'' j = τ' 1 j := fun j h9 hj => by rw [← hs]; unfold pas; rw [if_neg (by omega), xup_same, upd_ne h9]
    have qp : ∀ i, i < 2 * p' → s'' (10 + i) = τ1 5 i := fun i hi => by
      rw [← hs]; unfold pas; rw [if_pos (by omega), show 10 + i - 10 = i by omega]; dsimp only; rw [if_neg (by omega), xup_ne (by omega), k2 5 (by omega) (by omega)]
    have qm : ∀ j, j < p' → s'' (10 + 2 * j) = σ1 158 j ∧ s'' (11 + 2 * j) = σ1 159 j := fun j hj => by
      obtain ⟨⟨a, a9, r1, r2⟩, r3, r4⟩ := d4 j hj
      refine ⟨by rw [qp (2 * j) (by omega), r1, r2], ?_⟩
      rw [show 11 + 2 * j = 10 + (2 * j + 1) by omega, qp (2 * j + 1) (by omega), r3]
    obtain ⟨ht, R, I⟩ := hC'
    obtain ⟨hN7, r4, r5, ⟨hw, hW⟩, hLk, hRR⟩ := R
    obtain ⟨hn', ht', i7, i8, iN, iW, iL, iV, iz⟩ := I
    refine ⟨⟨n, p', t, ht, ⟨fun j hj => ?_, ?_, ?_, ⟨s5, fun j hj => ⟨?_, ?_⟩⟩, fun i hi => ?_, fun q hq => ?_⟩, ⟨hn', ht', ?_, ?_, ?_, ?_, ?_, ?_, ?_⟩⟩, HG_c hH' (fun i h1 h2 => by rw [o3 i (by omega) (by omega), o2 i (by omega) (by omega)]) (fun j => by rw [upc_ne (by omega), upc_ne (by omega), xup_ne (by omega)]) (by rw [upc_same, upd_ne (by omega), xup_ne (by omega)]), 0, by omega, by rw [upc_same, upd_same]; rfl, s155, fun i hi => by omega⟩
    · rw [upc_ne (by omega), upc_same, o3 _ (by omega) (by omega), o2 _ (by omega) (by omega), qo j (by omega) (by omega)]; exact hN7 j hj
    · rw [o3 _ (by omega) (by omega), o2 _ (by omega) (by omega)]; exact r4
    · rw [upc_ne (by omega), upc_same, o3 _ (by omega) (by omega), o2 _ (by omega) (by omega), qo 8 (by omega) (by omega)]; exact r5
    · rw [upc_ne (by omega), upc_same, show (1 + 4 + 1 : Nat) = 6 from rfl, o3 6 (by omega) (by omega), c6 j (by omega), k1 158 (by omega), (qm j hj).1]
    · rw [upc_ne (by omega), upc_same, show (1 + 4 + 2 : Nat) = 7 from rfl, o3 7 (by omega) (by omega), c7 j (by omega), k1 159 (by omega), (qm j hj).2]
    · rw [upc_ne (by omega), upc_same, o3 _ (by omega) (by omega), o2 _ (by omega) (by omega), qo _ (by omega) (by omega)]; exact hLk i hi
    · rw [upc_ne (by omega), upc_same, o3 _ (by omega) (by omega), o3 _ (by omega) (by omega), o2 _ (by omega) (by omega), o2 _ (by omega) (by omega)]
      exact RR_v (hRR q hq) (fun f hf => (qo _ (by omega) (by omega)).symm)
    · rw [upc_ne (by omega), upc_same, qo 7 (by omega) (by omega)]; exact i7
    · rw [upc_ne (by omega), upc_same, qo 8 (by omega) (by omega)]; exact i8
    · rw [upc_ne (by omega), upc_same]; unfold IvN; rw [qo 4 (by omega) (by omega), qo 5 (by omega) (by omega)]; exact iN
    · rw [upc_ne (by omega), upc_same]
      refine ⟨d1, q9, fun j hj => ?_, fun j hj => ?_, fun j hj => ?_⟩
      · obtain ⟨⟨a, a9, r1, r2⟩, r3, r4⟩ := d4 j hj
        exact ⟨a, a9, by rw [(qm j hj).1, r1]⟩
      · rw [(qm j (by omega)).1, (qm (j + 1) hj).1]; exact d5 j hj
      · rw [(qm j hj).2]; exact (d4 j hj).2.2
    · rw [upc_ne (by omega), upc_same]
      intro a b ha hb
      rw [qo _ (by omega) (by omega), qo _ (by omega) (by omega)]
      exact iL a b ha hb
    · rw [upc_ne (by omega), upc_same]
      intro q hq
      rw [sl_congr (s' := τ' 1) (show q < 6 by omega) (fun j h1 h2 => qo j (by omega) (by omega)) 6 (by omega)]
      exact IvV_v (iV q hq) (fun f hf => (qo _ (by omega) (by omega)).symm)
    · rw [upc_ne (by omega), upc_same]
      intro q hq hq6 f hf
      show s'' (70 + 21 * q + f) = 0
      rw [qo _ (by omega) (by omega)]
      exact iz q hq hq6 f hf
  · rw [e1, e2, bd_some, bd_some]
    dsimp only
    rw [if_neg (show ¬ nI e' = -1 by
      intro z
      have := congrArg Int32.toInt z
      rw [nI_toInt (by omega), show (-1 : Int32).toInt = -1 by decide] at this
      omega), if_pos bz_0, e3]
    exact ⟨_, σ1, τ1, rfl, rfl, ⟨n, p, t, CG_c hC (fun i a b => FS.1 i (by omega) (by omega) (by omega) (by omega)) (fun j _ => by rw [FT.1 1 (by omega) (by omega)])⟩, HG_c hH (fun i a b => FS.1 i (by omega) (by omega) (by omega) (by omega)) (fun j => by rw [FT.1 2 (by omega) (by omega)]) (FT.2 2 (by omega) (by omega) (by omega)), TG_c hT0 (FS.2 1 (by omega)) (fun j => by rw [FS.1 156 (by omega) (by omega) (by omega) (by omega)]) (fun j => by rw [FT.1 3 (by omega) (by omega)]) (FT.2 4 (by omega) (by omega) (by omega))⟩
