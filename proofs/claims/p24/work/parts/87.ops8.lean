/-! minutes on both sides -/
theorem both_min {k n p t : Nat} {σ τ : xM} (hk : kd k = 1) (R : Rel k n p σ (τ 1)) (I : Inv (τ 1) n p t) (ht : t + 1 ≤ 22000) :
    ∃ (c : Nat) (σ' τ' : xM), F_X1_passMinute k σ = some (nI c, σ') ∧ F_X7_minute 0 τ = some (nI c, τ') ∧ c ≤ 6 ∧ Rel k n p σ' (τ' 1) ∧ Inv (τ' 1) n p (t + 1) ∧ (∀ i, (i < k ∨ k + 19 ≤ i) → σ' i = σ i) ∧ (∀ i, i ≠ 1 → i ≠ 6 → τ' i = τ i) ∧ ∀ r, r < n → (vw (τ 1) r 12).toInt ≤ (vw (τ' 1) r 12).toInt := by
  obtain ⟨σ', e1, R', F⟩ := c_minute hk I.1 I.p12 R (inv_fit I)
  obtain ⟨W, e2⟩ := m_minute I.1 I.p12 I.2.2.1 I.2.2.2.2.2.1.2.1 (inv_fit I).1 (inv_caps I)
  obtain ⟨I', ⟨c, c6, ec⟩, mono⟩ := min_inv I ht
  have hn := I.1
  refine ⟨c, σ', _, by rw [e1, ec], by rw [e2, ec], by omega, ?_, ?_, F, fun i h1 h6 => by rw [upc_ne h1, upc_ne h6], ?_⟩
  · rw [upc_same]; exact R'
  · rw [upc_same]; exact I'
  · rw [upc_same]; exact mono
theorem both_mins {k n p m : Nat} (hk : kd k = 1) (hm : m ≤ 1000) :
    ∀ d i N N' a t (σ τ : xM), i + d = m → d < N → d < N' → a ≤ 6 * i → Rel k n p σ (τ 1) → Inv (τ 1) n p t → t + d ≤ 22000 →
      ∃ (a' : Nat) (σ' τ' : xM), F_X1_passMinutes_L4 k N (nI m) (nI a) (nI i) σ = some (nI a', σ') ∧ F_X7_minutes_L4 0 N' (nI m) (nI a) (nI i) τ = some (nI a', τ') ∧ a' ≤ 6 * m ∧ Rel k n p σ' (τ' 1) ∧ Inv (τ' 1) n p (t + d) ∧ (∀ i, (i < k ∨ k + 19 ≤ i) → σ' i = σ i) ∧ (∀ i, i ≠ 1 → i ≠ 6 → τ' i = τ i) ∧ ∀ r, r < n → (vw (τ 1) r 12).toInt ≤ (vw (τ' 1) r 12).toInt := by
  intro d
  induction d with
  | zero =>
    intro i N N' a t σ τ hi hN hN' ha R I ht
    obtain ⟨N, rfl⟩ : ∃ M, N = M + 1 := ⟨N - 1, by omega⟩
    obtain ⟨N', rfl⟩ : ∃ M, N' = M + 1 := ⟨N' - 1, by omega⟩
    obtain rfl : i = m := by omega
    refine ⟨a, σ, τ, ?_, ?_, ha, R, I, fun _ _ => rfl, fun _ _ _ => rfl, fun _ _ => Int.le_refl _⟩
    · rw [F_X1_passMinutes_L4, if_pos (nI_le (Nat.le_refl i) (by omega))]
    · rw [F_X7_minutes_L4, if_pos (nI_le (Nat.le_refl i) (by omega))]
  | succ d ih =>
    intro i N N' a t σ τ hi hN hN' ha R I ht
    obtain ⟨N, rfl⟩ : ∃ M, N = M + 1 := ⟨N - 1, by omega⟩
    obtain ⟨N', rfl⟩ : ∃ M, N' = M + 1 := ⟨N' - 1, by omega⟩
    obtain ⟨c, σ1, τ1, e1, e2, c6, R1, I1, F1, F2, M1⟩ := both_min hk R I (by omega)
    obtain ⟨a', σ2, τ2, g1, g2, a6, R2, I2, G1, G2, M2⟩ := ih (i + 1) N N' (a + c) (t + 1) σ1 τ1 (by omega) (by omega) (by omega) (by omega) R1 I1 (by omega)
    refine ⟨a', σ2, τ2, ?_, ?_, a6, R2, by rw [show t + (d + 1) = t + 1 + d by omega]; exact I2, fun i hi => (G1 i hi).trans (F1 i hi), fun i h1 h6 => (G2 i h1 h6).trans (F2 i h1 h6), fun r hr => Int.le_trans (M1 r hr) (M2 r hr)⟩
    · rw [F_X1_passMinutes_L4, if_neg (nI_ge (by omega) (by omega)), e1, bd_some, nm_eq, nI_1]
      dsimp only
      rw [nI_add]
      exact g1
    · rw [F_X7_minutes_L4, if_neg (nI_ge (by omega) (by omega)), e2, bd_some, nm_eq, nI_1]
      dsimp only
      rw [nI_add]
      exact g2
theorem lit_cases1 {a b : Int32} (x : Int32) (h : ¬ bz (inW x a b) = 0) {A B : Nat} (ha : a.toInt = A) (hb : b.toInt = B) (hB : B < 2 ^ 31) : ∃ j : Nat, A ≤ j ∧ j ≤ B ∧ x = nI j := by
  obtain ⟨h1, h2, _⟩ := inW_1 h
  exact ⟨x.toInt.toNat, by omega, by omega, nI_ofT (by omega)⟩
theorem op_pass {x : Int32} : OpS (F_X6_pass 0 x) (F_X7_pass 0 x) := by
  intro σ τ hG
  have hG0 := hG
  obtain ⟨⟨n, p, t, hC⟩, hH, hT⟩ := hG
  have hn := hC.n6
  unfold F_X6_pass F_X7_pass
  simp only [Nat.zero_add]
  rw [c_in, bd_some, m_in, bd_some]
  by_cases h1 : bz (inW x 1 500) = 0
  · rw [if_pos h1, if_pos h1]
    exact ⟨_, σ, τ, rfl, rfl, hG0⟩
  rw [if_neg h1, if_neg h1, if_pos inl7]
  obtain ⟨m, m1, m2, rfl⟩ := lit_cases1 x h1 (A := 1) (B := 500) (by decide) (by decide) (by omega)
  dsimp only
  have t7 : τ 1 (Int32.toNatClampNeg 7) = nI n := by rw [cll7]; exact hC.t7
  have t8 : τ 1 (Int32.toNatClampNeg 8) = nI t := by rw [cll8]; exact hC.2.2.2.2.2.1
  have s5 : σ 1 5 = nI t := by rw [hC.2.1.2.2.1]; exact hC.2.2.2.2.2.1
  by_cases h2 : n = 0
  · rw [if_pos (show σ 1 4 = 0 by rw [hC.s4, h2]; rfl), if_pos (show τ 1 (Int32.toNatClampNeg 7) = 0 by rw [t7, h2]; rfl)]
    exact ⟨_, σ, τ, rfl, rfl, hG0⟩
  rw [if_neg (show ¬ σ 1 4 = 0 by rw [hC.s4]; exact nI_ne0 (by omega) (by omega)), if_neg (show ¬ τ 1 (Int32.toNatClampNeg 7) = 0 by rw [t7]; exact nI_ne0 (by omega) (by omega)), if_pos inl8]
  have ht := hC.1
  have z : (20000 : Int32).toInt = 20000 := by decide
  have cc : nI m ≤ 20000 - σ 1 5 ↔ m + t ≤ 20000 := by
    rw [s5, i_le, i_sub (by rw [z, nI_toInt (by omega)]; omega) (by rw [z, nI_toInt (by omega)]; omega), z, nI_toInt (by omega), nI_toInt (by omega)]
    omega
  have cm : τ 1 (Int32.toNatClampNeg 8) + nI m ≤ 20000 ↔ m + t ≤ 20000 := by
    rw [t8, nI_add, i_le, z, nI_toInt (by omega)]
    omega
  by_cases h3 : m + t ≤ 20000
  · rw [if_pos (cc.mpr h3), if_pos (cm.mpr h3)]
    obtain ⟨σ', τ', E, N, hC', hH', hT', k1, k2, k3⟩ := after hC hH hT
    rw [E, bd_some, N, bd_some]
    dsimp only
    obtain ⟨ht', R, I⟩ := hC'
    obtain ⟨a', σ2, τ2, g1, g2, a6, R2, I2, G1, G2, M2⟩ := both_mins (k := 1) (m := m) rfl (by omega) m 0 FU FU 0 t σ' τ' (by omega) (by rw [FU_eq]; omega) (by rw [FU_eq]; omega) (by omega) R I (by omega)
    rw [nI_0] at g1 g2
    unfold F_X1_passMinutes F_X7_minutes
    rw [g1, g2, bd_some, bd_some]
    exact ⟨_, σ2, τ2, rfl, rfl, ⟨n, p, t + m, by omega, R2, I2⟩, HG_c hH' (fun i h1 h2 => G1 i (by omega)) (fun j => by rw [G2 2 (by omega) (by omega)]) (by rw [G2 0 (by omega) (by omega)]), TG_c hT' (by rw [G1 155 (by omega)]) (fun j => by rw [G1 156 (by omega)]) (fun j => by rw [G2 3 (by omega) (by omega)]) (by rw [G2 0 (by omega) (by omega)])⟩
  · rw [if_neg (fun q => h3 (cc.mp q)), if_neg (fun q => h3 (cm.mp q))]
    exact ⟨_, σ, τ, rfl, rfl, hG0⟩
/-! forecasts -/
theorem GG_fc {σ τ σ' τ' : xM} (h : GG σ τ) (hσ : ∀ i, (i < 20 ∨ 39 ≤ i) → σ' i = σ i) (h1 : ∀ j, j < 196 → τ' 1 j = τ 1 j) (h0 : τ' 0 = τ 0) (h2 : τ' 2 = τ 2) (h3 : τ' 3 = τ 3) : GG σ' τ' := by
  obtain ⟨⟨n, p, t, hC⟩, hH, hT⟩ := h
  exact ⟨⟨n, p, t, CG_c hC (fun i a b => hσ i (by omega)) h1⟩, HG_c hH (fun i a b => hσ i (by omega)) (fun j => by rw [h2]) (by rw [h0]), TG_c hT (by rw [hσ 155 (by omega)]) (fun j => by rw [hσ 156 (by omega)]) (fun j => by rw [h3]) (by rw [h0])⟩
theorem both_isS {n p r : Nat} {σ τ : xM} (R : Rel 20 n p σ (τ 1)) (hn : n ≤ 6) (hr : r < n) : ∃ z : Int32, F_X1_isSuspect 20 (20 + 7 + 2 * r) σ = some (z, σ) ∧ F_X7_isSuspect 0 (nI r) τ = some (z, τ) ∧ (z = 0 ∨ z = 1) := by
  unfold F_X1_isSuspect F_X7_isSuspect
  rw [c_num6, bd_some, show (13 : Int32) = nI 13 from rfl, ofS (by omega) (by omega), bd_some, if_pos inl6, Nat.zero_add, cll6]
  dsimp only
  have e6 : σ (20 + 1) 6 = τ 1 6 := R.1 6 (by omega)
  have e16 : σ (20 + 7 + 2 * r) 16 = vw (τ 1) r 13 := (R.2.2.2.2.2 r hr).2.1.2.2.2.2.2.2
  by_cases h : vw (τ 1) r 13 < τ 1 6
  · rw [if_pos (by rw [e6, e16]; exact h), if_pos h]
    exact ⟨0, rfl, rfl, Or.inl rfl⟩
  · rw [if_neg (by rw [e6, e16]; exact h), if_neg h]
    exact ⟨1, rfl, rfl, Or.inr rfl⟩
theorem pas_1 {f g : Nat → Int32} {j : Nat} (hj : j < 196) : pas f g 0 196 j = g j := by
  unfold pas
  rw [if_pos (by omega)]
  exact congrArg g (by omega)
theorem m_J64s {v : Int32} {y : Int32} {τ : xM} : F_X7_minutesToSuspect_J64 0 v y τ = some (if y = 0 then -1000009 else v, upc τ 1 (pas (τ 1) (τ 4) 0 196)) := by
  unfold F_X7_minutesToSuspect_J64
  rw [m_restores, bd_some]
  by_cases h : y = 0
  · rw [if_pos h, if_pos h]
  · rw [if_neg h, if_neg h]
theorem both_toS {n p r : Nat} (hr : r < n) :
    ∀ d i N N' a t (σ τ : xM), i + d = 1000 → d < N → d < N' → a ≤ 6 * i → Rel 20 n p σ (τ 1) → Inv (τ 1) n p t → t + d ≤ 22000 →
      ∃ (z : Int32) (σ' τ' : xM), F_X6_minutesToSuspect_L29 0 N (20 + 7 + 2 * r) (nI i) σ = some (z, σ') ∧ F_X7_minutesToSuspect_L19 0 N' (nI r) (nI i) (nI a) τ = some (z, τ') ∧ (∀ i, (i < 20 ∨ 39 ≤ i) → σ' i = σ i) ∧ (∀ i, i ≠ 1 → i ≠ 6 → τ' i = τ i) ∧ ∀ j, j < 196 → τ' 1 j = τ 4 j := by
  intro d
  induction d with
  | zero =>
    intro i N N' a t σ τ hi hN hN' ha R I ht
    obtain ⟨N, rfl⟩ : ∃ M, N = M + 1 := ⟨N - 1, by omega⟩
    obtain ⟨N', rfl⟩ : ∃ M, N' = M + 1 := ⟨N' - 1, by omega⟩
    obtain rfl : i = 1000 := by omega
    obtain ⟨z, e1, e2, hz⟩ := both_isS R I.1 hr
    rw [F_X6_minutesToSuspect_L29, if_pos (show (1000 : Int32) ≤ nI 1000 by decide), F_X7_minutesToSuspect_L19, if_pos (show (1000 : Int32) ≤ nI 1000 by decide), Nat.zero_add]
    unfold F_X7_minutesToSuspect_J47 F_X7_minutesToSuspect_J63
    rw [e1, bd_some, e2, bd_some]
    dsimp only
    rcases hz with rfl | rfl
    · rw [if_pos bz_0, if_pos bz_0, m_J64s, if_pos rfl]
      exact ⟨_, σ, _, rfl, rfl, fun _ _ => rfl, fun i h1 _ => upc_ne h1, fun j hj => by rw [upc_same, pas_1 hj]⟩
    · rw [if_neg bz1n, if_neg bz1n, if_neg (nI_pos (by omega)), m_J64s, if_neg (by decide)]
      exact ⟨_, σ, _, rfl, rfl, fun _ _ => rfl, fun i h1 _ => upc_ne h1, fun j hj => by rw [upc_same, pas_1 hj]⟩
  | succ d ih =>
    intro i N N' a t σ τ hi hN hN' ha R I ht
    obtain ⟨N, rfl⟩ : ∃ M, N = M + 1 := ⟨N - 1, by omega⟩
    obtain ⟨N', rfl⟩ : ∃ M, N' = M + 1 := ⟨N' - 1, by omega⟩
    obtain ⟨z, e1, e2, hz⟩ := both_isS R I.1 hr
    have hlt : ¬ (1000 : Int32) ≤ nI i := nI_ge (b := 1000) (by omega) (by omega)
    rw [F_X6_minutesToSuspect_L29, if_neg hlt, F_X7_minutesToSuspect_L19, if_neg hlt, Nat.zero_add, e1, bd_some, e2, bd_some]
    dsimp only
    rcases hz with rfl | rfl
    · rw [if_pos bz_0, if_pos bz_0]
      obtain ⟨c, σ1, τ1, g1, g2, c6, R1, I1, F1, F2, M1⟩ := both_min rfl R I (by omega)
      rw [g1, bd_some, g2, bd_some, nm_eq, nI_1]
      dsimp only
      rw [nI_add]
      obtain ⟨z, σ2, τ2, q1, q2, G1, G2, G3⟩ := ih (i + 1) N N' (a + c) (t + 1) σ1 τ1 (by omega) (by omega) (by omega) (by omega) R1 I1 (by omega)
      exact ⟨z, σ2, τ2, q1, q2, fun i hi => (G1 i hi).trans (F1 i (by omega)), fun i h1 h6 => (G2 i h1 h6).trans (F2 i h1 h6), fun j hj => by rw [G3 j hj, F2 4 (by omega) (by omega)]⟩
    · rw [if_neg bz1n, if_neg bz1n]
      unfold F_X7_minutesToSuspect_J47
      rw [e2, bd_some]
      dsimp only
      rw [if_neg bz1n, if_neg (nI_pos (by omega)), m_J64s, if_neg (by decide)]
      exact ⟨_, σ, _, rfl, rfl, fun _ _ => rfl, fun i h1 _ => upc_ne h1, fun j hj => by rw [upc_same, pas_1 hj]⟩
theorem op_minutesToSuspect {x : Int32} : OpS (F_X6_minutesToSuspect 0 x) (F_X7_minutesToSuspect 0 x) := by
  intro σ τ hG
  have hG0 := hG
  obtain ⟨⟨n, p, t, hC⟩, hH, hT⟩ := hG
  have ht := hC.1
  have hn := hC.n6
  have I := hC.2.2
  obtain ⟨σ1, E, R1, F⟩ := c_copy (k := 20) (c := 1) rfl rfl (by omega) hn I.p12 hC.2.1
  have s4 : σ1 20 4 = nI n := R1.2.1
  unfold F_X6_minutesToSuspect F_X7_minutesToSuspect
  simp only [Nat.zero_add]
  rw [E, bd_some, m_isRoom, bd_some, hC.t7]
  dsimp only
  rcases room_cases hn x with ⟨r, hr, rfl, e⟩ | ⟨hx, e⟩
  · rw [c_room s4 hr hn, bd_some]
    show ∃ r' σ'' τ'', oc (some (20 + 7 + 2 * r)) _ _ = _ ∧ _
    rw [oc_some, if_pos (kd_room rfl (by omega)), e, if_neg bz1n, m_keeps, bd_some]
    dsimp only
    generalize hτ : upc τ 4 (pas (τ 4) (τ 1) 0 196) = τ1
    have t1 : τ1 1 = τ 1 := by rw [← hτ, upc_ne (by omega)]
    have t4 : ∀ j, j < 196 → τ1 4 j = τ 1 j := fun j hj => by rw [← hτ, upc_same, pas_1 hj]
    have to : ∀ i, i ≠ 4 → τ1 i = τ i := fun i hi => by rw [← hτ, upc_ne hi]
    obtain ⟨z, σ2, τ2, q1, q2, G1, G2, G3⟩ := both_toS hr 1000 0 FU FU 0 t σ1 τ1 (by omega) (by rw [FU_eq]; omega) (by rw [FU_eq]; omega) (by omega) (by rw [t1]; exact R1) (by rw [t1]; exact I) (by omega)
    rw [nI_0] at q1 q2
    rw [q1, q2]
    exact ⟨z, σ2, τ2, rfl, rfl, GG_fc hG0 (fun i hi => (G1 i hi).trans (F i (by omega))) (fun j hj => by rw [G3 j hj, t4 j hj]) (by rw [G2 0 (by omega) (by omega), to 0 (by omega)]) (by rw [G2 2 (by omega) (by omega), to 2 (by omega)]) (by rw [G2 3 (by omega) (by omega), to 3 (by omega)])⟩
  · rw [c_noroom s4 hx, bd_some, e]
    exact ⟨-1000001, σ1, τ, rfl, rfl, GG_fc hG0 (fun i hi => F i (by omega)) (fun _ _ => rfl) rfl rfl rfl⟩
theorem op_heatIn {x : Int32} : OpS (F_X6_heatIn 0 x) (F_X7_heatIn 0 x) := by
  intro σ τ hG
  have hG0 := hG
  obtain ⟨⟨n, p, t, hC⟩, hH, hT⟩ := hG
  have ht := hC.1
  have hn := hC.n6
  have I := hC.2.2
  obtain ⟨σ1, E, R1, F⟩ := c_copy (k := 20) (c := 1) rfl rfl (by omega) hn I.p12 hC.2.1
  unfold F_X6_heatIn F_X7_heatIn
  simp only [Nat.zero_add]
  rw [c_in, bd_some, m_in, bd_some]
  by_cases h1 : bz (inW x 1 1000) = 0
  · rw [if_pos h1, if_pos h1]
    exact ⟨_, σ, τ, rfl, rfl, hG0⟩
  rw [if_neg h1, if_neg h1]
  obtain ⟨m, m1, m2, rfl⟩ := lit_cases1 x h1 (A := 1) (B := 1000) (by decide) (by decide) (by omega)
  dsimp only
  rw [E, bd_some, m_keeps, bd_some]
  dsimp only
  generalize hτ : upc τ 4 (pas (τ 4) (τ 1) 0 196) = τ1
  have t1 : τ1 1 = τ 1 := by rw [← hτ, upc_ne (by omega)]
  have t4 : ∀ j, j < 196 → τ1 4 j = τ 1 j := fun j hj => by rw [← hτ, upc_same, pas_1 hj]
  have to : ∀ i, i ≠ 4 → τ1 i = τ i := fun i hi => by rw [← hτ, upc_ne hi]
  obtain ⟨a', σ2, τ2, g1, g2, a6, R2, I2, G1, G2, M2⟩ := both_mins (k := 20) (m := m) rfl (by omega) m 0 FU FU 0 t σ1 τ1 (by omega) (by rw [FU_eq]; omega) (by rw [FU_eq]; omega) (by omega) (by rw [t1]; exact R1) (by rw [t1]; exact I) (by omega)
  rw [nI_0] at g1 g2
  have Rb : Rel 1 n p σ2 (τ1 1) := by rw [t1]; exact Rel_c hn I.p12 hC.2.1 (fun i hi => by rw [G1 _ (by omega), F _ (by omega)]) (fun _ _ => rfl)
  obtain ⟨z1, b1, b2⟩ := both_heat (k := 1) rfl Rb hn (by rw [t1]; exact hC.t7) n 0 FU FU 0 (by omega) (by rw [FU_eq]; omega) (by rw [FU_eq]; omega)
  obtain ⟨z2, b3, b4⟩ := both_heat (k := 20) rfl R2 hn I2.2.2.1 n 0 FU FU 0 (by omega) (by rw [FU_eq]; omega) (by rw [FU_eq]; omega)
  rw [nI_0] at b1 b2 b3 b4
  unfold F_X7_heated F_X1_heatFromHeaters F_X1_passMinutes F_X7_minutes F_X7_heatIn_J41
  rw [g1, bd_some, b2, bd_some]
  dsimp only
  rw [b3, bd_some, g2, bd_some]
  dsimp only
  rw [b1, bd_some, if_pos (nI_pos' (by omega)), b4, bd_some]
  dsimp only
  rw [m_restores, bd_some]
  dsimp only
  exact ⟨_, σ2, _, rfl, rfl, GG_fc hG0 (fun i hi => (G1 i hi).trans (F i (by omega))) (fun j hj => by rw [upc_same, pas_1 hj, G2 4 (by omega) (by omega), t4 j hj]) (by rw [upc_ne (by omega), G2 0 (by omega) (by omega), to 0 (by omega)]) (by rw [upc_ne (by omega), G2 2 (by omega) (by omega), to 2 (by omega)]) (by rw [upc_ne (by omega), G2 3 (by omega) (by omega), to 3 (by omega)])⟩
