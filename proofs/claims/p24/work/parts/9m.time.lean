section TIME
variable {n p : Nat}
/-- minutes of the ghost: the property, what the heaters gave, and suspect minutes behind them -/
theorem g_mins {m : Nat} (hm : m ≤ 1000) : ∀ d i N a t (τ : xM), i + d = m → d < N → a ≤ 6 * i → Inv (τ 1) n p t → JV (τ 1) n → t + d ≤ 22000 →
    ∃ (a' : Nat) (τ' : xM), F_X7_minutes_L4 0 N (nI m) (nI a) (nI i) τ = some (nI a', τ') ∧ a' ≤ 6 * m ∧ Inv (τ' 1) n p (t + d) ∧ JV (τ' 1) n ∧ (0 < d → SC (τ' 1) n) ∧ (∀ i, i ≠ 1 → i ≠ 6 → τ' i = τ i) ∧ ∃ H : Nat, H ≤ 1200 * d ∧ sm (fun r => vw (τ' 1) r 17) n = sm (fun r => vw (τ 1) r 17) n + nI H := by
  intro d
  induction d with
  | zero =>
    intro i N a t τ hi hN ha I J ht
    obtain ⟨N, rfl⟩ : ∃ M, N = M + 1 := ⟨N - 1, by omega⟩
    obtain rfl : i = m := by omega
    refine ⟨a, τ, ?_, ha, I, J, fun z => by omega, fun _ _ _ => rfl, 0, by omega, ?_⟩
    · rw [F_X7_minutes_L4, if_pos (nI_le (Nat.le_refl i) (by omega))]
    · rw [nI_0, Int32.add_zero]
  | succ d ih =>
    intro i N a t τ hi hN ha I J ht
    obtain ⟨N, rfl⟩ : ∃ M, N = M + 1 := ⟨N - 1, by omega⟩
    have hn := I.1
    obtain ⟨W, e2⟩ := m_minute I.1 I.p12 I.2.2.1 I.2.2.2.2.2.1.2.1 (inv_fit I).1 (inv_caps I)
    obtain ⟨I', ⟨c, c6, ec⟩, -⟩ := min_inv I (by omega)
    obtain ⟨J', S', H, h1, h2⟩ := min_jv (p := p) I J
    generalize hτ : upc (upc τ 6 W) 1 (minS (τ 1) n p).2 = τ1 at e2
    have t1 : τ1 1 = (minS (τ 1) n p).2 := by rw [← hτ, upc_same]
    have to : ∀ i, i ≠ 1 → i ≠ 6 → τ1 i = τ i := fun i a b => by rw [← hτ, upc_ne a, upc_ne b]
    rw [← t1] at I' J' S' h2
    obtain ⟨a', τ2, g2, a6, I2, J2, S2, G2, H2, k1, k2⟩ := ih (i + 1) N (a + c) (t + 1) τ1 (by omega) (by omega) (by omega) I' J' (by omega)
    refine ⟨a', τ2, ?_, a6, by rw [show t + (d + 1) = t + 1 + d by omega]; exact I2, J2, fun _ => ?_, fun i a b => (G2 i a b).trans (to i a b), H + H2, by omega, ?_⟩
    · rw [F_X7_minutes_L4, if_neg (nI_ge (by omega) (by omega)), e2, ec, bd_some, nm_eq, nI_1]
      dsimp only
      rw [nI_add]
      exact g2
    · by_cases hd : 0 < d
      · exact S2 hd
      · have hd0 : d = 0 := by omega
        subst hd0
        -- no further minute
        have hN1 : ∃ M, N = M + 1 := ⟨N - 1, by omega⟩
        obtain ⟨M, rfl⟩ := hN1
        rw [F_X7_minutes_L4, if_pos (nI_le (by omega) (by omega))] at g2
        obtain ⟨-, e⟩ := Prod.mk.inj (Option.some.inj g2)
        rw [← e]
        exact S'
    · rw [k2, h2, Int32.add_assoc, nI_add]
theorem o_pass {τ : xM} {t c : Nat} (I : Inv (τ 1) n p t) (ht : t ≤ 20000) (J : JV (τ 1) n) (hc : c ≤ 6) (h2 : τ 0 2 = nI c) {x : Int32} :
    (∃ r : Int32, F_X7_pass 0 x τ = some (r, τ) ∧ ¬ -1000000 < r) ∨ (∃ (r : Int32) (τ' : xM) (n' : Nat), F_X7_pass 0 x τ = some (r, τ') ∧ -1000000 < r ∧ SV τ τ' c ∧ τ' 1 7 = nI n' ∧ n' ≤ 6 ∧ JV (τ' 1) n' ∧ SC (τ' 1) n') := by
  have hn := I.1
  unfold F_X7_pass
  rw [m_in, bd_some]
  dsimp only
  by_cases h1 : bz (inW x 1 500) = 0
  · rw [if_pos h1]
    exact Or.inl ⟨_, rfl, by decide⟩
  rw [if_neg h1, if_pos inl7]
  obtain ⟨m, m1, m2, rfl⟩ := lit_cases1 x h1 (A := 1) (B := 500) (by decide) (by decide) (by omega)
  by_cases h3 : τ (0 + 1) (Int32.toNatClampNeg 7) = 0
  · rw [if_pos h3]
    exact Or.inl ⟨_, rfl, by decide⟩
  rw [if_neg h3, if_pos inl8]
  have t8 : τ (0 + 1) (Int32.toNatClampNeg 8) = nI t := by rw [cll8]; exact I.2.2.2.1
  have z : (20000 : Int32).toInt = 20000 := by decide
  have cm : τ (0 + 1) (Int32.toNatClampNeg 8) + nI m ≤ 20000 ↔ m + t ≤ 20000 := by
    rw [t8, nI_add, i_le, z, nI_toInt (by omega)]
    omega
  by_cases h4 : m + t ≤ 20000
  · rw [if_pos (cm.mpr h4), g_notes hc h2, bd_some]
    dsimp only
    obtain ⟨a', τ2, g2, a6, I2, J2, S2, G2, -⟩ := g_mins (n := n) (p := p) (m := m) (by omega) m 0 FU 0 t (NT τ c) (by omega) (by rw [FU_eq]; omega) (by omega) (by rw [NT_1]; exact I) (by rw [NT_1]; exact J) (by omega)
    rw [nI_0] at g2
    unfold F_X7_minutes
    rw [g2, bd_some]
    refine Or.inr ⟨nI a', τ2, n, rfl, big_i ?_, ⟨?_, ?_⟩, I2.2.2.1, hn, J2, S2 (by omega)⟩
    · rw [nI_toInt (by omega)]; omega
    · rw [G2 2 (by omega) (by omega), NT_2]
    · rw [G2 0 (by omega) (by omega), NT_0]
  · rw [if_neg (fun q => h4 (cm.mp q))]
    exact Or.inl ⟨_, rfl, by decide⟩
theorem g_heatedL {τ : xM} {t : Nat} (I : Inv (τ 1) n p t) : ∀ d i N v, i + d = n → d < N → v = sm (fun r => vw (τ 1) r 17) i → F_X7_heated_L4 0 N v (nI i) τ = some (sm (fun r => vw (τ 1) r 17) n, τ) := by
  have hn := I.1
  have h7 := I.2.2.1
  intro d
  induction d with
  | zero =>
    intro i N v hi hN hv
    obtain ⟨N, rfl⟩ : ∃ M, N = M + 1 := ⟨N - 1, by omega⟩
    obtain rfl : i = n := by omega
    rw [F_X7_heated_L4, if_pos inl7, Nat.zero_add, cll7, h7, if_pos (nI_le (Nat.le_refl i) (by omega)), hv]
  | succ d ih =>
    intro i N v hi hN hv
    obtain ⟨N, rfl⟩ : ∃ M, N = M + 1 := ⟨N - 1, by omega⟩
    rw [F_X7_heated_L4, if_pos inl7, Nat.zero_add, cll7, h7, if_neg (nI_ge (by omega) (by omega)), show (17 : Int32) = nI 17 from rfl, ofS (by omega) (by omega), bd_some]
    dsimp only
    rw [nm_eq, nI_1]
    exact ih (i + 1) N _ (by omega) (by omega) (by rw [sm, hv])
theorem g_heated {τ : xM} {t : Nat} (I : Inv (τ 1) n p t) : F_X7_heated 0 τ = some (sm (fun r => vw (τ 1) r 17) n, τ) := by
  have hn := I.1
  have := g_heatedL I n 0 FU 0 (by omega) (by rw [FU_eq]; omega) rfl
  rw [nI_0] at this
  exact this
/-- the ghost behind a forecast is the ghost before it -/
def FC (τ τ' : xM) : Prop := τ' 0 = τ 0 ∧ τ' 2 = τ 2 ∧ ∀ j, j < 196 → τ' 1 j = τ 1 j
theorem g_heatIn {τ : xM} {t : Nat} (I : Inv (τ 1) n p t) (ht : t ≤ 20000) (J : JV (τ 1) n) : ∃ (r : Int32) (τ' : xM), F_X7_heatIn 0 20 τ = some (r, τ') ∧ ¬ r < 0 ∧ FC τ τ' := by
  have hn := I.1
  unfold F_X7_heatIn
  rw [m_in, bd_some]
  dsimp only
  rw [if_neg (show ¬ bz (inW 20 1 1000) = 0 by decide), m_keeps, bd_some]
  dsimp only
  generalize hτ : upc τ 4 (pas (τ 4) (τ 1) 0 196) = τ1
  have t1 : τ1 1 = τ 1 := by rw [← hτ, upc_ne (by omega)]
  have t4 : ∀ j, j < 196 → τ1 4 j = τ 1 j := fun j hj => by rw [← hτ, upc_same, pas_1 hj]
  have to : ∀ i, i ≠ 4 → τ1 i = τ i := fun i hi => by rw [← hτ, upc_ne hi]
  have I1 : Inv (τ1 1) n p t := by rw [t1]; exact I
  obtain ⟨a', τ2, g2, a6, I2, J2, S2, G2, H, k1, k2⟩ := g_mins (n := n) (p := p) (m := 20) (by omega) 20 0 FU 0 t τ1 (by omega) (by rw [FU_eq]; omega) (by omega) I1 (by rw [t1]; exact J) (by omega)
  rw [nI_0] at g2
  unfold F_X7_minutes F_X7_heatIn_J41
  rw [g_heated I1, bd_some]
  dsimp only
  rw [show (20 : Int32) = nI 20 from rfl, g2, bd_some]
  dsimp only
  rw [if_pos (nI_pos' (by omega)), g_heated I2, bd_some]
  dsimp only
  rw [m_restores, bd_some]
  dsimp only
  refine ⟨_, _, rfl, ?_, ?_, ?_, fun j hj => ?_⟩
  · rw [k2]
    have e : sm (fun r => vw (τ1 1) r 17) n + nI H - sm (fun r => vw (τ1 1) r 17) n = nI H := by grind
    rw [e]
    exact nI_pos (by omega)
  · rw [upc_ne (by omega), G2 0 (by omega) (by omega), to 0 (by omega)]
  · rw [upc_ne (by omega), G2 2 (by omega) (by omega), to 2 (by omega)]
  · rw [upc_same, pas_1 hj, G2 4 (by omega) (by omega), t4 j hj]
theorem g_toS {r : Nat} (hr : r < n) :
    ∀ d i N a t (τ : xM), i + d = 1000 → d < N → a ≤ 6 * i → Inv (τ 1) n p t → t + d ≤ 22000 →
      ∃ (z : Int32) (τ' : xM), F_X7_minutesToSuspect_L19 0 N (nI r) (nI i) (nI a) τ = some (z, τ') ∧ ¬ 1000 < z ∧ (∀ i, i ≠ 1 → i ≠ 6 → τ' i = τ i) ∧ ∀ j, j < 196 → τ' 1 j = τ 4 j := by
  have fin : ∀ (z : Int32) (i : Nat) (τ : xM), i ≤ 1000 → (z = -1000009 ∨ z = nI i) → ∃ (z' : Int32) (τ' : xM), (some (z, upc τ 1 (pas (τ 1) (τ 4) 0 196)) : Option (Int32 × xM)) = some (z', τ') ∧ ¬ 1000 < z' ∧ (∀ i, i ≠ 1 → i ≠ 6 → τ' i = τ i) ∧ ∀ j, j < 196 → τ' 1 j = τ 4 j := by
    intro z i τ hi hz
    refine ⟨z, _, rfl, ?_, fun i h1 _ => upc_ne h1, fun j hj => by rw [upc_same, pas_1 hj]⟩
    rcases hz with rfl | rfl
    · decide
    · exact nI_nlt (a := 1000) (by omega) (by omega)
  intro d
  induction d with
  | zero =>
    intro i N a t τ hi hN ha I ht
    have hn := I.1
    obtain ⟨N, rfl⟩ : ∃ M, N = M + 1 := ⟨N - 1, by omega⟩
    obtain rfl : i = 1000 := by omega
    rw [F_X7_minutesToSuspect_L19, if_pos (show (1000 : Int32) ≤ nI 1000 by decide)]
    unfold F_X7_minutesToSuspect_J47 F_X7_minutesToSuspect_J63
    rw [g_sus (by omega), bd_some]
    dsimp only
    rcases sus_01 (s := τ 1) (r := r) with z | z
    · rw [z, if_pos bz_0, m_J64s, if_pos rfl]
      exact fin _ 1000 τ (by omega) (Or.inl rfl)
    · rw [z, if_neg bz1n, if_neg (nI_pos (by omega)), m_J64s, if_neg (by decide)]
      exact fin _ 1000 τ (by omega) (Or.inr rfl)
  | succ d ih =>
    intro i N a t τ hi hN ha I ht
    have hn := I.1
    obtain ⟨N, rfl⟩ : ∃ M, N = M + 1 := ⟨N - 1, by omega⟩
    have hlt : ¬ (1000 : Int32) ≤ nI i := nI_ge (b := 1000) (by omega) (by omega)
    rw [F_X7_minutesToSuspect_L19, if_neg hlt, g_sus (by omega), bd_some]
    dsimp only
    rcases sus_01 (s := τ 1) (r := r) with z | z
    · rw [z, if_pos bz_0]
      obtain ⟨W, e2⟩ := m_minute I.1 I.p12 I.2.2.1 I.2.2.2.2.2.1.2.1 (inv_fit I).1 (inv_caps I)
      obtain ⟨I', ⟨c, c6, ec⟩, -⟩ := min_inv I (by omega)
      generalize hτ : upc (upc τ 6 W) 1 (minS (τ 1) n p).2 = τ1 at e2
      have t1 : τ1 1 = (minS (τ 1) n p).2 := by rw [← hτ, upc_same]
      have to : ∀ i, i ≠ 1 → i ≠ 6 → τ1 i = τ i := fun i a b => by rw [← hτ, upc_ne a, upc_ne b]
      rw [← t1] at I'
      rw [e2, ec, bd_some]
      dsimp only
      rw [nm_eq, nI_1, nI_add]
      obtain ⟨z', τ2, q2, q3, G2, G3⟩ := ih (i + 1) N (a + c) (t + 1) τ1 (by omega) (by omega) (by omega) I' (by omega)
      exact ⟨z', τ2, q2, q3, fun i h1 h6 => (G2 i h1 h6).trans (to i h1 h6), fun j hj => by rw [G3 j hj, to 4 (by omega) (by omega)]⟩
    · rw [z, if_neg bz1n]
      unfold F_X7_minutesToSuspect_J47
      rw [g_sus (by omega), bd_some]
      dsimp only
      rw [z, if_neg bz1n, if_neg (nI_pos (by omega)), m_J64s, if_neg (by decide)]
      exact fin _ i τ (by omega) (Or.inr rfl)
theorem g_soon {τ : xM} {t : Nat} (I : Inv (τ 1) n p t) (ht : t ≤ 20000) : ∃ (r : Int32) (τ' : xM), F_X7_minutesToSuspect 0 0 τ = some (r, τ') ∧ ¬ 1000 < r ∧ FC τ τ' := by
  have hn := I.1
  unfold F_X7_minutesToSuspect
  rw [m_isRoom, bd_some, I.2.2.1]
  dsimp only
  rcases room_cases hn 0 with ⟨r, hr, e0, e⟩ | ⟨hx, e⟩
  · rw [e, if_neg bz1n, m_keeps, bd_some]
    dsimp only
    generalize hτ : upc τ 4 (pas (τ 4) (τ 1) 0 196) = τ1
    have t1 : τ1 1 = τ 1 := by rw [← hτ, upc_ne (by omega)]
    have t4 : ∀ j, j < 196 → τ1 4 j = τ 1 j := fun j hj => by rw [← hτ, upc_same, pas_1 hj]
    have to : ∀ i, i ≠ 4 → τ1 i = τ i := fun i hi => by rw [← hτ, upc_ne hi]
    obtain ⟨z, τ2, q2, q3, G2, G3⟩ := g_toS (p := p) hr 1000 0 FU 0 t τ1 (by omega) (by rw [FU_eq]; omega) (by omega) (by rw [t1]; exact I) (by omega)
    rw [nI_0, ← e0] at q2
    exact ⟨z, τ2, q2, q3, by rw [G2 0 (by omega) (by omega), to 0 (by omega)], by rw [G2 2 (by omega) (by omega), to 2 (by omega)], fun j hj => by rw [G3 j hj, t4 j hj]⟩
  · rw [e, if_pos bz_0]
    exact ⟨_, τ, rfl, by decide, rfl, rfl, fun _ _ => rfl⟩
end TIME
