/-! forecasts with a band -/
theorem Rel_g {k n p r : Nat} {σ : xM} {s : Nat → Int32} {x : Int32} (hn : n ≤ 6) (hp : p ≤ 12) (R : Rel k n p σ s) (hr : r < n) : Rel k n p (xup σ (k + 7 + 2 * r) 6 x) (wrv s r (upd (vw s r) 5 x)) := by
  obtain ⟨⟨a0, a1, a2, a3, a4, a5, a6⟩, ⟨a7, a8, a9, a10, a11, a12, a13⟩, ⟨a14, a15, a16, a17, a18, a19, a20⟩⟩ := R.2.2.2.2.2 r hr
  refine Rel_set hn hp R hr ?_ (fun i h1 h2 => xup_ne h1)
  rw [xup_same, xup_ne (by omega)]
  exact ⟨⟨a0, a1, a2, a3, a4, rfl, a6⟩, ⟨a7, a8, a9, a10, a11, a12, a13⟩, ⟨a14, a15, a16, a17, a18, a19, a20⟩⟩
theorem Inv_g {n p r t : Nat} {s : Nat → Int32} {x : Int32} (I : Inv s n p t) (hr : r < n) : Inv (wrv s r (upd (vw s r) 5 x)) n p t :=
  Inv_set I hr (IvV_f (I.2.2.2.2.2.2.2.1 r hr) (fun f hf => by rcases hf with rfl | rfl | rfl | rfl | rfl | rfl | rfl | rfl <;> exact (upd_ne (by omega)).symm) (by rw [upd_ne (by omega)]; exact (I.2.2.2.2.2.2.2.1 r hr).1.2.2.2.2.1))
theorem c_fcB {n p r t : Nat} {σ τ : xM} {x : Int32} (hC : CG σ τ n p t) (hr : r < n) : ∃ σ1, F_X6_forecastWithBand 0 (nI r) x σ = some (some (20 + 7 + 2 * r), σ1) ∧ Rel 20 n p σ1 (wrv (τ 1) r (upd (vw (τ 1) r) 5 x)) ∧ ∀ i, (i < 20 ∨ 39 ≤ i) → σ1 i = σ i := by
  have hn := hC.n6
  obtain ⟨σ1, E, R1, F⟩ := c_copy (k := 20) (c := 1) rfl rfl (by omega) hn hC.2.2.p12 hC.2.1
  refine ⟨xup σ1 (20 + 7 + 2 * r) 6 x, ?_, Rel_g hn hC.2.2.p12 R1 hr, fun i hi => by rw [xup_ne (by omega), F i (by omega)]⟩
  unfold F_X6_forecastWithBand
  simp only [Nat.zero_add]
  rw [E, bd_some]
  dsimp only
  rw [c_room R1.2.1 hr hn, bd_some]
  show oc (some (20 + 7 + 2 * r)) _ _ = _
  rw [oc_some, if_pos (kd_room rfl (by omega)), nm_eq]
theorem c_fcN {n p t : Nat} {σ τ : xM} {x y : Int32} (hC : CG σ τ n p t) (hx : y < 0 ∨ nI n ≤ y) : ∃ σ1, F_X6_forecastWithBand 0 y x σ = some (none, σ1) ∧ ∀ i, (i < 20 ∨ 39 ≤ i) → σ1 i = σ i := by
  have hn := hC.n6
  obtain ⟨σ1, E, R1, F⟩ := c_copy (k := 20) (c := 1) rfl rfl (by omega) hn hC.2.2.p12 hC.2.1
  refine ⟨σ1, ?_, fun i hi => F i (by omega)⟩
  unfold F_X6_forecastWithBand
  simp only [Nat.zero_add]
  rw [E, bd_some]
  dsimp only
  rw [c_noroom R1.2.1 hx, bd_some]
  rfl
/-- the reference's fines, by a band, in some minutes: its copy set aside and its band set -/
def bnd (τ : xM) (r : Nat) (x : Int32) : xM := stm (upc τ 4 (pas (τ 4) (τ 1) 0 196)) r (upd (vw (τ 1) r) 5 x)
theorem bnd_1 {τ : xM} {r : Nat} {x : Int32} : bnd τ r x 1 = wrv (τ 1) r (upd (vw (τ 1) r) 5 x) := by
  unfold bnd
  rw [stm_1, upc_ne (by omega)]
theorem bnd_4 {τ : xM} {r : Nat} {x : Int32} : bnd τ r x 4 = pas (τ 4) (τ 1) 0 196 := by
  unfold bnd
  rw [stm_ne (by omega), upc_same]
theorem bnd_o {τ : xM} {r i : Nat} {x : Int32} (h1 : i ≠ 1) (h4 : i ≠ 4) : bnd τ r x i = τ i := by
  unfold bnd
  rw [stm_ne h1, upc_ne h4]
theorem m_fined {τ τ2 : xM} {r m a n : Nat} {x : Int32} (hr : r < n) (hn : n ≤ 6) (ha : a ≤ 6 * m) (hm : m ≤ 1000) (e : F_X7_minutes_L4 0 FU (nI m) 0 0 (bnd τ r x) = some (nI a, τ2)) :
    F_X7_fined 0 (nI r) x (nI m) τ = some (vw (τ2 1) r 12 - vw (τ 1) r 12, upc τ2 1 (pas (τ2 1) (τ2 4) 0 196)) := by
  unfold F_X7_fined
  rw [m_keeps, bd_some]
  dsimp only
  have o12 := ofS (τ := upc τ 4 (pas (τ 4) (τ 1) 0 196)) (r := r) (f := 12) (by omega) (by omega)
  rw [show nI 12 = 12 from rfl, upc_ne (show (1 : Nat) ≠ 4 by omega)] at o12
  rw [o12, bd_some]
  dsimp only
  have hp : F_X7_puts 0 (nI r) 5 x (upc τ 4 (pas (τ 4) (τ 1) 0 196)) = some ((), bnd τ r x) := by
    have := puts_st (τ := upc τ 4 (pas (τ 4) (τ 1) 0 196)) (r := r) (f := 5) (v := vw (τ 1) r) (x := x) (by omega) (by omega)
    have hs : stm (upc τ 4 (pas (τ 4) (τ 1) 0 196)) r (vw (τ 1) r) = upc τ 4 (pas (τ 4) (τ 1) 0 196) := by
      have := stm_self (τ := upc τ 4 (pas (τ 4) (τ 1) 0 196)) (r := r)
      rw [upc_ne (show (1 : Nat) ≠ 4 by omega)] at this
      exact this
    rw [hs] at this
    exact this
  rw [hp, bd_some]
  unfold F_X7_minutes
  dsimp only
  rw [e, bd_some]
  dsimp only
  have o12' := ofS (τ := τ2) (r := r) (f := 12) (by omega) (by omega)
  rw [show nI 12 = 12 from rfl] at o12'
  rw [if_pos (nI_pos' (by omega)), o12', bd_some]
  unfold F_X7_fined_J44
  rw [m_restores, bd_some]
theorem op_finesWith {x y z : Int32} : OpS (F_X6_finesWith 0 x y z) (F_X7_finesWith 0 x y z) := by
  intro σ τ hG
  have hG0 := hG
  obtain ⟨⟨n, p, t, hC⟩, hH, hT⟩ := hG
  have ht := hC.1
  have hn := hC.n6
  have I := hC.2.2
  unfold F_X6_finesWith F_X7_finesWith
  rw [m_isRoom, bd_some, hC.t7]
  rcases room_cases hn x with ⟨r, hr, rfl, e⟩ | ⟨hx, e⟩
  · obtain ⟨σ1, E, R1, F⟩ := c_fcB (x := y) hC hr
    have bad : ∃ r' σ'' τ'', some ((-1000001 : Int32), σ1) = some (r', σ'') ∧ some ((-1000001 : Int32), τ) = some (r', τ'') ∧ GG σ'' τ'' := ⟨_, σ1, τ, rfl, rfl, GG_fc hG0 F (fun _ _ => rfl) rfl rfl rfl⟩
    rw [E, bd_some]
    show ∃ r' σ'' τ'', oc (some (20 + 7 + 2 * r)) _ _ = _ ∧ _
    rw [oc_some, if_pos (kd_room rfl (by omega)), e, if_neg bz1n, c_in, bd_some, m_in, bd_some]
    by_cases h1 : bz (inW y 100 5000) = 0
    · rw [if_pos h1, if_pos h1]; exact bad
    rw [if_neg h1, if_neg h1, c_in, bd_some, m_in, bd_some]
    by_cases h2 : bz (inW z 1 1000) = 0
    · rw [if_pos h2, if_pos h2]; exact bad
    rw [if_neg h2, if_neg h2, nm_eq]
    obtain ⟨m, m1, m2, rfl⟩ := lit_cases1 z h2 (A := 1) (B := 1000) (by decide) (by decide) (by omega)
    simp only [Nat.zero_add]
    obtain ⟨a', σ2, τ2, g1, g2, a6, R2, I2, G1, G2, M2⟩ := both_mins (k := 20) (m := m) rfl (by omega) m 0 FU FU 0 t σ1 (bnd τ r y) (by omega) (by rw [FU_eq]; omega) (by rw [FU_eq]; omega) (by omega) (by rw [bnd_1]; exact R1) (by rw [bnd_1]; exact Inv_g I hr) (by omega)
    rw [nI_0] at g1 g2
    unfold F_X1_passMinutes
    rw [g1, bd_some, m_fined hr hn a6 (by omega) g2, bd_some]
    dsimp only
    have f1 : σ1 (20 + 7 + 2 * r) 15 = vw (τ 1) r 12 := by
      rw [(R1.2.2.2.2.2 r hr).2.1.2.2.2.2.2.1, vw_wrv (by omega), upd_ne (by omega)]
    have f2 : σ2 (20 + 7 + 2 * r) 15 = vw (τ2 1) r 12 := (R2.2.2.2.2.2 r hr).2.1.2.2.2.2.2.1
    rw [f1, f2]
    exact ⟨_, σ2, _, rfl, rfl, GG_fc hG0 (fun i hi => (G1 i (by omega)).trans (F i hi)) (fun j hj => by rw [upc_same, pas_1 hj, G2 4 (by omega) (by omega), bnd_4, pas_1 hj]) (by rw [upc_ne (by omega), G2 0 (by omega) (by omega), bnd_o (by omega) (by omega)]) (by rw [upc_ne (by omega), G2 2 (by omega) (by omega), bnd_o (by omega) (by omega)]) (by rw [upc_ne (by omega), G2 3 (by omega) (by omega), bnd_o (by omega) (by omega)])⟩
  · obtain ⟨σ1, E, F⟩ := c_fcN (x := y) hC hx
    rw [E, bd_some, e]
    exact ⟨_, σ1, τ, rfl, rfl, GG_fc hG0 F (fun _ _ => rfl) rfl rfl rfl⟩
theorem both_quiet {n p m r : Nat} (hr : r < n) (hm : m ≤ 1000) :
    ∀ d i N N' a t (σ τ : xM), i + d = m → d < N → d < N' → a ≤ 6 * i → Rel 20 n p σ (τ 1) → Inv (τ 1) n p t → t + d ≤ 22000 →
      ∃ (q : Int32) (a' : Nat) (σ' τ' : xM), F_X6_isQuiet_L14 0 N (20 + 7 + 2 * r) (nI m) (vw (τ 1) r 12) (nI i) σ = some (q, σ') ∧ F_X7_minutes_L4 0 N' (nI m) (nI a) (nI i) τ = some (nI a', τ') ∧ a' ≤ 6 * m ∧ Inv (τ' 1) n p (t + d) ∧ (∀ i, (i < 20 ∨ 39 ≤ i) → σ' i = σ i) ∧ (∀ i, i ≠ 1 → i ≠ 6 → τ' i = τ i) ∧
        (vw (τ 1) r 12).toInt ≤ (vw (τ' 1) r 12).toInt ∧ ((q = 1 ∧ vw (τ' 1) r 12 = vw (τ 1) r 12) ∨ (q = 0 ∧ (vw (τ 1) r 12).toInt < (vw (τ' 1) r 12).toInt)) := by
  intro d
  induction d with
  | zero =>
    intro i N N' a t σ τ hi hN hN' ha R I ht
    obtain ⟨N, rfl⟩ : ∃ M, N = M + 1 := ⟨N - 1, by omega⟩
    obtain ⟨N', rfl⟩ : ∃ M, N' = M + 1 := ⟨N' - 1, by omega⟩
    obtain rfl : i = m := by omega
    refine ⟨1, a, σ, τ, ?_, ?_, ha, I, fun _ _ => rfl, fun _ _ _ => rfl, Int.le_refl _, Or.inl ⟨rfl, rfl⟩⟩
    · rw [F_X6_isQuiet_L14, if_pos (nI_le (Nat.le_refl i) (by omega))]
    · rw [F_X7_minutes_L4, if_pos (nI_le (Nat.le_refl i) (by omega))]
  | succ d ih =>
    intro i N N' a t σ τ hi hN hN' ha R I ht
    obtain ⟨N, rfl⟩ : ∃ M, N = M + 1 := ⟨N - 1, by omega⟩
    obtain ⟨N', rfl⟩ : ∃ M, N' = M + 1 := ⟨N' - 1, by omega⟩
    obtain ⟨c, σ1, τ1, e1, e2, c6, R1, I1, F1, F2, M1⟩ := both_min rfl R I (by omega)
    have f1 : σ1 (20 + 7 + 2 * r) 15 = vw (τ1 1) r 12 := (R1.2.2.2.2.2 r hr).2.1.2.2.2.2.2.1
    rw [F_X6_isQuiet_L14, if_neg (nI_ge (by omega) (by omega)), F_X7_minutes_L4, if_neg (nI_ge (by omega) (by omega)), e2, bd_some, nm_eq, nI_1]
    simp only [Nat.zero_add]
    rw [e1, bd_some, nI_add]
    dsimp only
    by_cases h : vw (τ1 1) r 12 = vw (τ 1) r 12
    · rw [if_pos (f1.trans h), ← h]
      obtain ⟨q, a', σ2, τ2, g1, g2, a6, I2, G1, G2, M2, D⟩ := ih (i + 1) N N' (a + c) (t + 1) σ1 τ1 (by omega) (by omega) (by omega) (by omega) R1 I1 (by omega)
      exact ⟨q, a', σ2, τ2, g1, g2, a6, by rw [show t + (d + 1) = t + 1 + d by omega]; exact I2, fun i hi => (G1 i hi).trans (F1 i (by omega)), fun i h1 h6 => (G2 i h1 h6).trans (F2 i h1 h6), M2, D⟩
    · rw [if_neg (fun z => h (f1.symm.trans z))]
      obtain ⟨a', σ2, τ2, g1, g2, a6, R2, I2, G1, G2, M2⟩ := both_mins (k := 20) (m := m) rfl hm d (i + 1) (d + 1) N' (a + c) (t + 1) σ1 τ1 (by omega) (by omega) (by omega) (by omega) R1 I1 (by omega)
      have k1 := M1 r hr
      have k2 := M2 r hr
      have k3 : (vw (τ1 1) r 12).toInt ≠ (vw (τ 1) r 12).toInt := fun z => h (i_ext z)
      exact ⟨0, a', σ1, τ2, rfl, g2, a6, by rw [show t + (d + 1) = t + 1 + d by omega]; exact I2, fun i hi => F1 i (by omega), fun i h1 h6 => (G2 i h1 h6).trans (F2 i h1 h6), by omega, Or.inr ⟨rfl, by omega⟩⟩
theorem both_band {n p m r t : Nat} (hr : r < n) (hm : m ≤ 300) : ∀ d i N N' (σ τ : xM), i + d = 51 → d < N → d < N' → 1 ≤ i → CG σ τ n p t → GG σ τ →
    ∃ (z : Int32) (σ' τ' : xM), F_X6_quietBand_L28 0 N (nI r) (nI m) (nI (100 * i)) σ = some (z, σ') ∧ F_X7_quietBand_L25 0 N' (nI r) (nI m) (nI (100 * i)) τ = some (z, τ') ∧ GG σ' τ' := by
  intro d
  induction d with
  | zero =>
    intro i N N' σ τ hi hN hN' h1 hC hG
    obtain ⟨N, rfl⟩ : ∃ M, N = M + 1 := ⟨N - 1, by omega⟩
    obtain ⟨N', rfl⟩ : ∃ M, N' = M + 1 := ⟨N' - 1, by omega⟩
    obtain rfl : i = 51 := by omega
    refine ⟨-1000009, σ, τ, ?_, ?_, hG⟩
    · rw [F_X6_quietBand_L28, if_pos (show (5000 : Int32) < nI (100 * 51) by decide)]
    · rw [F_X7_quietBand_L25, if_pos (show (5000 : Int32) < nI (100 * 51) by decide)]
      unfold F_X7_quietBand_J48
      rw [if_pos (show (5000 : Int32) < nI (100 * 51) by decide)]
  | succ d ih =>
    intro i N N' σ τ hi hN hN' h1 hC hG
    obtain ⟨N, rfl⟩ : ∃ M, N = M + 1 := ⟨N - 1, by omega⟩
    obtain ⟨N', rfl⟩ : ∃ M, N' = M + 1 := ⟨N' - 1, by omega⟩
    have ht := hC.1
    have hn := hC.n6
    have hlt : ¬ (5000 : Int32) < nI (100 * i) := nI_nlt (a := 5000) (by omega) (by omega)
    obtain ⟨σ1, E, R1, F⟩ := c_fcB (x := nI (100 * i)) hC hr
    obtain ⟨q, a', σ2, τ2, g1, g2, a6, I2, G1, G2, M2, D⟩ := both_quiet (n := n) (p := p) hr (m := m) (by omega) m 0 FU FU 0 t σ1 (bnd τ r (nI (100 * i))) (by omega) (by rw [FU_eq]; omega) (by rw [FU_eq]; omega) (by omega) (by rw [bnd_1]; exact R1) (by rw [bnd_1]; exact Inv_g hC.2.2 hr) (by omega)
    rw [nI_0] at g1 g2
    have b12 : vw (bnd τ r (nI (100 * i)) 1) r 12 = vw (τ 1) r 12 := by rw [bnd_1, vw_wrv (by omega), upd_ne (by omega)]
    rw [b12] at g1 M2 D
    have f1 : σ1 (20 + 7 + 2 * r) 15 = vw (τ 1) r 12 := by
      rw [(R1.2.2.2.2.2 r hr).2.1.2.2.2.2.2.1, vw_wrv (by omega), upd_ne (by omega)]
    have hG' : GG σ2 (upc τ2 1 (pas (τ2 1) (τ2 4) 0 196)) := GG_fc hG (fun i hi => (G1 i (by omega)).trans (F i hi)) (fun j hj => by rw [upc_same, pas_1 hj, G2 4 (by omega) (by omega), bnd_4, pas_1 hj]) (by rw [upc_ne (by omega), G2 0 (by omega) (by omega), bnd_o (by omega) (by omega)]) (by rw [upc_ne (by omega), G2 2 (by omega) (by omega), bnd_o (by omega) (by omega)]) (by rw [upc_ne (by omega), G2 3 (by omega) (by omega), bnd_o (by omega) (by omega)])
    have hC' : CG σ2 (upc τ2 1 (pas (τ2 1) (τ2 4) 0 196)) n p t := CG_c hC (fun i h1 h2 => (G1 i (by omega)).trans (F i (by omega))) (fun j hj => by rw [upc_same, pas_1 hj, G2 4 (by omega) (by omega), bnd_4, pas_1 hj])
    have eq : F_X6_isQuiet 0 (some (20 + 7 + 2 * r)) (nI m) σ1 = some (q, σ2) := by
      unfold F_X6_isQuiet
      rw [oc_some, nm_eq, f1]
      exact g1
    -- the difference
    obtain ⟨f, ff, ef⟩ := (hC.2.2.2.2.2.2.2.2.2.1 r hr).1.2.2.2.2.2.2.2
    obtain ⟨f', ff', ef'⟩ := (I2.2.2.2.2.2.2.2.1 r hr).1.2.2.2.2.2.2.2
    have z0 : (0 : Int32).toInt = 0 := by decide
    rw [ef, ef', nI_toInt (by omega), nI_toInt (by omega)] at M2
    have ed : (vw (τ2 1) r 12 - vw (τ 1) r 12).toInt = (f' : Int) - f := by
      rw [ef, ef', i_sub (by rw [nI_toInt (by omega), nI_toInt (by omega)]; omega) (by rw [nI_toInt (by omega), nI_toInt (by omega)]; omega), nI_toInt (by omega), nI_toInt (by omega)]
    rw [F_X6_quietBand_L28, if_neg hlt, E, bd_some, F_X7_quietBand_L25, if_neg hlt, m_fined hr hn a6 (by omega) g2, bd_some]
    show ∃ z σ' τ', oc (some (20 + 7 + 2 * r)) _ _ = _ ∧ _
    rw [oc_some, if_pos (kd_room rfl (by omega))]
    dsimp only
    rw [eq, bd_some]
    dsimp only
    rcases D with ⟨rfl, D⟩ | ⟨rfl, D⟩
    · rw [if_neg bz1n, if_pos (by rw [D, Int32.sub_self]; decide)]
      unfold F_X7_quietBand_J48
      rw [if_neg hlt]
      exact ⟨_, σ2, _, rfl, rfl, hG'⟩
    · rw [ef, ef', nI_toInt (by omega), nI_toInt (by omega)] at D
      rw [if_pos bz_0, if_neg (by rw [i_le, ed, z0]; omega)]
      have e100 : nI (100 * i) + 100 = nI (100 * (i + 1)) := by
        show nI (100 * i) + nI 100 = _
        rw [nI_add]; congr 1
      rw [e100]
      exact ih (i + 1) N N' σ2 _ (by omega) (by omega) (by omega) (by omega) hC' hG'
theorem op_quietBand {x y : Int32} : OpS (F_X6_quietBand 0 x y) (F_X7_quietBand 0 x y) := by
  intro σ τ hG
  have hG0 := hG
  obtain ⟨⟨n, p, t, hC⟩, hH, hT⟩ := hG
  have ht := hC.1
  have hn := hC.n6
  unfold F_X6_quietBand F_X7_quietBand
  simp only [Nat.zero_add]
  rw [m_isRoom, bd_some, hC.t7]
  rcases room_cases hn x with ⟨r, hr, rfl, e⟩ | ⟨hx, e⟩
  · rw [c_room hC.s4 hr hn, bd_some]
    show ∃ r' σ'' τ'', oc (some (1 + 7 + 2 * r)) _ _ = _ ∧ _
    rw [oc_some, if_pos (kd_room rfl (by omega)), e, if_neg bz1n, c_in, bd_some, m_in, bd_some]
    by_cases h1 : bz (inW y 1 300) = 0
    · rw [if_pos h1, if_pos h1]
      exact ⟨_, σ, τ, rfl, rfl, hG0⟩
    rw [if_neg h1, if_neg h1]
    obtain ⟨m, m1, m2, rfl⟩ := lit_cases1 y h1 (A := 1) (B := 300) (by decide) (by decide) (by omega)
    exact both_band hr (by omega) 50 1 FU FU σ τ (by omega) (by rw [FU_eq]; omega) (by rw [FU_eq]; omega) (by omega) hC hG0
  · rw [c_noroom hC.s4 hx, bd_some, e]
    exact ⟨_, σ, τ, rfl, rfl, hG0⟩
