/-! numbers in the text -/
def dig (m : Nat) (X : Nat → Nat) (pos : Nat) : Prop := pos < m ∧ 48 ≤ X pos ∧ X pos ≤ 57
def VR (c r : Int32) : Prop := 0 ≤ c.toInt ∧ 0 ≤ r.toInt ∧ ((c = r ∧ c.toInt < 100000) ∨ ((100000 ≤ c.toInt ∧ c.toInt ≤ 1000000) ∧ (100000 ≤ r.toInt ∧ r.toInt ≤ 1000000)))
theorem c_dig {m pos : Nat} {X : Nat → Nat} {σ : xM} (hm : m ≤ 100) (hX : ∀ i, i < m → X i < 256) (hp : pos ≤ m) (h : PC m X pos σ) : ∃ z, F_X5_isDigitHere 155 σ = some (z, σ) ∧ (bz z = 0 ↔ ¬ dig m X pos) := by
  unfold F_X5_isDigitHere
  rw [c_here h hm hp, bd_some, c_in, bd_some]
  refine ⟨_, rfl, ?_⟩
  unfold ch dig
  by_cases e : pos < m
  · rw [if_pos e, (bt_1 _ (hX pos e)).2.2.2.2.1]
    constructor
    · intro a b; exact a b.2
    · intro a b; exact a ⟨e, b⟩
  · rw [if_neg e]
    exact ⟨fun _ z => e z.1, fun _ => (show bz (inW (-1) 48 57) = 0 by decide)⟩
theorem numL {m : Nat} {X : Nat → Nat} (hm : m ≤ 100) (hX : ∀ i, i < m → X i < 256) : ∀ d pos N N' c r (σ τ : xM), pos + d = m → d < N → d < N' → PC m X pos σ → PM m X pos τ → VR c r →
    ∃ e c' r' σ' τ', pos ≤ e ∧ e ≤ m ∧ VR c' r' ∧ (∀ v1 v2, F_X5_readNumber_L22 155 N v1 v2 c σ = F_X5_readNumber_J71 155 v1 v2 c' σ') ∧ (∀ v1 v2 v5 v6 v7, F_X7_reads_L58 0 N' v1 v2 v5 v6 v7 r τ = F_X7_reads_J133 0 v1 v2 v5 v6 v7 r' τ') ∧
      PC m X e σ' ∧ PM m X e τ' ∧ FC1 σ σ' ∧ FM1 τ τ' ∧ (dig m X pos → pos < e) ∧ (¬ dig m X pos → e = pos) := by
  intro d
  induction d with
  | zero =>
    intro pos N N' c r σ τ hd hN hN' h g hV
    obtain ⟨N, rfl⟩ : ∃ M, N = M + 1 := ⟨N - 1, by omega⟩
    obtain ⟨N', rfl⟩ : ∃ M, N' = M + 1 := ⟨N' - 1, by omega⟩
    obtain rfl : pos = m := by omega
    refine ⟨pos, c, r, σ, τ, Nat.le_refl _, Nat.le_refl _, hV, fun v1 v2 => ?_, fun v1 v2 v5 v6 v7 => ?_, h, g, FC1.rf, FM1.rf, fun z => absurd z.1 (by omega), fun _ => rfl⟩
    · rw [F_X5_readNumber_L22, if_pos (show σ 155 1 ≤ σ 155 2 by rw [h.1, h.2.1]; exact nI_le (Nat.le_refl _) (by omega))]
    · rw [F_X7_reads_L58, if_pos (show τ 0 4 ≤ τ 0 8 by rw [g.1, g.2.1]; exact nI_le (Nat.le_refl _) (by omega))]
  | succ d ih =>
    intro pos N N' c r σ τ hd hN hN' h g hV
    obtain ⟨N, rfl⟩ : ∃ M, N = M + 1 := ⟨N - 1, by omega⟩
    obtain ⟨N', rfl⟩ : ∃ M, N' = M + 1 := ⟨N' - 1, by omega⟩
    have hpm : pos < m := by omega
    have hx := hX pos hpm
    obtain ⟨b1, b2, b3, b4, b5, b6⟩ := bt_1 _ hx
    obtain ⟨z, ez, hz⟩ := c_dig hm hX (show pos ≤ m by omega) h
    have lC : ¬ σ 155 1 ≤ σ 155 2 := by rw [h.1, h.2.1]; exact nI_ge hpm (by omega)
    have lM : ¬ τ 0 4 ≤ τ 0 8 := by rw [g.1, g.2.1]; exact nI_ge hpm (by omega)
    have iM : inb (τ 0 8) 100 := by rw [g.2.1]; exact inb_nI (by omega) (by omega)
    have hc : τ (0 + 3) (Int32.toNatClampNeg (τ 0 8)) = bt (X pos) := by rw [g.2.1, cl_nI (by omega), Nat.zero_add, g.2.2 pos hpm]
    by_cases hd' : dig m X pos
    · have hdd := hd'.2
      have eb := b6 hdd.1 hdd.2
      obtain ⟨w1, w2, w3⟩ := hV
      have t48 : (48 : Int32).toInt = 48 := by decide
      have t10 : (10 : Int32).toInt = 10 := by decide
      have tM : (1000000 : Int32).toInt = 1000000 := by decide
      have t1 : (100000 : Int32).toInt = 100000 := by decide
      have tX : (nI (X pos)).toInt = X pos := nI_toInt (by omega)
      have next : ∀ v : Int32, 0 ≤ v.toInt → v.toInt ≤ 1000000 → (((10 * v) + nI (X pos)) - 48).toInt = 10 * v.toInt + X pos - 48 := by
        intro v v1 v2
        have e1 : (10 * v).toInt = 10 * v.toInt := by rw [i_mul (by rw [t10]; omega) (by rw [t10]; omega), t10]
        have e2 : ((10 * v) + nI (X pos)).toInt = 10 * v.toInt + X pos := by rw [i_add (by rw [e1, tX]; omega) (by rw [e1, tX]; omega), e1, tX]
        rw [i_sub (by rw [e2, t48]; omega) (by rw [e2, t48]; omega), e2, t48]
      have nc := next c w1 (by rcases w3 with q | q <;> omega)
      -- the class's next number
      obtain ⟨c2, hc2, ec2⟩ : ∃ c2 : Int32, F_J9_min_7cf53 (((10 * c) + nI (X pos)) - 48) 1000000 σ = some (c2, σ) ∧ c2.toInt = (if 1000000 < 10 * c.toInt + X pos - 48 then 1000000 else 10 * c.toInt + X pos - 48) := by
        unfold F_J9_min_7cf53
        by_cases q : (1000000 : Int32) < ((10 * c) + nI (X pos)) - 48
        · rw [if_pos q]
          rw [i_lt, tM, nc] at q
          exact ⟨_, rfl, by rw [if_pos q]; exact tM⟩
        · rw [if_neg q]
          rw [i_lt, tM, nc] at q
          exact ⟨_, rfl, by rw [if_neg q]; exact nc⟩
      -- the reference's
      obtain ⟨r2, hr2, hV2⟩ : ∃ r2 : Int32, (∀ v1 v2 v5 v6 v7, F_X7_reads_L58 0 (N' + 1) v1 v2 v5 v6 v7 r τ = F_X7_reads_L58 0 N' v1 v2 v5 v6 v7 r2 (xup τ 0 8 (nI (pos + 1)))) ∧ VR c2 r2 := by
        by_cases q : (100000 : Int32) ≤ r
        · refine ⟨r, fun v1 v2 v5 v6 v7 => ?_, ?_⟩
          · rw [F_X7_reads_L58, if_neg lM, if_pos iM, hc, m_in, bd_some]
            dsimp only
            rw [if_neg (fun y => (b4.mp y) hdd), if_pos q, nm_eq, g.2.1, nI_1]
          · rw [i_le, t1] at q
            rcases w3 with ⟨k1, k2⟩ | ⟨⟨k1, k2⟩, k3⟩
            · rw [k1] at k2; omega
            · refine ⟨?_, w2, Or.inr ⟨?_, k3⟩⟩ <;> rw [ec2] <;> split <;> omega
        · have nr : (((10 * r) + bt (X pos)) - 48).toInt = 10 * r.toInt + X pos - 48 := by
            rw [i_le, t1] at q
            rw [eb]; exact next r w2 (by omega)
          refine ⟨((10 * r) + bt (X pos)) - 48, fun v1 v2 v5 v6 v7 => ?_, ?_⟩
          · rw [F_X7_reads_L58, if_neg lM, if_pos iM, hc, m_in, bd_some]
            dsimp only
            rw [if_neg (fun y => (b4.mp y) hdd), if_neg q, if_pos iM, nm_eq, nm_eq, hc, g.2.1, nI_1]
          · rw [i_le, t1] at q
            rcases w3 with ⟨k1, k2⟩ | ⟨⟨k1, k2⟩, k3⟩
            · have e2 : c2.toInt = 10 * c.toInt + X pos - 48 := by rw [ec2, if_neg (by omega)]
              rw [← k1] at nr
              have e3 : c2 = ((10 * r) + bt (X pos)) - 48 := i_ext (by rw [e2, ← k1, nr])
              refine ⟨by omega, by rw [← k1, nr]; omega, ?_⟩
              by_cases y : c2.toInt < 100000
              · exact Or.inl ⟨e3, y⟩
              · exact Or.inr ⟨⟨by omega, by omega⟩, by rw [← k1, nr]; omega, by rw [← k1, nr]; omega⟩
            · omega
      obtain ⟨p1, f1⟩ := PC_adv (q := pos + 1) h
      obtain ⟨p2, f2⟩ := PM_adv (q := pos + 1) g
      obtain ⟨e, c', r', σ', τ', k1, k2, k3, k4, k5, k6, k7, k8, k9, k10, k11⟩ := ih (pos + 1) N N' c2 r2 _ _ (by omega) (by omega) (by omega) p1 p2 hV2
      refine ⟨e, c', r', σ', τ', by omega, k2, k3, fun v1 v2 => ?_, fun v1 v2 v5 v6 v7 => by rw [hr2, k5], k6, k7, f1.tr k8, f2.tr k9, fun _ => by omega, fun z => absurd hd' z⟩
      rw [F_X5_readNumber_L22, if_neg lC, ez, bd_some]
      dsimp only
      rw [if_neg (fun y => (hz.mp y) hd'), c_here h hm (by omega), bd_some]
      dsimp only
      unfold ch
      rw [if_pos hpm, hc2, bd_some]
      dsimp only
      rw [nm_eq, h.2.1, nI_1]
      exact k4 v1 v2
    · refine ⟨pos, c, r, σ, τ, Nat.le_refl _, by omega, hV, fun v1 v2 => ?_, fun v1 v2 v5 v6 v7 => ?_, h, g, FC1.rf, FM1.rf, fun z => absurd z hd', fun _ => rfl⟩
      · rw [F_X5_readNumber_L22, if_neg lC, ez, bd_some]
        dsimp only
        rw [if_pos (hz.mpr hd')]
      · rw [F_X7_reads_L58, if_neg lM, if_pos iM, hc, m_in, bd_some]
        dsimp only
        rw [if_pos (b4.mpr (fun y => hd' ⟨hpm, y⟩))]
/-- the class's number from a digit on, beside the reference's loop -/
theorem rd_num {m pos : Nat} {X : Nat → Nat} {σ τ : xM} (hm : m ≤ 100) (hX : ∀ i, i < m → X i < 256) (h : PC m X pos σ) (g : PM m X pos τ) (hd : dig m X pos) :
    ∃ e c r σ' τ', pos < e ∧ e ≤ m ∧ VR c r ∧ F_X5_readNumber 155 σ = some (if X pos = 48 ∧ e ≠ pos + 1 then 1000000 else c, σ') ∧ (∀ v1 v2 v5 v6 v7, F_X7_reads_L58 0 FU v1 v2 v5 v6 v7 0 τ = F_X7_reads_J133 0 v1 v2 v5 v6 v7 r τ') ∧ PC m X e σ' ∧ PM m X e τ' ∧ FC1 σ σ' ∧ FM1 τ τ' := by
  have hpm := hd.1
  obtain ⟨e, c, r, σ', τ', k1, k2, k3, k4, k5, k6, k7, k8, k9, k10, k11⟩ := numL hm hX (m - pos) pos FU FU 0 0 σ τ (by omega) (by rw [FU_eq]; omega) (by rw [FU_eq]; omega) h g ⟨by decide, by decide, Or.inl ⟨rfl, by decide⟩⟩
  refine ⟨e, c, r, σ', τ', k10 hd, k2, k3, ?_, k5, k6, k7, k8, k9⟩
  unfold F_X5_readNumber
  rw [c_here h hm (by omega), bd_some]
  unfold ch F_X5_readNumber_J14
  dsimp only
  have hx := hX pos hpm
  by_cases q : X pos = 48
  · rw [if_pos (show (if pos < m then nI (X pos) else -1) = 48 by rw [if_pos hpm, q]; rfl), nm_eq, k4, h.2.1]
    unfold F_X5_readNumber_J71
    rw [if_neg (by decide), nI_1]
    by_cases y : e = pos + 1
    · rw [if_pos (show σ' 155 2 ≤ nI (pos + 1) by rw [k6.2.1]; exact nI_le (by omega) (by omega)), if_neg (fun z => z.2 y)]
    · have := k10 hd
      rw [if_neg (show ¬ σ' 155 2 ≤ nI (pos + 1) by rw [k6.2.1]; exact nI_ge (by omega) (by omega)), if_pos ⟨q, y⟩]
  · rw [if_neg (show ¬ (if pos < m then nI (X pos) else -1) = 48 by rw [if_pos hpm]; exact fun z => q ((nI_eq (b := 48) (by omega) (by omega)).mp z)), nm_eq, k4]
    unfold F_X5_readNumber_J71
    rw [if_pos rfl, if_neg (fun z => q z.1)]
