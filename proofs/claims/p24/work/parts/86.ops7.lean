/-! setLink -/
def fitP (s : Nat → Int32) (a : Nat) (x : Int) : Prop := 2 * ((vw s a 3).toInt + sl s a 6 + x) ≤ (vw s a 0).toInt
theorem sl_n {s : Nat → Int32} {n r : Nat} (hn : n ≤ 6) (hr : r < 6) (hL : IvL s n) : sl s r n = sl s r 6 := by
  have key : ∀ d, n + d ≤ 6 → sl s r (n + d) = sl s r n := by
    intro d
    induction d with
    | zero => intro _; rfl
    | succ d ih =>
      intro hd
      have e : s (34 + 6 * r + (n + d)) = 0 := by
        rw [(hL r (n + d) hr (by omega)).2.1]
        exact (hL (n + d) r (by omega) hr).2.2.2 (by omega)
      rw [show n + (d + 1) = n + d + 1 by omega, sl, ih (by omega), e, show (0 : Int32).toInt = 0 by decide]
      omega
  have := key (6 - n) (by omega)
  rw [show n + (6 - n) = 6 by omega] at this
  exact this.symm
theorem c_carryL {n p a : Nat} {σ : xM} {s : Nat → Int32} {x : Int} {t : Nat} (R : Rel 1 n p σ s) (I : Inv s n p t) (ha : a < n) (hx : -50 ≤ x ∧ x ≤ 50) :
    ∀ d j N (v : Int32), j + d = n → d < N → v.toInt = (vw s a 3).toInt + x + sl s a j → ∃ z : Int32, F_X1_canCarry_L23 1 N (nI a) (1 + 7 + 2 * a) v (nI j) σ = some (z, σ) ∧ ((fitP s a x ∧ z = 1) ∨ (¬ fitP s a x ∧ z = 0)) := by
  have hn := I.1
  have hL := I.2.2.2.2.2.2.1
  have hV := I.2.2.2.2.2.2.2.1 a ha
  have hS := sl_b hL (show a < 6 by omega)
  obtain ⟨⟨h0, hp, h3, hq, h7, h14, h11, h12⟩, hx'⟩ := hV
  intro d
  induction d with
  | zero =>
    intro j N v hj hN hv
    obtain ⟨N, rfl⟩ : ∃ M, N = M + 1 := ⟨N - 1, by omega⟩
    obtain rfl : j = n := by omega
    have g1 : σ (1 + 7 + 2 * a) 1 = vw s a 0 := (R.2.2.2.2.2 a ha).1.1
    rw [sl_n hn (by omega) hL] at hv
    have z2 : (2 : Int32).toInt = 2 := by decide
    have eh : (σ (1 + 7 + 2 * a) 1 / 2).toInt = (vw s a 0).toInt / 2 := by
      rw [g1, i_div (by omega), z2, Int.tdiv_eq_ediv_of_nonneg (by omega)]
    rw [F_X1_canCarry_L23, R.2.1, if_pos (nI_le (Nat.le_refl j) (by omega))]
    by_cases h : fitP s a x
    · refine ⟨1, ?_, Or.inl ⟨h, rfl⟩⟩
      unfold fitP at h
      rw [if_neg (by rw [i_lt, eh, hv]; omega)]
    · refine ⟨0, ?_, Or.inr ⟨h, rfl⟩⟩
      unfold fitP at h
      rw [if_pos (by rw [i_lt, eh, hv]; omega)]
  | succ d ih =>
    intro j N v hj hN hv
    obtain ⟨N, rfl⟩ : ∃ M, N = M + 1 := ⟨N - 1, by omega⟩
    have hl : σ (1 + 3) (6 * a + j) = s (34 + 6 * a + j) := by
      rw [R.2.2.2.2.1 (6 * a + j) (by omega), show 34 + (6 * a + j) = 34 + 6 * a + j by omega]
    obtain ⟨b1, b2⟩ := (hL a j (by omega) (by omega)).1
    obtain ⟨s1, s2, s3⟩ := hS j (by omega)
    rw [F_X1_canCarry_L23, R.2.1, if_neg (nI_ge (show j < n by omega) (by omega)), c_link (by omega) (by omega), bd_some, nm_eq, nI_1]
    dsimp only
    exact ih (j + 1) N _ (by omega) (by omega) (by
      have s6 := (hS 6 (by omega)).1
      rw [hl, i_add (by rw [hv]; omega) (by rw [hv]; omega), hv, sl]; omega)
theorem c_carry {n p a : Nat} {σ : xM} {s : Nat → Int32} {x : Int32} {t : Nat} (R : Rel 1 n p σ s) (I : Inv s n p t) (ha : a < n) (hx : -50 ≤ x.toInt ∧ x.toInt ≤ 50) :
    ∃ z : Int32, F_X1_canCarry 1 (nI a) x σ = some (z, σ) ∧ ((fitP s a x.toInt ∧ z = 1) ∨ (¬ fitP s a x.toInt ∧ z = 0)) := by
  have hV := I.2.2.2.2.2.2.2.1 a ha
  have g3 : σ (1 + 7 + 2 * a) 3 = vw s a 3 := (R.2.2.2.2.2 a ha).1.2.2.2.1
  obtain ⟨⟨h0, hp, h3, hq, h7, h14, h11, h12⟩, hx'⟩ := hV
  have hS := sl_b I.2.2.2.2.2.2.1 (show a < 6 by have := I.1; omega) 6 (by omega)
  obtain ⟨z, e, hz⟩ := c_carryL R I ha hx n 0 FU (σ (1 + 7 + 2 * a) 3 + x) (by omega) (by rw [FU_eq]; have := I.1; omega) (by
    rw [i_add (by rw [g3]; omega) (by rw [g3]; omega), g3]; simp [sl])
  refine ⟨z, ?_, hz⟩
  unfold F_X1_canCarry
  rw [c_room R.2.1 ha I.1, bd_some, oc_some, if_pos (kd_room rfl (by have := I.1; omega)), nm_eq]
  exact e
theorem m_drainL {n p a : Nat} {τ : xM} {t : Nat} (I : Inv (τ 1) n p t) (ha : a < n) :
    ∀ d j N (v : Int32), j + d = 6 → d < N → v.toInt = (vw (τ 1) a 3).toInt + sl (τ 1) a j → ∃ z : Int32, F_X7_drain_L9 0 N (nI a) v (nI j) τ = some (z, τ) ∧ z.toInt = (vw (τ 1) a 3).toInt + sl (τ 1) a 6 := by
  have hn := I.1
  have hL := I.2.2.2.2.2.2.1
  have hV := I.2.2.2.2.2.2.2.1 a ha
  have hS := sl_b hL (show a < 6 by omega)
  obtain ⟨⟨h0, hp, h3, hq, h7, h14, h11, h12⟩, hx'⟩ := hV
  intro d
  induction d with
  | zero =>
    intro j N v hj hN hv
    obtain ⟨N, rfl⟩ : ∃ M, N = M + 1 := ⟨N - 1, by omega⟩
    obtain rfl : j = 6 := by omega
    refine ⟨v, ?_, hv⟩
    rw [F_X7_drain_L9, if_pos (show (6 : Int32) ≤ nI 6 by decide)]
  | succ d ih =>
    intro j N v hj hN hv
    obtain ⟨N, rfl⟩ : ∃ M, N = M + 1 := ⟨N - 1, by omega⟩
    obtain ⟨b1, b2⟩ := (hL a j (by omega) (by omega)).1
    obtain ⟨s1, s2, s3⟩ := hS j (by omega)
    rw [F_X7_drain_L9, if_neg (show ¬ (6 : Int32) ≤ nI j from nI_ge (b := 6) (by omega) (by omega)), lk_nI, if_pos (inb_nI (by omega) (by omega)), nm_eq, cl_nI (by omega), nI_1]
    simp only [Nat.zero_add]
    exact ih (j + 1) N _ (by omega) (by omega) (by
      have s6 := (hS 6 (by omega)).1
      rw [i_add (by rw [hv]; omega) (by rw [hv]; omega), hv, sl]; omega)
theorem m_much {n p a : Nat} {τ : xM} {x : Int32} {t : Nat} (I : Inv (τ 1) n p t) (ha : a < n) (hx : -50 ≤ x.toInt ∧ x.toInt ≤ 50) :
    ∃ z : Int32, F_X7_isTooMuch 0 (nI a) x τ = some (z, τ) ∧ ((fitP (τ 1) a x.toInt ∧ z = 0) ∨ (¬ fitP (τ 1) a x.toInt ∧ z = 1)) := by
  have hn := I.1
  have hV := I.2.2.2.2.2.2.2.1 a ha
  have hS := sl_b I.2.2.2.2.2.2.1 (show a < 6 by omega) 6 (by omega)
  obtain ⟨⟨h0, hp, h3, hq, h7, h14, h11, h12⟩, hx'⟩ := hV
  obtain ⟨w, e, hw⟩ := m_drainL I ha 6 0 FU (vw (τ 1) a 3) (by omega) (by rw [FU_eq]; omega) (by simp [sl])
  have ed : F_X7_drain 0 (nI a) τ = some (w, τ) := by
    unfold F_X7_drain
    rw [show (3 : Int32) = nI 3 from rfl, ofS (by omega) (by omega), bd_some]
    exact e
  have z2 : (2 : Int32).toInt = 2 := by decide
  have e1 : (w + x).toInt = (vw (τ 1) a 3).toInt + sl (τ 1) a 6 + x.toInt := by rw [i_add (by rw [hw]; omega) (by rw [hw]; omega), hw]
  have e2 : (2 * (w + x)).toInt = 2 * ((vw (τ 1) a 3).toInt + sl (τ 1) a 6 + x.toInt) := by rw [i_mul (by rw [e1, z2]; omega) (by rw [e1, z2]; omega), e1, z2]
  unfold F_X7_isTooMuch
  have o0 := ofS (τ := τ) (r := a) (f := 0) (by omega) (by omega)
  rw [nI_0] at o0
  rw [ed, bd_some]
  dsimp only
  rw [o0, bd_some]
  by_cases h : fitP (τ 1) a x.toInt
  · refine ⟨0, ?_, Or.inl ⟨h, rfl⟩⟩
    unfold fitP at h
    rw [if_pos (by rw [i_le, e2]; exact h)]
  · refine ⟨1, ?_, Or.inr ⟨h, rfl⟩⟩
    unfold fitP at h
    rw [if_neg (by rw [i_le, e2]; exact h)]
theorem sl_one {s s' : Nat → Int32} {r c : Nat} (hc : c < 6) (h : ∀ j, j < 6 → j ≠ c → s' (34 + 6 * r + j) = s (34 + 6 * r + j)) : ∀ m, m ≤ 6 → sl s' r m = sl s r m + (if c < m then (s' (34 + 6 * r + c)).toInt - (s (34 + 6 * r + c)).toInt else 0) := by
  intro m
  induction m with
  | zero => intro _; simp [sl]
  | succ m ih =>
    intro hm
    rw [sl, sl, ih (by omega)]
    by_cases e : m = c
    · subst e
      rw [if_neg (by omega), if_pos (by omega)]; omega
    · rw [h m (by omega) e]
      by_cases e2 : c < m
      · rw [if_pos e2, if_pos (by omega)]; omega
      · rw [if_neg e2, if_neg (by omega)]; omega
theorem IvV_S {v : Nat → Int32} {S S' : Int} {t : Nat} (h : IvV v S t) (h3 : 2 * ((v 3).toInt + S') ≤ (v 0).toInt) : IvV v S' t := by
  obtain ⟨⟨h0, hp, h3', hq, h7, h14, h11, h12⟩, hx'⟩ := h
  exact ⟨⟨h0, hp, ⟨h3'.1, h3⟩, hq, h7, h14, h11, h12⟩, hx'⟩
theorem c_putL {a b : Nat} {x : Int32} {σ : xM} (ha : a < 6) (hb : b < 6) : F_X1_putLink 1 (nI a) (nI b) x σ = some ((), upc σ 4 (upd (upd (σ 4) (6 * a + b) x) (6 * b + a) x)) := by
  have e1 : ∀ (i j : Nat) (ρ : xM), i < 6 → j < 6 → F_X1_linkPlace (nI i) (nI j) ρ = some (nI (6 * i + j), ρ) := by
    intro i j ρ hi hj
    unfold F_X1_linkPlace
    rw [show (6 : Int32) = nI 6 from rfl, nI_mul, nI_add, show i * 6 + j = 6 * i + j by omega]
  have e2 : ∀ (i : Nat) (ρ : xM), i < 36 → F_X1_putLinkAt 1 (nI i) x ρ = some ((), xup ρ 4 i x) := by
    intro i ρ hi
    unfold F_X1_putLinkAt
    rw [if_neg (nI_pos (by omega)), if_neg (show ¬ (36 : Int32) ≤ nI i from nI_ge (b := 36) hi (by omega)), if_pos (inb_nI hi (by omega)), nm_eq, cl_nI (by omega)]
  unfold F_X1_putLink
  rw [e1 a b _ ha hb, bd_some]
  dsimp only
  rw [e2 _ _ (by omega), bd_some]
  dsimp only
  rw [e1 b a _ hb ha, bd_some]
  dsimp only
  rw [e2 _ _ (by omega), bd_some]
  dsimp only
  rw [xup_upc, xup_upc, upc_same, upc_upc]
theorem op_setLink {x y z : Int32} : OpS (F_X6_setLink 0 x y z) (F_X7_setLink 0 x y z) := by
  intro σ τ hG
  have hG0 := hG
  obtain ⟨⟨n, p, t, hC⟩, hH, hT⟩ := hG
  have hn := hC.n6
  unfold F_X6_setLink F_X7_setLink
  simp only [Nat.zero_add]
  rcases pair_cases hC x y with ⟨a, b, ha, hb, hab, rfl, rfl, e1, e2⟩ | ⟨e1, e2⟩
  · rw [e1, e2, bd_some, bd_some, if_neg bz1n, if_neg bz1n, c_in, bd_some, m_in, bd_some]
    by_cases h1 : bz (inW z 0 50) = 0
    · rw [if_pos h1, if_pos h1]
      exact ⟨_, σ, τ, rfl, rfl, hG0⟩
    rw [if_neg h1, if_neg h1]
    dsimp only
    obtain ⟨u1, u2, -⟩ := inW_1 h1
    rw [show (0 : Int32).toInt = 0 by decide] at u1
    rw [show (50 : Int32).toInt = 50 by decide] at u2
    have hL := hC.2.2.2.2.2.2.2.2.1
    obtain ⟨l1, l2⟩ := (hL a b (by omega) (by omega)).1
    have hl : σ (1 + 3) (6 * a + b) = τ 1 (34 + 6 * a + b) := by
      rw [hC.2.1.2.2.2.2.1 (6 * a + b) (by omega), show 34 + (6 * a + b) = 34 + 6 * a + b by omega]
    have ex : inb ((34 + (6 * nI a)) + nI b) 196 := by rw [lk_nI]; exact inb_nI (by omega) (by omega)
    have ex' : inb ((34 + (6 * nI b)) + nI a) 196 := by rw [lk_nI]; exact inb_nI (by omega) (by omega)
    have cab : Int32.toNatClampNeg ((34 + (6 * nI a)) + nI b) = 34 + 6 * a + b := by rw [lk_nI, cl_nI (by omega)]
    have cba : Int32.toNatClampNeg ((34 + (6 * nI b)) + nI a) = 34 + 6 * b + a := by rw [lk_nI, cl_nI (by omega)]
    have hval : τ 1 (Int32.toNatClampNeg ((34 + (6 * nI a)) + nI b)) = τ 1 (34 + 6 * a + b) := by rw [cab]
    rw [c_link (by omega) (by omega), bd_some, nm_eq, if_pos ex, nm_eq]
    dsimp only
    rw [hl, hval]
    generalize hD : τ 1 (34 + 6 * a + b) = D at l1 l2
    have ed : (z - D).toInt = z.toInt - D.toInt := i_sub (by omega) (by omega)
    obtain ⟨q1, c1, d1⟩ := c_carry (x := z - D) hC.2.1 hC.2.2 ha (by omega)
    obtain ⟨q2, c2, d2⟩ := c_carry (x := z - D) hC.2.1 hC.2.2 hb (by omega)
    obtain ⟨q3, c3, d3⟩ := m_much (x := z - D) hC.2.2 ha (by omega)
    obtain ⟨q4, c4, d4⟩ := m_much (x := z - D) hC.2.2 hb (by omega)
    rw [c1, bd_some, c3, bd_some]
    dsimp only
    have bad : ∃ r' σ'' τ'', some ((-1000002 : Int32), σ) = some (r', σ'') ∧ some ((-1000002 : Int32), τ) = some (r', τ'') ∧ GG σ'' τ'' := ⟨_, σ, τ, rfl, rfl, hG0⟩
    rcases d1 with ⟨f1, rfl⟩ | ⟨f1, rfl⟩
    · have q3e : q3 = 0 := d3.elim (fun h => h.2) (fun h => absurd f1 h.1)
      subst q3e
      rw [if_neg bz1n, if_pos bz_0, c2, bd_some, c4, bd_some]
      dsimp only
      rcases d2 with ⟨f2, rfl⟩ | ⟨f2, rfl⟩
      · have q4e : q4 = 0 := d4.elim (fun h => h.2) (fun h => absurd f2 h.1)
        subst q4e
        rw [if_neg bz1n, if_pos bz_0]
        obtain ⟨σ', τ', E, N, hC', hH', hT', k1, k2, k3⟩ := after hC hH hT
        rw [E, bd_some, N, bd_some, c_putL (by omega) (by omega), bd_some, if_pos ex, nm_eq, if_pos ex', nm_eq, cab, cba]
        dsimp only
        refine ⟨_, _, _, rfl, rfl, ?_⟩
        have et : τ' 1 = τ 1 := k2 1 (by omega) (by omega)
        rw [xup_upc, xup_upc, upc_same, upc_upc, et]
        generalize hs : upd (upd (τ 1) (34 + 6 * a + b) z) (34 + 6 * b + a) z = s'
        have sab : s' (34 + 6 * a + b) = z := by rw [← hs, upd_ne (by omega), upd_same]
        have sba : s' (34 + 6 * b + a) = z := by rw [← hs, upd_same]
        have so : ∀ j, j ≠ 34 + 6 * a + b → j ≠ 34 + 6 * b + a → s' j = τ 1 j := fun j j1 j2 => by rw [← hs, upd_ne j2, upd_ne j1]
        obtain ⟨ht, R, I⟩ := hC'
        rw [et] at R I
        obtain ⟨hN7, r4, r5, ⟨hw, hW⟩, hLk, hRR⟩ := R
        obtain ⟨hn', ht', i7, i8, iN, iW, iL, iV, iz⟩ := I
        have slo : ∀ q, q < 6 → q ≠ a → q ≠ b → sl s' q 6 = sl (τ 1) q 6 := by
          intro q hq qa qb
          have key : ∀ m, m ≤ 6 → sl s' q m = sl (τ 1) q m := by
            intro m
            induction m with
            | zero => intro _; rfl
            | succ m ih => intro hm; rw [sl, sl, ih (by omega), so _ (by omega) (by omega)]
          exact key 6 (by omega)
        have sla : sl s' a 6 = sl (τ 1) a 6 + (z.toInt - D.toInt) := by
          have := sl_one (s := τ 1) (s' := s') (r := a) (c := b) (by omega) (fun j hj hjb => so _ (by omega) (by omega)) 6 (by omega)
          rw [if_pos (by omega), sab, hD] at this
          exact this
        have hD' : τ 1 (34 + 6 * b + a) = D := by rw [← hD]; exact (iL b a (by omega) (by omega)).2.1
        have slb : sl s' b 6 = sl (τ 1) b 6 + (z.toInt - D.toInt) := by
          have := sl_one (s := τ 1) (s' := s') (r := b) (c := a) (by omega) (fun j hj hjb => so _ (by omega) (by omega)) 6 (by omega)
          rw [if_pos (by omega), sba, hD'] at this
          exact this
        unfold fitP at f1 f2
        rw [ed] at f1 f2
        refine ⟨⟨n, p, t, ht, ⟨fun j hj => ?_, ?_, ?_, ⟨?_, fun j hj => ⟨?_, ?_⟩⟩, fun i hi => ?_, fun q hq => ?_⟩, ⟨hn', ht', ?_, ?_, ?_, ?_, ?_, ?_, ?_⟩⟩, HG_c hH' (fun i h1 h2 => upc_ne (by omega)) (fun j => by rw [upc_ne (by omega)]) (by rw [upc_ne (by omega)]), TG_c hT' (by rw [upc_ne (by omega)]) (fun j => by rw [upc_ne (by omega)]) (fun j => by rw [upc_ne (by omega)]) (by rw [upc_ne (by omega)])⟩
        · rw [upc_ne (by omega), upc_same, so _ (by omega) (by omega)]; exact hN7 j hj
        · rw [upc_ne (by omega)]; exact r4
        · rw [upc_ne (by omega), upc_same, so _ (by omega) (by omega)]; exact r5
        · rw [upc_ne (by omega)]; exact hw
        · have := iW.1; rw [upc_ne (by omega), upc_same, so _ (by omega) (by omega)]; exact (hW j hj).1
        · have := iW.1; rw [upc_ne (by omega), upc_same, so _ (by omega) (by omega)]; exact (hW j hj).2
        · rw [show (1 + 3 : Nat) = 4 from rfl, upc_same, upc_same]
          by_cases e1 : i = 6 * b + a
          · subst e1
            rw [upd_same, show 34 + (6 * b + a) = 34 + 6 * b + a by omega, sba]
          · rw [upd_ne e1]
            by_cases e2 : i = 6 * a + b
            · subst e2
              rw [upd_same, show 34 + (6 * a + b) = 34 + 6 * a + b by omega, sab]
            · rw [upd_ne e2, so _ (by omega) (by omega)]
              exact hLk i hi
        · rw [upc_ne (by omega), upc_ne (by omega), upc_same]
          exact RR_v (hRR q hq) (fun f hf => (so _ (by omega) (by omega)).symm)
        · rw [upc_same, so _ (by omega) (by omega)]; exact i7
        · rw [upc_same, so _ (by omega) (by omega)]; exact i8
        · rw [upc_same]; unfold IvN; rw [so 4 (by omega) (by omega), so 5 (by omega) (by omega)]; exact iN
        · rw [upc_same]
          obtain ⟨w1, w2, w3, w4, w5⟩ := iW
          refine ⟨w1, by rw [so 9 (by omega) (by omega)]; exact w2, fun j hj => ?_, fun j hj => ?_, fun j hj => ?_⟩
          · rw [so _ (by omega) (by omega)]; exact w3 j hj
          · rw [so _ (by omega) (by omega), so _ (by omega) (by omega)]; exact w4 j hj
          · rw [so _ (by omega) (by omega)]; exact w5 j hj
        · rw [upc_same]
          intro i j hi hj
          obtain ⟨l1, l2, l3, l4⟩ := iL i j hi hj
          by_cases g1 : i = a ∧ j = b
          · obtain ⟨rfl, rfl⟩ := g1
            rw [sab, sba]
            exact ⟨⟨u1, u2⟩, rfl, fun q => absurd q hab, fun q => by omega⟩
          · by_cases g2 : i = b ∧ j = a
            · obtain ⟨rfl, rfl⟩ := g2
              rw [sab, sba]
              exact ⟨⟨u1, u2⟩, rfl, fun q => absurd q.symm hab, fun q => by omega⟩
            · rw [so (34 + 6 * i + j) (by omega) (by omega), so (34 + 6 * j + i) (by omega) (by omega)]
              exact ⟨l1, l2, l3, l4⟩
        · rw [upc_same]
          intro q hq
          have ev : ∀ f, f < 21 → vw (τ 1) q f = vw s' q f := fun f hf => (so _ (by omega) (by omega)).symm
          refine IvV_v ?_ ev
          by_cases qa : q = a
          · subst qa; rw [sla]; exact IvV_S (iV q hq) (by omega)
          · by_cases qb : q = b
            · subst qb; rw [slb]; exact IvV_S (iV q hq) (by omega)
            · rw [slo q (by omega) qa qb]; exact iV q hq
        · rw [upc_same]
          intro q hq hq6 f hf
          show s' (70 + 21 * q + f) = 0
          rw [so _ (by omega) (by omega)]
          exact iz q hq hq6 f hf
      · rcases d4 with ⟨g, -⟩ | ⟨-, rfl⟩
        · exact absurd g f2
        rw [if_pos bz_0, if_neg bz1n]
        exact bad
    · rcases d3 with ⟨g, -⟩ | ⟨-, rfl⟩
      · exact absurd g f1
      rw [if_pos bz_0, if_neg bz1n]
      exact bad
  · rw [e1, e2]
    exact ⟨-1000001, σ, τ, rfl, rfl, hG0⟩
