theorem nI_ofT {x : Int32} (h : 0 ≤ x.toInt) : x = nI x.toInt.toNat := by
  refine i_ext ?_
  have := (i_rng x).2
  rw [nI_toInt (by omega)]
  omega
theorem IvF_up {v : Nat → Int32} {S : Int} {t : Nat} (h : IvF v S t) : IvF v S (t + 1) := by
  obtain ⟨h0, h2, h3, h1, h7, h14, ⟨c, c1, c2, c3⟩, ⟨f, f1, f2⟩⟩ := h
  refine ⟨h0, h2, h3, h1, h7, h14, ⟨c, by omega, c2, ?_⟩, ⟨f, by omega, f2⟩⟩
  rcases c3 with z | ⟨z, l, l1, l2⟩
  · exact Or.inl z
  · exact Or.inr ⟨z, l, by omega, l2⟩
theorem cls_inv {N w : Nat → Int32} {S : Int} {t : Nat} (hN : 0 ≤ (N 4).toInt ∧ (N 4).toInt ≤ 100) (h : IvF w S t) (ht : t ≤ 22000) : IvF (clsV N (nI t) w) S (t + 1) ∧ (w 12).toInt ≤ (clsV N (nI t) w 12).toInt := by
  obtain ⟨h0, h2, h3, h1, h7, h14, ⟨c, c1, c2, c3⟩, ⟨f, f1, f2⟩⟩ := h
  have e0 : clsV N (nI t) w 0 = w 0 := by simp [clsV, upd]
  have e1 : clsV N (nI t) w 1 = w 1 := by simp [clsV, upd]
  have e2 : clsV N (nI t) w 2 = w 2 := by simp [clsV, upd]
  have e3 : clsV N (nI t) w 3 = w 3 := by simp [clsV, upd]
  have e7 : clsV N (nI t) w 7 = 1 := by simp [clsV, upd]
  have e14 : clsV N (nI t) w 14 = w 14 := by simp [clsV, upd]
  have e11 : clsV N (nI t) w 11 = w 11 + 1 := by simp [clsV, upd]
  have e15 : clsV N (nI t) w 15 = nI t := by simp [clsV, upd]
  have e12 : clsV N (nI t) w 12 = w 12 + (if w 15 = -1000009 then 0 else if N 3 ≤ nI t - w 15 then 0 else N 4) := by simp [clsV, upd]
  have hf : ∃ g : Nat, g ≤ 100 ∧ (if w 15 = -1000009 then 0 else if N 3 ≤ nI t - w 15 then 0 else N 4) = nI g := by
    split
    · exact ⟨0, by omega, rfl⟩
    · split
      · exact ⟨0, by omega, rfl⟩
      · exact ⟨(N 4).toInt.toNat, by omega, nI_ofT hN.1⟩
  obtain ⟨g, g1, g2⟩ := hf
  have e12' : clsV N (nI t) w 12 = nI (f + g) := by rw [e12, g2, f2, nI_add]
  constructor
  · unfold IvF
    rw [e0, e1, e2, e3, e7, e14, e11, e15, e12']
    refine ⟨h0, h2, h3, h1, Or.inr rfl, h14, ⟨c + 1, by omega, by rw [c2, nI_1], Or.inr ⟨by omega, t, by omega, rfl⟩⟩, ⟨f + g, by omega, rfl⟩⟩
  · rw [e12', f2, nI_toInt (by omega), nI_toInt (by omega)]
    omega
theorem opn_f {N w : Nat → Int32} : (∀ j, j ≠ 7 → j ≠ 8 → j ≠ 9 → j ≠ 10 → (opnV N w).2 j = w j) ∧ ((opnV N w).2 7 = 0 ∨ (opnV N w).2 7 = w 7) := by
  unfold opnV
  constructor
  · intro j a b c d
    split
    · split
      · show upd _ _ _ j = _
        rw [upd_ne a, upd_ne c, upd_ne d, upd_ne b, upd_ne d]
      · show upd _ _ _ j = _
        rw [upd_ne d]
    · show upd _ _ _ j = _
      rw [upd_ne a]
  · split
    · split
      · exact Or.inl (by simp [upd])
      · exact Or.inr (by simp [upd])
    · exact Or.inl (by simp [upd])
theorem opn_inv {N w : Nat → Int32} {S : Int} {t : Nat} (h : IvF w S t) : IvF (opnV N w).2 S t := by
  obtain ⟨h0, h2, h3, h1, h7, h14, h11, h12⟩ := h
  obtain ⟨e, e7⟩ := opn_f (N := N) (w := w)
  unfold IvF
  rw [e 0 (by omega) (by omega) (by omega) (by omega), e 1 (by omega) (by omega) (by omega) (by omega), e 2 (by omega) (by omega) (by omega) (by omega), e 3 (by omega) (by omega) (by omega) (by omega), e 14 (by omega) (by omega) (by omega) (by omega), e 11 (by omega) (by omega) (by omega) (by omega), e 15 (by omega) (by omega) (by omega) (by omega), e 12 (by omega) (by omega) (by omega) (by omega)]
  refine ⟨h0, h2, h3, h1, ?_, h14, h11, h12⟩
  rcases e7 with z | z
  · exact Or.inl z
  · rw [z]; exact h7
theorem turn_inv {N v : Nat → Int32} {S : Int} {t : Nat} (hN : IvN N) (h : IvF v S t) (ht : t ≤ 22000) : IvV (turnV N (nI t) v).2 S (t + 1) ∧ (v 12).toInt ≤ ((turnV N (nI t) v).2 12).toInt := by
  obtain ⟨hN4, hN5⟩ := hN
  have hT : IvF (tnA N v) S t ∧ (1000 * (tnA N v 1).toInt < 200001 * (tnA N v 0).toInt ∨ tnA N v 14 = 1) ∧ tnA N v 12 = v 12 := by
    obtain ⟨h0, h2, h3, h1, h7, h14, h11, h12⟩ := h
    have e0 : tnA N v 0 = v 0 := by simp [tnA, upd]
    have e1 : tnA N v 1 = v 1 := by simp [tnA, upd]
    have e2 : tnA N v 2 = v 2 := by simp [tnA, upd]
    have e3 : tnA N v 3 = v 3 := by simp [tnA, upd]
    have e7 : tnA N v 7 = v 7 := by simp [tnA, upd]
    have e14 : tnA N v 14 = if degI (v 1) (v 0) ≤ N 5 then v 14 else 1 := by simp [tnA, upd]
    have e11 : tnA N v 11 = v 11 := by simp [tnA, upd]
    have e15 : tnA N v 15 = v 15 := by simp [tnA, upd]
    have e12 : tnA N v 12 = v 12 := by simp [tnA, upd]
    unfold IvF
    rw [e0, e1, e2, e3, e7, e14, e11, e15, e12]
    refine ⟨⟨h0, h2, h3, h1, h7, ?_, h11, h12⟩, ?_, rfl⟩
    · split
      · exact h14
      · exact Or.inr rfl
    · by_cases c : degI (v 1) (v 0) ≤ N 5
      · rw [if_pos c]
        obtain ⟨T, t1, t2, t3, t4, t5⟩ := tmp_i h0.1 h0.2 h1.1 h1.2
        rw [i_le, t1] at c
        have m : (v 0).toInt * T ≤ (v 0).toInt * 90000 := Int.mul_le_mul_of_nonneg_left (by omega) (by omega)
        exact Or.inl (by omega)
      · rw [if_neg c]; exact Or.inr rfl
  show IvV (stkV (tnA N v) (tnB N (nI t) (tnA N v)).2) S (t + 1) ∧ _ ≤ (stkV (tnA N v) (tnB N (nI t) (tnA N v)).2 12).toInt
  generalize tnA N v = w at hT
  obtain ⟨hw, hx, h12⟩ := hT
  rw [← h12]
  have es : ∀ u : Nat → Int32, ∀ j, j ≠ 13 → stkV w u j = u j := fun u j hj => upd_ne hj
  have fin : ∀ u : Nat → Int32, IvF u S (t + 1) → u 0 = w 0 → u 1 = w 1 → u 14 = w 14 → (w 12).toInt ≤ (u 12).toInt → IvV (stkV w u) S (t + 1) ∧ (w 12).toInt ≤ (stkV w u 12).toInt := by
    intro u hu a b c d
    refine ⟨⟨?_, ?_⟩, by rw [es u 12 (by omega)]; exact d⟩
    · unfold IvF
      rw [es u 0 (by omega), es u 1 (by omega), es u 2 (by omega), es u 3 (by omega), es u 7 (by omega), es u 14 (by omega), es u 11 (by omega), es u 15 (by omega), es u 12 (by omega)]
      exact hu
    · rw [es u 0 (by omega), es u 1 (by omega), es u 14 (by omega), a, b, c]
      exact hx
  unfold tnB
  split
  · obtain ⟨q1, q2⟩ := cls_inv (N := N) hN4 hw ht
    exact fin _ q1 (by simp [clsV, upd]) (by simp [clsV, upd]) (by simp [clsV, upd]) q2
  · split
    · have q1 := opn_inv (N := N) (IvF_up hw)
      obtain ⟨e, _⟩ := opn_f (N := N) (w := w)
      exact fin _ q1 (e 0 (by omega) (by omega) (by omega) (by omega)) (e 1 (by omega) (by omega) (by omega) (by omega)) (e 14 (by omega) (by omega) (by omega) (by omega)) (by rw [e 12 (by omega) (by omega) (by omega) (by omega)]; omega)
    · exact fin _ (IvF_up hw) rfl rfl rfl (Int.le_refl _)
theorem IvF_v8 {v : Nat → Int32} {S : Int} {t : Nat} (ht : t ≤ 22000) (h : IvV v S t) : 0 < v 0 ∧ (v 11 ≤ 0 ↔ v 15 = -1000009) := by
  obtain ⟨⟨h0, _, _, _, _, _, ⟨c, c1, c2, c3⟩, _⟩, _⟩ := h
  have z : (0 : Int32).toInt = 0 := by decide
  refine ⟨by rw [i_lt, z]; omega, ?_⟩
  rw [c2, i_le, z, nI_toInt (by omega)]
  rcases c3 with ⟨a, b⟩ | ⟨a, l, b, d⟩
  · exact ⟨fun _ => b, fun _ => by omega⟩
  · refine ⟨fun q => by omega, fun q => ?_⟩
    rw [d, i_eq, nI_toInt (by omega)] at q
    have : (-1000009 : Int32).toInt = -1000009 := by decide
    omega
theorem inv_fit {s : Nat → Int32} {n p t : Nat} (h : Inv s n p t) : Fit s n p := by
  obtain ⟨hn, ht, h7, h8, hN, hW, hL, hV, hz⟩ := h
  have hA : ∀ i, i < n → -200000 ≤ (tmp s i).toInt ∧ (tmp s i).toInt ≤ 240000 := fun i hi => by
    have := tmp_b (n := n) (hV i hi)
    exact ⟨this.1, this.2.1⟩
  exact ⟨ris_i hW, fun r hr => (IvF_v8 ht (hV r hr)).1, fun r hr => (IvF_v8 ht (hV r hr)).2, anti_i hn hL hA⟩
theorem inv_caps {s : Nat → Int32} {n p t : Nat} (h : Inv s n p t) : Caps s n := by
  intro r hr h0
  have := (inv_fit h).2.1 r hr
  rw [show vw s r 0 = s (70 + 21 * r) from rfl, h0] at this
  exact absurd this (by decide)
theorem sl_congr {s s' : Nat → Int32} {r : Nat} (hr : r < 6) (h : ∀ j, 34 ≤ j → j < 70 → s j = s' j) : ∀ m, m ≤ 6 → sl s r m = sl s' r m := by
  intro m
  induction m with
  | zero => intro _; rfl
  | succ m ih =>
    intro hm
    rw [sl, sl, ih (by omega), h _ (by omega) (by omega)]
theorem fls_inv {s : Nat → Int32} {n p t : Nat} (h : Inv s n p t) : ∀ r, r < n → IvF (vw (flsS s n p) r) (sl s r 6) t ∧ vw (flsS s n p) r 12 = vw s r 12 := by
  obtain ⟨hn, ht, h7, h8, hN, hW, hL, hV, hz⟩ := h
  have hA : ∀ i, i < n → -200000 ≤ (tmp s i).toInt ∧ (tmp s i).toInt ≤ 240000 := fun i hi => by
    have := tmp_b (n := n) (hV i hi)
    exact ⟨this.1, this.2.1⟩
  obtain ⟨_, u2, _⟩ := fls_sp (s := s) (p := p) hn
  intro r hr
  have g := gp_b hn hL hr rfl hA n (Nat.le_refl n)
  have hS := sl_b hL (show r < 6 by omega)
  have hSn := hS n hn
  have hS6 := hS 6 (by omega)
  have hm := hSn.2.2 (6 - n) (by omega)
  rw [show n + (6 - n) = 6 by omega] at hm
  have a := airS_b hW (m := t) (by omega)
  have key := flow_inv (v := vw s r) (S := sl s r 6) (G := sl s r n) (A := airS s p (s 8)) (g := gon s (tmp s) n r) (T := tmp s r) (hV r hr) rfl (by rw [h8]; omega) (by rw [h8]; omega) ⟨hSn.1, hm⟩ (by omega) g.1 g.2
  refine ⟨IvF_v key (fun f hf => (u2 r hr f hf).symm), ?_⟩
  rw [u2 r hr 12 (by omega)]
  simp [flowV, upd]
theorem min_inv {s : Nat → Int32} {n p t : Nat} (h : Inv s n p t) (ht1 : t + 1 ≤ 22000) :
    Inv (minS s n p).2 n p (t + 1) ∧ (∃ m : Nat, m ≤ n ∧ (minS s n p).1 = nI m) ∧ ∀ r, r < n → (vw s r 12).toInt ≤ (vw (minS s n p).2 r 12).toInt := by
  have hfl := fls_inv h
  obtain ⟨hn, ht, h7, h8, hN, hW, hL, hV, hz⟩ := h
  obtain ⟨u1, u2, u3⟩ := fls_sp (s := s) (p := p) hn
  have key := itr_inv (f := tuS) (fun j (u : Int32 × (Nat → Int32)) => (∃ m : Nat, m ≤ j ∧ u.1 = nI m) ∧ (∀ i, i < 70 → u.2 i = s i) ∧ (∀ r, r < j → r < n → IvV (vw u.2 r) (sl s r 6) (t + 1) ∧ (vw s r 12).toInt ≤ (vw u.2 r 12).toInt) ∧ ∀ r, j ≤ r → ∀ f, f < 21 → vw u.2 r f = vw (flsS s n p) r f) n 0 (0, flsS s n p)
    ⟨⟨0, by omega, rfl⟩, u1, fun r hr => by omega, fun r _ f _ => rfl⟩ (by
      intro j u _ hj ⟨⟨m, m1, m2⟩, a1, a2, a3⟩
      have hjn : j < n := by omega
      obtain ⟨q1, q2⟩ := hfl j hjn
      have q1' : IvF (vw u.2 j) (sl s j 6) t := IvF_v q1 (fun f hf => (a3 j (Nat.le_refl j) f hf).symm)
      have hN' : IvN u.2 := by unfold IvN; rw [a1 4 (by omega), a1 5 (by omega)]; exact hN
      obtain ⟨t1, t2⟩ := turn_inv hN' q1' (by omega)
      have e8 : u.2 8 = nI t := by rw [a1 8 (by omega), h8]
      refine ⟨?_, ?_, ?_, ?_⟩
      · rcases turnV_01 (N := u.2) (v := vw u.2 j) (t := u.2 8) with z | z
        · exact ⟨m, by omega, by show u.1 + _ = _; rw [z, m2, Int32.add_zero]⟩
        · exact ⟨m + 1, by omega, by show u.1 + _ = _; rw [z, m2, nI_1]⟩
      · intro i hi
        show wrv u.2 j _ i = _
        rw [wrv_lo hi]; exact a1 i hi
      · intro r hr hrn
        show IvV (vw (wrv u.2 j (turnV u.2 (u.2 8) (vw u.2 j)).2) r) _ _ ∧ _ ≤ (vw (wrv u.2 j (turnV u.2 (u.2 8) (vw u.2 j)).2) r 12).toInt
        by_cases hrj : r = j
        · subst hrj
          rw [e8]
          refine ⟨IvV_v t1 (fun f hf => (vw_wrv hf).symm), ?_⟩
          rw [vw_wrv (by omega), ← q2, ← a3 r (Nat.le_refl r) 12 (by omega)]
          exact t2
        · obtain ⟨b1, b2⟩ := a2 r (by omega) hrn
          refine ⟨IvV_v b1 (fun f hf => (vw_ot hf hrj).symm), ?_⟩
          rw [vw_ot (by omega) hrj]; exact b2
      · intro r hr f hf
        show vw (wrv u.2 j _) r f = _
        rw [vw_ot hf (by omega)]
        exact a3 r (by omega) f hf)
  rw [Nat.zero_add] at key
  obtain ⟨k1, k2, k3, k4⟩ := key
  have lo : ∀ j, j < 70 → j ≠ 8 → (minS s n p).2 j = s j := fun j hj h8 => min_lo hn hj h8
  refine ⟨⟨hn, ht1, ?_, ?_, ?_, ?_, ?_, ?_, ?_⟩, k1, ?_⟩
  · rw [lo 7 (by omega) (by omega)]; exact h7
  · rw [min_8 hn, h8, nI_1]
  · unfold IvN; rw [lo 4 (by omega) (by omega), lo 5 (by omega) (by omega)]; exact hN
  · obtain ⟨w1, w2, w3, w4, w5⟩ := hW
    refine ⟨w1, by rw [lo 9 (by omega) (by omega)]; exact w2, fun j hj => ?_, fun j hj => ?_, fun j hj => ?_⟩
    · rw [lo _ (by omega) (by omega)]; exact w3 j hj
    · rw [lo _ (by omega) (by omega), lo _ (by omega) (by omega)]; exact w4 j hj
    · rw [lo _ (by omega) (by omega)]; exact w5 j hj
  · intro a b ha hb
    rw [lo _ (by omega) (by omega), lo _ (by omega) (by omega)]
    exact hL a b ha hb
  · intro r hr
    rw [min_vw, ← sl_congr (show r < 6 by omega) (fun j h1 h2 => (lo j h2 (by omega)).symm) 6 (by omega)]
    exact (k3 r hr hr).1
  · intro r hr hr6 f hf
    rw [min_vw, k4 r hr f hf, u3 r hr f hf]
    exact hz r hr hr6 f hf
  · intro r hr
    rw [min_vw]
    exact (k3 r hr hr).2
