/-! the property of a row: books, contacts, wear -/
def RV (v : Nat → Int32) : Prop :=
  v 1 = v 16 + v 17 - v 18 - v 19 + v 20 ∧ (v 8 = 0 ∨ v 8 = 1) ∧ (v 8 = 1 → v 7 = 1) ∧ (0 ≤ (v 10).toInt ∧ (v 10).toInt < 50) ∧ (0 ≤ (v 9).toInt ∧ (v 9).toInt ≤ 19999 ∧ (v 8 = 0 → (v 9).toInt ≤ 9999))
theorem RV_v {v v' : Nat → Int32} (h : RV v) (e : ∀ f, f < 21 → v f = v' f) : RV v' := by
  unfold RV at h ⊢
  rw [← e 1 (by omega), ← e 7 (by omega), ← e 8 (by omega), ← e 9 (by omega), ← e 10 (by omega), ← e 16 (by omega), ← e 17 (by omega), ← e 18 (by omega), ← e 19 (by omega), ← e 20 (by omega)]
  exact h
/-- the numbers of the colony -/
def NV (s : Nat → Int32) : Prop := (1 ≤ (s 2).toInt ∧ (s 2).toInt ≤ 50) ∧ (s 1).toInt ≤ 9999 ∧ ∀ j, j < 7 → 0 ≤ (s j).toInt
theorem NV_c {s s' : Nat → Int32} (h : NV s) (e : ∀ j, j < 7 → s' j = s j) : NV s' := by
  unfold NV
  rw [e 1 (by omega), e 2 (by omega)]
  exact ⟨h.1, h.2.1, fun j hj => by rw [e j hj]; exact h.2.2 j hj⟩
def JV (s : Nat → Int32) (n : Nat) : Prop := (∀ r, r < n → RV (vw s r)) ∧ sm (fun r => vw s r 19) n = 0 ∧ NV s
theorem JV_c {s s' : Nat → Int32} {n : Nat} (hn : n ≤ 6) (h : JV s n) (e : ∀ j, j < 196 → s' j = s j) : JV s' n := by
  obtain ⟨h1, h2, h3⟩ := h
  refine ⟨fun r hr => RV_v (h1 r hr) (fun f hf => (e _ (by omega)).symm), ?_, ?_⟩
  · rw [← h2]
    exact sm_congr n (fun i hi => e _ (by omega))
  · exact NV_c h3 (fun j hj => e j (by omega))
theorem RV_flow {v : Nat → Int32} {h lk g : Int32} (hv : RV v) : RV (flowV v h lk g) := by
  obtain ⟨h1, h2⟩ := hv
  have e1 : flowV v h lk g 1 = v 1 + ((h - lk) - g) := by simp [flowV, upd]
  have e7 : flowV v h lk g 7 = v 7 := by simp [flowV, upd]
  have e8 : flowV v h lk g 8 = v 8 := by simp [flowV, upd]
  have e9 : flowV v h lk g 9 = v 9 := by simp [flowV, upd]
  have e10 : flowV v h lk g 10 = v 10 := by simp [flowV, upd]
  have e16 : flowV v h lk g 16 = v 16 := by simp [flowV, upd]
  have e17 : flowV v h lk g 17 = v 17 + h := by simp [flowV, upd]
  have e18 : flowV v h lk g 18 = v 18 + lk := by simp [flowV, upd]
  have e19 : flowV v h lk g 19 = v 19 + g := by simp [flowV, upd]
  have e20 : flowV v h lk g 20 = v 20 := by simp [flowV, upd]
  unfold RV
  rw [e1, e7, e8, e9, e10, e16, e17, e18, e19, e20]
  refine ⟨?_, h2⟩
  rw [h1]
  grind
theorem half_i {w : Int32} (h : 0 ≤ w.toInt) : (w / 2).toInt = w.toInt / 2 := by
  have e2 : (2 : Int32).toInt = 2 := by decide
  rw [i_div (by omega), e2, Int.tdiv_eq_ediv_of_nonneg h]
/-- a turn keeps it; behind it a room with suspect minutes has a closed contact -/
theorem RV_turn {N v : Nat → Int32} {t : Int32} (hN : NV N) (hv : RV v) (h2 : 1 ≤ (v 2).toInt ∧ (v 2).toInt ≤ 200) (h7 : v 7 = 0 ∨ v 7 = 1) :
    RV (turnV N t v).2 ∧ ((turnV N t v).2 13 = 0 ∨ (turnV N t v).2 7 = 1) ∧ ∀ f, (f = 0 ∨ f = 2 ∨ 16 ≤ f) → (turnV N t v).2 f = v f := by
  obtain ⟨⟨n1, n2⟩, n3, -⟩ := hN
  have o : (1 : Int32).toInt = 1 := by decide
  -- behind the blade
  have hw : ∀ f, f ≠ 6 → f ≠ 14 → tnA N v f = v f := fun f a b => by unfold tnA; rw [upd_ne a, upd_ne b]
  have hvw : RV (tnA N v) := by
    unfold RV at hv ⊢
    rw [hw 1 (by omega) (by omega), hw 7 (by omega) (by omega), hw 8 (by omega) (by omega), hw 9 (by omega) (by omega), hw 10 (by omega) (by omega), hw 16 (by omega) (by omega), hw 17 (by omega) (by omega), hw 18 (by omega) (by omega), hw 19 (by omega) (by omega), hw 20 (by omega) (by omega)]
    exact hv
  have w2 : tnA N v 2 = v 2 := hw 2 (by omega) (by omega)
  have w7 : tnA N v 7 = v 7 := hw 7 (by omega) (by omega)
  rw [← w2] at h2
  rw [← w7] at h7
  suffices H : ∀ w : Nat → Int32, RV w → (1 ≤ (w 2).toInt ∧ (w 2).toInt ≤ 200) → (w 7 = 0 ∨ w 7 = 1) → RV (stkV w (tnB N t w).2) ∧ (stkV w (tnB N t w).2 13 = 0 ∨ stkV w (tnB N t w).2 7 = 1) ∧ ∀ f, (f = 0 ∨ f = 2 ∨ 16 ≤ f) → stkV w (tnB N t w).2 f = w f by
    obtain ⟨a, b, c⟩ := H (tnA N v) hvw h2 h7
    exact ⟨a, b, fun f hf => (c f hf).trans (hw f (by omega) (by omega))⟩
  intro w hw h2 h7
  have es : ∀ u : Nat → Int32, ∀ j, j ≠ 13 → stkV w u j = u j := fun u j hj => upd_ne hj
  have fin : ∀ u : Nat → Int32, RV u → (∀ f, (f = 0 ∨ f = 2 ∨ 16 ≤ f) → u f = w f) → RV (stkV w u) ∧ (stkV w u 13 = 0 ∨ stkV w u 7 = 1) ∧ ∀ f, (f = 0 ∨ f = 2 ∨ 16 ≤ f) → stkV w u f = w f := by
    intro u hu hf
    refine ⟨?_, ?_, fun f h => (es u f (by omega)).trans (hf f h)⟩
    · unfold RV
      rw [es u 1 (by omega), es u 7 (by omega), es u 8 (by omega), es u 9 (by omega), es u 10 (by omega), es u 16 (by omega), es u 17 (by omega), es u 18 (by omega), es u 19 (by omega), es u 20 (by omega)]
      exact hu
    · rw [es u 7 (by omega)]
      have e13 : stkV w u 13 = (if u 7 = 1 then (if w 6 < w 4 + w 5 then 0 else u 13 + 1) else 0) := upd_same
      rw [e13]
      by_cases c : u 7 = 1
      · exact Or.inr c
      · rw [if_neg c]; exact Or.inl rfl
  obtain ⟨b1, b8, b78, b10, b9⟩ := hw
  unfold tnB
  by_cases c1 : w 7 = 0 ∧ ¬ w 4 - w 5 < w 6
  · rw [if_pos c1]
    have w8 : w 8 = 0 := by
      rcases b8 with z | z
      · exact z
      · exfalso
        have := b78 z
        rw [c1.1] at this
        exact absurd this (by decide)
    have b9' := b9.2.2 w8
    have e9 : (w 9 + w 2).toInt = (w 9).toInt + (w 2).toInt := i_add (by omega) (by omega)
    refine fin (clsV N t w) ?_ (fun f hf => ?_)
    · have q1 : clsV N t w 1 = w 1 := by simp [clsV, upd]
      have q7 : clsV N t w 7 = 1 := by simp [clsV, upd]
      have q8 : clsV N t w 8 = if w 9 + w 2 < N 1 then w 8 else 1 := by simp [clsV, upd]
      have q9 : clsV N t w 9 = w 9 + w 2 := by simp [clsV, upd]
      have q10 : clsV N t w 10 = w 10 := by simp [clsV, upd]
      have q16 : clsV N t w 16 = w 16 := by simp [clsV, upd]
      have q17 : clsV N t w 17 = w 17 := by simp [clsV, upd]
      have q18 : clsV N t w 18 = w 18 := by simp [clsV, upd]
      have q19 : clsV N t w 19 = w 19 := by simp [clsV, upd]
      have q20 : clsV N t w 20 = w 20 := by simp [clsV, upd]
      unfold RV
      rw [q1, q7, q8, q9, q10, q16, q17, q18, q19, q20, e9]
      refine ⟨b1, ?_, fun _ => rfl, b10, by omega, by omega, fun z => ?_⟩
      · split
        · exact Or.inl w8
        · exact Or.inr rfl
      · by_cases c2 : w 9 + w 2 < N 1
        · rw [i_lt, e9] at c2
          omega
        · rw [if_neg c2] at z
          exact absurd z (by decide)
    · unfold clsV
      rw [upd_ne (by omega), upd_ne (by omega), upd_ne (by omega), upd_ne (by omega), upd_ne (by omega), upd_ne (by omega)]
  · rw [if_neg c1]
    by_cases c2 : w 7 = 1 ∧ ¬ w 6 < w 4 + w 5
    · rw [if_pos c2]
      refine fin (opnV N w).2 ?_ (fun f hf => (opn_f (N := N) (w := w)).1 f (by omega) (by omega) (by omega) (by omega))
      have keep := (opn_f (N := N) (w := w)).1
      unfold RV
      rw [keep 1 (by omega) (by omega) (by omega) (by omega), keep 16 (by omega) (by omega) (by omega) (by omega), keep 17 (by omega) (by omega) (by omega) (by omega), keep 18 (by omega) (by omega) (by omega) (by omega), keep 19 (by omega) (by omega) (by omega) (by omega), keep 20 (by omega) (by omega) (by omega) (by omega)]
      refine ⟨b1, ?_⟩
      unfold opnV
      by_cases d1 : w 8 = 1
      · rw [if_pos d1]
        have e10 : (w 10 + 1).toInt = (w 10).toInt + 1 := by rw [i_add (by rw [o]; omega) (by rw [o]; omega), o]
        by_cases d2 : N 2 ≤ w 10 + 1
        · rw [if_pos d2]
          have q7 : (upd (upd (upd (upd (upd w 10 (w 10 + 1)) 8 0) 10 0) 9 (w 9 / 2)) 7 0) 7 = 0 := by simp [upd]
          have q8 : (upd (upd (upd (upd (upd w 10 (w 10 + 1)) 8 0) 10 0) 9 (w 9 / 2)) 7 0) 8 = 0 := by simp [upd]
          have q9 : (upd (upd (upd (upd (upd w 10 (w 10 + 1)) 8 0) 10 0) 9 (w 9 / 2)) 7 0) 9 = w 9 / 2 := by simp [upd]
          have q10 : (upd (upd (upd (upd (upd w 10 (w 10 + 1)) 8 0) 10 0) 9 (w 9 / 2)) 7 0) 10 = 0 := by simp [upd]
          dsimp only
          rw [q7, q8, q9, q10, half_i b9.1]
          exact ⟨Or.inl rfl, fun z => absurd z (by decide), by decide, by omega, by omega, fun _ => by omega⟩
        · rw [if_neg d2]
          have q7 : (upd w 10 (w 10 + 1)) 7 = w 7 := by simp [upd]
          have q8 : (upd w 10 (w 10 + 1)) 8 = w 8 := by simp [upd]
          have q9 : (upd w 10 (w 10 + 1)) 9 = w 9 := by simp [upd]
          have q10 : (upd w 10 (w 10 + 1)) 10 = w 10 + 1 := by simp [upd]
          dsimp only
          rw [q7, q8, q9, q10, e10]
          rw [i_le, e10] at d2
          exact ⟨b8, b78, by omega, b9⟩
      · rw [if_neg d1]
        have q7 : (upd w 7 0) 7 = 0 := by simp [upd]
        have q8 : (upd w 7 0) 8 = w 8 := by simp [upd]
        have q9 : (upd w 7 0) 9 = w 9 := by simp [upd]
        have q10 : (upd w 7 0) 10 = w 10 := by simp [upd]
        dsimp only
        rw [q7, q8, q9, q10]
        exact ⟨b8, fun z => absurd z d1, b10, b9⟩
    · rw [if_neg c2]
      exact fin w ⟨b1, b8, b78, b10, b9⟩ (fun _ _ => rfl)
/-- a room with suspect minutes has a closed contact -/
def SC (s : Nat → Int32) (n : Nat) : Prop := ∀ r, r < n → vw s r 13 = 0 ∨ vw s r 7 = 1
/-- a minute keeps the property; what the heaters gave in it -/
theorem min_jv {s : Nat → Int32} {n p t : Nat} (I : Inv s n p t) (J : JV s n) :
    JV (minS s n p).2 n ∧ SC (minS s n p).2 n ∧ ∃ H : Nat, H ≤ 200 * n ∧ sm (fun r => vw (minS s n p).2 r 17) n = sm (fun r => vw s r 17) n + nI H := by
  have hn := I.1
  have hfl := fls_inv I
  have hA := (inv_fit I).2.2.2
  obtain ⟨j1, j2, j3⟩ := J
  obtain ⟨u1, u2, u3⟩ := fls_sp (s := s) (p := p) hn
  have key := itr_inv (f := tuS) (fun j (u : Int32 × (Nat → Int32)) => (∀ i, i < 70 → u.2 i = s i) ∧ (∀ r, r < j → r < n → RV (vw u.2 r) ∧ (vw u.2 r 13 = 0 ∨ vw u.2 r 7 = 1)) ∧ (∀ r, r < n → vw u.2 r 17 = vw (flsS s n p) r 17 ∧ vw u.2 r 19 = vw (flsS s n p) r 19) ∧ ∀ r, j ≤ r → ∀ f, f < 21 → vw u.2 r f = vw (flsS s n p) r f) n 0 (0, flsS s n p)
    ⟨u1, fun r hr => by omega, fun r _ => ⟨rfl, rfl⟩, fun r _ f _ => rfl⟩ (by
      intro j u _ hj ⟨a1, a2, a4, a3⟩
      have hjn : j < n := by omega
      have ej : ∀ f, f < 21 → vw u.2 j f = flowV (vw s j) (hea (vw s j)) (lkg (vw s j) (tmp s j) (airS s p (s 8))) (gon s (tmp s) n j) f := fun f hf => (a3 j (Nat.le_refl j) f hf).trans (u2 j hjn f hf)
      have q1 : RV (vw u.2 j) := RV_v (RV_flow (j1 j hjn)) (fun f hf => (ej f hf).symm)
      have q2 := (hfl j hjn).1
      have e2 : vw u.2 j 2 = vw (flsS s n p) j 2 := a3 j (Nat.le_refl j) 2 (by omega)
      have e7 : vw u.2 j 7 = vw (flsS s n p) j 7 := a3 j (Nat.le_refl j) 7 (by omega)
      have hN' : NV u.2 := NV_c j3 (fun j hj => a1 j (by omega))
      obtain ⟨t1, t2, t3⟩ := RV_turn (t := u.2 8) hN' q1 (by rw [e2]; exact q2.2.1) (by rw [e7]; exact q2.2.2.2.2.1)
      refine ⟨?_, ?_, ?_, ?_⟩
      · intro i hi
        show wrv u.2 j _ i = _
        rw [wrv_lo hi]; exact a1 i hi
      · intro r hr hrn
        show RV (vw (wrv u.2 j (turnV u.2 (u.2 8) (vw u.2 j)).2) r) ∧ (vw (wrv u.2 j (turnV u.2 (u.2 8) (vw u.2 j)).2) r 13 = 0 ∨ vw (wrv u.2 j (turnV u.2 (u.2 8) (vw u.2 j)).2) r 7 = 1)
        by_cases hrj : r = j
        · subst hrj
          rw [vw_wrv (by omega), vw_wrv (by omega)]
          exact ⟨RV_v t1 (fun f hf => (vw_wrv hf).symm), t2⟩
        · obtain ⟨b1, b2⟩ := a2 r (by omega) hrn
          rw [vw_ot (by omega) hrj, vw_ot (by omega) hrj]
          exact ⟨RV_v b1 (fun f hf => (vw_ot hf hrj).symm), b2⟩
      · intro r hr
        show vw (wrv u.2 j (turnV u.2 (u.2 8) (vw u.2 j)).2) r 17 = _ ∧ vw (wrv u.2 j (turnV u.2 (u.2 8) (vw u.2 j)).2) r 19 = _
        by_cases hrj : r = j
        · subst hrj
          rw [vw_wrv (by omega), vw_wrv (by omega), t3 17 (by omega), t3 19 (by omega)]
          exact a4 r hr
        · rw [vw_ot (by omega) hrj, vw_ot (by omega) hrj]
          exact a4 r hr
      · intro r hr f hf
        show vw (wrv u.2 j _) r f = _
        rw [vw_ot hf (by omega)]
        exact a3 r (by omega) f hf)
  rw [Nat.zero_add] at key
  obtain ⟨k1, k2, k3, k4⟩ := key
  have lo : ∀ j, j < 70 → j ≠ 8 → (minS s n p).2 j = s j := fun j hj h8 => min_lo hn hj h8
  refine ⟨⟨fun r hr => ?_, ?_, ?_⟩, fun r hr => ?_, ?_⟩
  · rw [min_vw]; exact (k2 r hr hr).1
  · have e : sm (fun r => vw (minS s n p).2 r 19) n = sm (fun r => vw s r 19 + gp s r n) n := sm_congr n (fun i hi => by
      rw [min_vw, (k3 i hi).2, u2 i hi 19 (by omega)]
      simp [flowV, upd]
      rfl)
    rw [e, sm_plus, j2, flo_sum hA n (Nat.le_refl n)]
    rfl
  · exact NV_c j3 (fun j hj => lo j (by omega) (by omega))
  · rw [min_vw]; exact (k2 r hr hr).2
  · have e : sm (fun r => vw (minS s n p).2 r 17) n = sm (fun r => vw s r 17 + hea (vw s r)) n := sm_congr n (fun i hi => by
      rw [min_vw, (k3 i hi).1, u2 i hi 17 (by omega)]
      simp [flowV, upd])
    have hh : ∀ m, m ≤ n → ∃ H : Nat, H ≤ 200 * m ∧ sm (fun r => hea (vw s r)) m = nI H := by
      intro m
      induction m with
      | zero => intro _; exact ⟨0, by omega, rfl⟩
      | succ m ih =>
        intro hm
        obtain ⟨H, h1, h2⟩ := ih (by omega)
        have hp := (I.2.2.2.2.2.2.2.1 m (by omega)).1.2.1
        have : ∃ g : Nat, g ≤ 200 ∧ hea (vw s m) = nI g := by
          unfold hea
          split
          · split
            · exact ⟨(vw s m 2).toInt.toNat, by omega, nI_ofT (by omega)⟩
            · exact ⟨0, by omega, rfl⟩
          · exact ⟨0, by omega, rfl⟩
        obtain ⟨g, g1, g2⟩ := this
        refine ⟨H + g, by omega, ?_⟩
        rw [sm, h2, g2, nI_add]
    obtain ⟨H, h1, h2⟩ := hh n (Nat.le_refl n)
    exact ⟨H, h1, by rw [e, sm_plus, h2]⟩
