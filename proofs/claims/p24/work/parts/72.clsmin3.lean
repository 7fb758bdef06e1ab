/-- the class's colony at k holds the row s: n rooms, p points -/
def Rel (k n p : Nat) (σ : xM) (s : Nat → Int32) : Prop :=
  (∀ j, j < 7 → σ (k + 1) j = s j) ∧ σ k 4 = nI n ∧ σ k 5 = s 8 ∧ WR (k + 4) σ s p ∧ (∀ i, i < 36 → σ (k + 3) i = s (34 + i)) ∧ ∀ r, r < n → RR (σ (k + 7 + 2 * r)) (σ (k + 7 + 2 * r + 1)) (vw s r)
theorem flowV_congr {v v' : Nat → Int32} {w A g : Int32} (h : ∀ f, f < 21 → v f = v' f) {f : Nat} (hf : f < 21) : flowV v (hea v) (lkg v w A) g f = flowV v' (hea v') (lkg v' w A) g f := by
  have e1 : hea v = hea v' := by unfold hea; rw [h 7 (by omega), h 14 (by omega), h 2 (by omega)]
  have e2 : lkg v w A = lkg v' w A := by unfold lkg; rw [h 3 (by omega)]
  rw [e1, e2]
  simp only [flowV, upd]
  rw [h 1 (by omega), h 17 (by omega), h 18 (by omega), h 19 (by omega), h f hf]
theorem gon_lo {u s W : Nat → Int32} {n r : Nat} (hr : r < 6) (hn : n ≤ 6) (h : ∀ j, j < 70 → u j = s j) : gon u W n r = gon s W n r := by
  unfold gon
  refine itr_congr n 0 0 (fun j g _ hj => ?_)
  unfold gonS
  rw [h _ (by omega)]
theorem fls_sp {s : Nat → Int32} {n p : Nat} (hn : n ≤ 6) : (∀ j, j < 70 → flsS s n p j = s j) ∧ (∀ r, r < n → ∀ f, f < 21 → vw (flsS s n p) r f = flowV (vw s r) (hea (vw s r)) (lkg (vw s r) (tmp s r) (airS s p (s 8))) (gon s (tmp s) n r) f) ∧ ∀ r, n ≤ r → ∀ f, f < 21 → vw (flsS s n p) r f = vw s r f := by
  have := itr_inv (f := flS (tmp s) n (airS s p (s 8))) (fun i (u : Nat → Int32) => (∀ j, j < 70 → u j = s j) ∧ (∀ r, r < i → ∀ f, f < 21 → vw u r f = flowV (vw s r) (hea (vw s r)) (lkg (vw s r) (tmp s r) (airS s p (s 8))) (gon s (tmp s) n r) f) ∧ ∀ r, i ≤ r → ∀ f, f < 21 → vw u r f = vw s r f) n 0 s ⟨fun _ _ => rfl, fun r hr => by omega, fun _ _ _ _ => rfl⟩ (fun i u _ hi ⟨h1, h2, h3⟩ => by
    refine ⟨fun j hj => ?_, fun r hr f hf => ?_, fun r hr f hf => ?_⟩
    · show wrv u i _ j = _
      rw [wrv_lo hj]; exact h1 j hj
    · show vw (wrv u i _) r f = _
      by_cases hri : r = i
      · subst hri
        rw [vw_wrv hf, gon_lo (by omega) hn h1]
        exact flowV_congr (h3 r (Nat.le_refl r)) hf
      · rw [vw_ot hf hri]; exact h2 r (by omega) f hf
    · show vw (wrv u i _) r f = _
      rw [vw_ot hf (by omega)]; exact h3 r (by omega) f hf)
  rw [Nat.zero_add] at this
  exact this
theorem tu_lo {n : Nat} {c : Int32} {u : Nat → Int32} : ∀ j, j < 70 → (itr tuS n 0 (c, u)).2 j = u j := by
  have := itr_inv (f := tuS) (fun _ (q : Int32 × (Nat → Int32)) => ∀ j, j < 70 → q.2 j = u j) n 0 (c, u) (fun _ _ => rfl) (fun i q _ _ h j hj => by
    show wrv q.2 i _ j = _
    rw [wrv_lo hj]; exact h j hj)
  exact this
theorem min_lo {s : Nat → Int32} {n p j : Nat} (hn : n ≤ 6) (hj : j < 70) (h8 : j ≠ 8) : (minS s n p).2 j = s j := by
  unfold minS
  dsimp only
  rw [upd_ne h8, tu_lo j hj, (fls_sp hn).1 j hj]
theorem min_8 {s : Nat → Int32} {n p : Nat} (hn : n ≤ 6) : (minS s n p).2 8 = s 8 + 1 := by
  unfold minS
  dsimp only
  rw [upd_same, tu_lo 8 (by omega), (fls_sp hn).1 8 (by omega)]
theorem min_vw {s : Nat → Int32} {n p r : Nat} : vw (minS s n p).2 r = vw (itr tuS n 0 (0, flsS s n p)).2 r := by
  funext f
  unfold minS vw
  dsimp only
  rw [upd_ne (by omega)]
/-- what the class needs of a row for a minute -/
def Fit (s : Nat → Int32) (n p : Nat) : Prop := Ris s p ∧ (∀ r, r < n → 0 < vw s r 0) ∧ (∀ r, r < n → Lat s r) ∧ Anti s n
theorem c_minute {k n p : Nat} {σ : xM} {s : Nat → Int32} (hk : kd k = 1) (hn : n ≤ 6) (hp : p ≤ 12) (hR : Rel k n p σ s) (hF : Fit s n p) :
    ∃ σ', F_X1_passMinute k σ = some ((minS s n p).1, σ') ∧ Rel k n p σ' (minS s n p).2 ∧ ∀ i, (i < k ∨ k + 19 ≤ i) → σ' i = σ i := by
  obtain ⟨hN7, h4, h5, hW, hL, hRR⟩ := hR
  obtain ⟨hRis, hC, hLat, hAnti⟩ := hF
  -- heat
  obtain ⟨σ1, e1, f1, d1⟩ := c_heatL (A := airS s p (s 8)) hk hn h4 hRR hC n 0 FU σ (by omega) (by rw [FU_eq]; omega) Frm.rf (fun r hr => by omega) (fun _ _ _ => ⟨rfl, rfl⟩)
  have g4 : σ1 k 4 = nI n := by rw [f1.k0]; exact h4
  have gL : ∀ i, i < 36 → σ1 (k + 3) i = s (34 + i) := fun i hi => by rw [f1.lo (by omega)]; exact hL i hi
  obtain ⟨σ2, e2, f2, d2⟩ := c_exchO hk hn n 0 (FU - 8 * n) (fun _ => 0) σ1 (by omega) (by rw [FU_eq]; omega) g4 gL d1
  rw [show FU - 8 * n + 8 * n = FU by rw [FU_eq]; omega] at e2
  have f12 := f1.tr f2
  obtain ⟨u1, u2, u3⟩ := fls_sp (s := s) (p := p) hn
  have d3 : ∀ r, r < n → RR (σ2 (k + 7 + 2 * r)) (σ2 (k + 7 + 2 * r + 1)) (vw (flsS s n p) r) := by
    intro r hr
    have := (d2 r hr).1
    rw [exO_sum hAnti r hr] at this
    exact RR_v this (fun f hf => (u2 r hr f hf).symm)
  have eh : F_X1_heatRooms k σ = some ((), σ1) := by
    unfold F_X1_heatRooms
    rw [c_air hW hp hRis, bd_some, h5]
    have := e1
    rw [nI_0] at this
    exact this
  have ee : F_X1_exchangeHeat k σ1 = some ((), σ2) := by
    unfold F_X1_exchangeHeat
    have := e2
    rw [nI_0] at this
    exact this
  obtain ⟨σ3, e3, f3, d4⟩ := c_turnL hk hn n 0 FU 0 (flsS s n p) σ2 (by omega) (by rw [FU_eq]; omega) (by rw [f12.k0]; exact h4) (fun j hj => by rw [f12.lo (j := 1) (by omega), u1 j (by omega)]; exact hN7 j hj) (by rw [f12.k0, u1 8 (by omega)]; exact h5) d3 (fun r hr => by
      rw [u2 r hr 0 (by omega)]
      have : flowV (vw s r) (hea (vw s r)) (lkg (vw s r) (tmp s r) (airS s p (s 8))) (gon s (tmp s) n r) 0 = vw s r 0 := by simp [flowV, upd]
      rw [this]; exact hC r hr) (fun r _ hr => by
      unfold Lat
      rw [u2 r hr 11 (by omega), u2 r hr 15 (by omega)]
      have a : flowV (vw s r) (hea (vw s r)) (lkg (vw s r) (tmp s r) (airS s p (s 8))) (gon s (tmp s) n r) 11 = vw s r 11 := by simp [flowV, upd]
      have b : flowV (vw s r) (hea (vw s r)) (lkg (vw s r) (tmp s r) (airS s p (s 8))) (gon s (tmp s) n r) 15 = vw s r 15 := by simp [flowV, upd]
      rw [a, b]; exact hLat r hr)
  have f123 := f12.tr f3
  refine ⟨xup σ3 k 5 (σ3 k 5 + 1), ?_, ?_, ?_⟩
  · unfold F_X1_passMinute
    rw [eh, bd_some, ee, bd_some]
    have := e3
    rw [nI_0] at this
    exact this
  · have x0 : ∀ i, i ≠ k → xup σ3 k 5 (σ3 k 5 + 1) i = σ3 i := fun i hi => xup_ne hi
    refine ⟨fun j hj => ?_, ?_, ?_, ?_, fun i hi => ?_, fun r hr => ?_⟩
    · rw [x0 _ (by omega), f123.lo (j := 1) (by omega), min_lo hn (by omega) (by omega)]; exact hN7 j hj
    · rw [xup_same, upd_ne (by omega), f123.k0]; exact h4
    · rw [xup_same, upd_same, f123.k0, min_8 hn, h5]
    · obtain ⟨w1, w2⟩ := hW
      refine ⟨by rw [x0 _ (by omega), f123.lo (j := 4) (by omega)]; exact w1, fun j hj => ⟨?_, ?_⟩⟩
      · rw [x0 _ (by omega), show k + 4 + 1 = k + 5 by omega, f123.lo (j := 5) (by omega), min_lo hn (by omega) (by omega)]
        exact (w2 j hj).1
      · rw [x0 _ (by omega), show k + 4 + 2 = k + 6 by omega, f123.lo (j := 6) (by omega), min_lo hn (by omega) (by omega)]
        exact (w2 j hj).2
    · rw [x0 _ (by omega), f123.lo (j := 3) (by omega), min_lo hn (by omega) (by omega)]; exact hL i hi
    · rw [x0 _ (by omega), x0 _ (by omega), min_vw]; exact d4 r hr
  · intro i hi
    rw [xup_ne (by omega), f123 i (fun r hr => ⟨by omega, by omega⟩)]
