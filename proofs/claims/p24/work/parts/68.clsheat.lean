/-! heat in the class: a room's beginning of a minute, and what it gives -/
theorem c_j51 {c : Nat} {A : Int32} {σ : xM} : F_X3_beginMinute_J51 c A σ = some ((), upc (upc σ c (upd (σ c) 4 (σ c 4 - (σ c 3 * (σ c 17 - A)) / 1000))) (c + 1) (upd (σ (c + 1)) 2 (σ (c + 1) 2 + (σ c 3 * (σ c 17 - A)) / 1000))) := by
  unfold F_X3_beginMinute_J51
  rw [nm_eq, nm_eq, nm_eq, xup_upc, xup_upc, upc_ne (by omega)]
theorem RR_j51 {g b v : Nat → Int32} {h T A : Int32} (hR : RR g b (upd (upd v 1 (v 1 + h)) 17 (v 17 + h))) (h17 : g 17 = T) :
    RR (upd g 4 (g 4 - (g 3 * (g 17 - A)) / 1000)) (upd b 2 (b 2 + (g 3 * (g 17 - A)) / 1000)) (flowV v h (lkg v T A) 0) := by
  obtain ⟨⟨a0, a1, a2, a3, a4, a5, a6⟩, ⟨a7, a8, a9, a10, a11, a12, a13⟩, ⟨a14, a15, a16, a17, a18, a19, a20⟩⟩ := hR
  simp [upd] at a0 a1 a2 a3 a4 a5 a6 a7 a8 a9 a10 a11 a12 a13 a14 a15 a16 a17 a18 a19 a20
  have e : ∀ x : Int32, v 1 + h - x = v 1 + ((h - x) - 0) := by
    intro x
    rw [Int32.sub_zero, Int32.sub_eq_add_neg, Int32.sub_eq_add_neg, Int32.add_assoc]
  simp [RR, flowV, lkg, upd, h17, e, a0, a1, a2, a3, a4, a5, a6, a7, a8, a9, a10, a11, a12, a13, a14, a15, a16, a17, a18, a19, a20]
theorem c_begin {c : Nat} {A : Int32} {σ : xM} {v : Nat → Int32} (hR : RR (σ c) (σ (c + 1)) v) (hc : 0 < v 0) :
    ∃ g' b', F_X3_beginMinute c A σ = some ((), upc (upc σ c g') (c + 1) b') ∧ RR g' b' (flowV v (hea v) (lkg v (degI (v 1) (v 0)) A) 0) ∧ g' 17 = degI (v 1) (v 0) := by
  have h0 := hR
  obtain ⟨⟨a0, a1, a2, a3, a4, a5, a6⟩, ⟨a7, a8, a9, a10, a11, a12, a13⟩, ⟨a14, a15, a16, a17, a18, a19, a20⟩⟩ := hR
  have hw : v 7 = 0 ∨ v 7 = 1 := by rw [← a7]; exact bz_cases _
  have hw2 : v 14 = 0 ∨ v 14 = 1 := by rw [← a14]; exact bz_cases _
  -- the state behind the temperature
  have e1 : ∀ f, upc σ c f c = f := fun f => upc_same
  have e2 : ∀ f, upc σ c f (c + 1) = σ (c + 1) := fun f => upc_ne (by omega)
  have T1 : RR (upd (σ c) 17 (degI (σ c 4) (σ c 1))) (σ (c + 1)) v := by
    simp [RR, upd, a0, a1, a2, a3, a4, a5, a6, a7, a8, a9, a10, a11, a12, a13, a14, a15, a16, a17, a18, a19, a20]
  have fin : ∀ (g b : Nat → Int32) (h : Int32), RR g b (upd (upd v 1 (v 1 + h)) 17 (v 17 + h)) → g 17 = degI (v 1) (v 0) → hea v = h →
      ∃ g' b', F_X3_beginMinute_J51 c A (upc (upc σ c g) (c + 1) b) = some ((), upc (upc σ c g') (c + 1) b') ∧ RR g' b' (flowV v (hea v) (lkg v (degI (v 1) (v 0)) A) 0) ∧ g' 17 = degI (v 1) (v 0) := by
    intro g b h hg h17 hh
    refine ⟨upd g 4 (g 4 - (g 3 * (g 17 - A)) / 1000), upd b 2 (b 2 + (g 3 * (g 17 - A)) / 1000), ?_, ?_, ?_⟩
    · rw [c_j51, upc_same, upc_ne (show c ≠ c + 1 by omega), upc_same]
      congr 2
      funext i
      by_cases i1 : i = c + 1
      · subst i1; rw [upc_same, upc_same]
      · by_cases i2 : i = c
        · subst i2; rw [upc_ne i1, upc_same, upc_ne i1, upc_same]
        · rw [upc_ne i1, upc_ne i2, upc_ne i1, upc_ne i2, upc_ne i1, upc_ne i2]
    · rw [hh]
      exact RR_j51 (T := degI (v 1) (v 0)) (A := A) hg h17
    · rw [upd_ne (by omega)]; exact h17
  have z17 : v 17 + 0 = v 17 := Int32.add_zero _
  have z1 : v 1 + 0 = v 1 := Int32.add_zero _
  have same : upd (upd v 1 (v 1 + 0)) 17 (v 17 + 0) = v := by
    funext j
    rw [z17, z1]
    unfold upd
    by_cases j1 : j = 17
    · rw [if_pos j1, j1]
    · rw [if_neg j1]
      by_cases j2 : j = 1
      · rw [if_pos j2, j2]
      · rw [if_neg j2]
  unfold F_X3_beginMinute
  rw [c_temp0 (by rw [a0]; exact hc), bd_some, nm_eq]
  show ∃ g' b', (if bz ((xup σ c 17 (degI (σ c 4) (σ c 1))) c 8) = 0 then F_X3_beginMinute_J51 c A (xup σ c 17 (degI (σ c 4) (σ c 1))) else if bz ((xup σ c 17 (degI (σ c 4) (σ c 1))) c 10) = 0 then _ else F_X3_beginMinute_J51 c A (xup σ c 17 (degI (σ c 4) (σ c 1)))) = _ ∧ _
  rw [xup_upc]
  have h17 : upd (σ c) 17 (degI (σ c 4) (σ c 1)) 17 = degI (v 1) (v 0) := by rw [upd_same, a0, a1]
  generalize upd (σ c) 17 (degI (σ c 4) (σ c 1)) = g at T1 h17 ⊢
  have h8 : upc σ c g c 8 = g 8 := by rw [e1]
  have h10 : upc σ c g c 10 = g 10 := by rw [e1]
  have base : ∀ hh : hea v = 0, ∃ g' b', F_X3_beginMinute_J51 c A (upc σ c g) = some ((), upc (upc σ c g') (c + 1) b') ∧ RR g' b' (flowV v (hea v) (lkg v (degI (v 1) (v 0)) A) 0) ∧ g' 17 = degI (v 1) (v 0) := by
    intro hh
    have := fin g (σ (c + 1)) 0 (by rw [same]; exact T1) h17 hh
    rw [show upc (upc σ c g) (c + 1) (σ (c + 1)) = upc σ c g by
      funext i
      by_cases i1 : i = c + 1
      · subst i1; rw [upc_same, e2]
      · rw [upc_ne i1]] at this
    exact this
  have g8 : bz (g 8) = v 7 := T1.2.1.1
  have g10 : bz (g 10) = v 14 := T1.2.2.1
  by_cases c1 : bz (g 8) = 0
  · rw [if_pos (by rw [h8]; exact c1)]
    refine base ?_
    unfold hea
    rw [if_neg (by rw [← g8, c1]; decide)]
  · rw [if_neg (by rw [h8]; exact c1)]
    have v7 : v 7 = 1 := by
      rcases hw with z | z
      · exact absurd (g8.trans z) c1
      · exact z
    by_cases c2 : bz (g 10) = 0
    · rw [if_pos (by rw [h10]; exact c2), nm_eq, nm_eq]
      have v14 : v 14 = 0 := g10.symm.trans c2
      have hv : hea v = v 2 := by unfold hea; rw [if_pos v7, if_pos v14]
      have q := fin (upd g 4 (g 4 + g 2)) (upd (σ (c + 1)) 1 (σ (c + 1) 1 + g 2)) (v 2) (by
        obtain ⟨⟨b0, b1, b2, b3, b4, b5, b6⟩, ⟨b7, b8, b9, b10, b11, b12, b13⟩, ⟨b14, b15, b16, b17, b18, b19, b20⟩⟩ := T1
        simp [RR, upd, b0, b1, b2, b3, b4, b5, b6, b7, b8, b9, b10, b11, b12, b13, b14, b15, b16, b17, b18, b19, b20]) (by rw [upd_ne (by omega)]; exact h17) hv
      rw [xup_upc, xup_upc, upc_same, upc_upc, upc_same, upd_ne (show (2:Nat) ≠ 4 by omega), e2]
      exact q
    · rw [if_neg (by rw [h10]; exact c2)]
      refine base ?_
      unfold hea
      rw [if_pos v7, if_neg (fun z => c2 (g10.trans z))]
theorem c_give {c : Nat} {x : Int32} {σ : xM} : F_X3_giveToOthers c x σ = some ((), upc (upc σ c (upd (σ c) 4 (σ c 4 - x))) (c + 1) (upd (σ (c + 1)) 3 (σ (c + 1) 3 + x))) := by
  unfold F_X3_giveToOthers
  rw [nm_eq, nm_eq, xup_upc, xup_upc, upc_ne (by omega)]
theorem RR_give {g b v : Nat → Int32} {h lk S x : Int32} (hR : RR g b (flowV v h lk S)) : RR (upd g 4 (g 4 - x)) (upd b 3 (b 3 + x)) (flowV v h lk (S + x)) := by
  obtain ⟨⟨a0, a1, a2, a3, a4, a5, a6⟩, ⟨a7, a8, a9, a10, a11, a12, a13⟩, ⟨a14, a15, a16, a17, a18, a19, a20⟩⟩ := hR
  simp [flowV, upd] at a0 a1 a2 a3 a4 a5 a6 a7 a8 a9 a10 a11 a12 a13 a14 a15 a16 a17 a18 a19 a20
  have e : v 1 + (h - lk - S) - x = v 1 + (h - lk - (S + x)) := by
    simp only [Int32.sub_eq_add_neg, Int32.neg_add, Int32.add_assoc]
  have e2 : v 19 + S + x = v 19 + (S + x) := Int32.add_assoc _ _ _
  simp [RR, flowV, upd, e, e2, a0, a1, a2, a3, a4, a5, a6, a7, a8, a9, a10, a11, a12, a13, a14, a15, a16, a17, a18, a19, a20]
