/-! a point, on both sides -/
def DR (p : Nat) (σ τ : xM) : Prop := p ≤ 12 ∧ σ 157 2 = nI p ∧ τ 0 7 = nI p ∧ (∀ j, j < p → (∃ a : Nat, a ≤ 9999 ∧ σ 158 j = nI a ∧ τ 5 (2 * j) = nI a) ∧ σ 159 j = τ 5 (2 * j + 1) ∧ -40 ≤ (σ 159 j).toInt ∧ (σ 159 j).toInt ≤ 40) ∧ ∀ j, j + 1 < p → (σ 158 j).toInt < (σ 158 (j + 1)).toInt
theorem DR_c {p : Nat} {σ τ σ' τ' : xM} (h : DR p σ τ) (hσ : FC1 σ σ') (hτ : FM1 τ τ') : DR p σ' τ' := by
  obtain ⟨a, b, c, d, e⟩ := h
  refine ⟨a, by rw [hσ.1 157 (by omega)]; exact b, by rw [hτ.2 7 (by omega) (by omega)]; exact c, fun j hj => ?_, fun j hj => ?_⟩
  · rw [hσ.1 158 (by omega), hσ.1 159 (by omega), hτ.1 5 (by omega)]
    exact d j hj
  · rw [hσ.1 158 (by omega)]; exact e j hj
noncomputable def rdC (N : Nat) (σ92 : xM) : Option (Int32 × xM) :=
  (F_X7_here 0 σ92).bind (fun q93 =>
    if q93.1 < 0 then
    nm (xup q93.2 0 8 ((q93.2 0 8) + 0)) (fun σ97 =>
    F_X7_readsAll_L23 0 N 0 σ97)
    else
    (F_X7_here 0 q93.2).bind (fun q99 =>
    if q99.1 = 59 then
    nm (xup q99.2 0 8 ((q99.2 0 8) + 1)) (fun σ102 =>
    F_X7_readsAll_L23 0 N 1 σ102)
    else
    some (0, q99.2)))
noncomputable def rdB (N : Nat) (lo : Int32) (σ : xM) : Option (Int32 × xM) :=
    (F_X7_reads 0 lo 9999 0 σ).bind (fun q80 =>
    if (bz q80.1) = 0 then
    some (0, q80.2)
    else
    nm (q80.2 0 9) (fun x3_82 =>
    (F_X7_here 0 q80.2).bind (fun q83 =>
    if q83.1 = 61 then
    nm (xup q83.2 0 8 ((q83.2 0 8) + 1)) (fun σ85 =>
    (F_X7_reads 0 (-40) 40 1 σ85).bind (fun q86 =>
    if (bz q86.1) = 0 then
    some (0, q86.2)
    else
    if inb (2 * (q86.2 0 7)) 24 then
    nm (xup q86.2 (0 + 5) (Int32.toNatClampNeg (2 * (q86.2 0 7))) x3_82) (fun σ89 =>
    if inb ((2 * (σ89 0 7)) + 1) 24 then
    nm (xup σ89 (0 + 5) (Int32.toNatClampNeg ((2 * (σ89 0 7)) + 1)) (σ89 0 9)) (fun σ91 =>
    nm (xup σ91 0 7 ((σ91 0 7) + 1)) (fun σ92 =>
    rdC N σ92))
    else none)
    else none))
    else
    some (0, q83.2))))
def LO (p : Nat) (τ : xM) : Int32 := if p = 12 then 100000 else if p = 0 then 0 else τ 5 (2 * p - 2) + 1
theorem L23_0 {N : Nat} {τ : xM} : F_X7_readsAll_L23 0 (N + 1) 0 τ = some (1, τ) := by
  rw [F_X7_readsAll_L23, if_pos rfl]
theorem L23_1 {N p : Nat} {σ τ : xM} (h : DR p σ τ) : F_X7_readsAll_L23 0 (N + 1) 1 τ = rdB N (LO p τ) τ := by
  have h7 := h.2.2.1
  have hp := h.1
  rw [F_X7_readsAll_L23, if_neg (show ¬ (1 : Int32) = 0 by decide)]
  unfold LO
  by_cases p0 : p = 0
  · subst p0
    rw [if_pos (show τ 0 7 = 0 from h7), if_neg (show ¬ τ 0 7 = 12 by rw [h7]; decide), if_neg (by decide), if_pos rfl]
    rfl
  · have e2 : (2 * τ 0 7) - 2 = nI (2 * p - 2) := by
      rw [h7]
      show (nI 2 * nI p) - nI 2 = _
      rw [nI_mul, pk_sub (by omega)]
    rw [if_neg (show ¬ τ 0 7 = 0 by rw [h7]; exact nI_ne0 (by omega) (by omega)), if_pos (show inb ((2 * τ 0 7) - 2) 24 by rw [e2]; exact inb_nI (by omega) (by omega)), nm_eq]
    have ev : τ (0 + 5) (Int32.toNatClampNeg ((2 * τ 0 7) - 2)) = τ 5 (2 * p - 2) := by rw [e2, cl_nI (by omega)]
    by_cases p12 : p = 12
    · rw [if_pos (show τ 0 7 = 12 by rw [h7, p12]; rfl), if_pos p12]
      rfl
    · rw [if_neg (show ¬ τ 0 7 = 12 by rw [h7]; exact fun z => p12 ((nI_eq (b := 12) (by omega) (by omega)).mp z)), if_neg p12, if_neg p0, ev]
      rfl
theorem c_canTake {p : Nat} {C : Int32} {σ τ : xM} (h : DR p σ τ) (hC : 0 ≤ C.toInt) : ∃ z, F_X4_canTake 157 C σ = some (z, σ) ∧ (¬ bz z = 0 ↔ ((LO p τ).toInt ≤ C.toInt ∧ C.toInt ≤ 9999)) := by
  obtain ⟨hp, b, c, d, e⟩ := h
  unfold F_X4_canTake LO
  have z9 : (9999 : Int32).toInt = 9999 := by decide
  have z0 : (0 : Int32).toInt = 0 := by decide
  have z1 : (1 : Int32).toInt = 1 := by decide
  have zT : (100000 : Int32).toInt = 100000 := by decide
  rw [if_neg (show ¬ σ 157 2 < 0 by rw [b]; exact nI_pos (by omega))]
  by_cases p12 : p = 12
  · rw [if_pos (show (12 : Int32) ≤ σ 157 2 by rw [b, p12]; decide)]
    refine ⟨0, rfl, fun q => absurd bz_0 q, fun q => ?_⟩
    rw [if_pos p12, zT] at q
    omega
  · rw [if_neg (show ¬ (12 : Int32) ≤ σ 157 2 by rw [b]; exact nI_ge (b := 12) (by omega) (by omega))]
    by_cases h9 : C ≤ 9999
    · rw [if_pos h9]
      rw [i_le, z9] at h9
      by_cases p0 : p = 0
      · rw [if_pos (show σ 157 2 = 0 by rw [b, p0]; rfl), if_neg p12, if_pos p0]
        exact ⟨1, rfl, fun _ => ⟨by rw [z0]; exact hC, h9⟩, fun _ => bz1n⟩
      · have e1 : σ 157 2 - 1 = nI (p - 1) := by
          obtain ⟨q, rfl⟩ : ∃ q, p = q + 1 := ⟨p - 1, by omega⟩
          rw [b, nI_pred]; rfl
        rw [if_neg (show ¬ σ 157 2 = 0 by rw [b]; exact nI_ne0 (by omega) (by omega)), if_pos (show inb (σ 157 2 - 1) 12 by rw [e1]; exact inb_nI (by omega) (by omega)), if_neg p12, if_neg p0]
        obtain ⟨⟨a, a9, q1, q2⟩, _⟩ := d (p - 1) (by omega)
        have ev : σ (157 + 1) (Int32.toNatClampNeg (σ 157 2 - 1)) = nI a := by rw [e1, cl_nI (by omega)]; exact q1
        have el : τ 5 (2 * p - 2) = nI a := by rw [show 2 * p - 2 = 2 * (p - 1) by omega]; exact q2
        have ea : (nI a).toInt = a := nI_toInt (by omega)
        have e3 : (τ 5 (2 * p - 2) + 1).toInt = (a : Int) + 1 := by rw [el, i_add (by rw [ea, z1]; omega) (by rw [ea, z1]; omega), ea, z1]
        rw [e3]
        by_cases q : C ≤ nI a
        · rw [if_pos (show C ≤ σ (157 + 1) (Int32.toNatClampNeg (σ 157 2 - 1)) by rw [ev]; exact q)]
          rw [i_le, ea] at q
          exact ⟨0, rfl, fun w => absurd bz_0 w, fun w => by omega⟩
        · rw [if_neg (show ¬ C ≤ σ (157 + 1) (Int32.toNatClampNeg (σ 157 2 - 1)) by rw [ev]; exact q)]
          rw [i_le, ea] at q
          exact ⟨1, rfl, fun _ => ⟨by omega, h9⟩, fun _ => bz1n⟩
    · rw [if_neg h9]
      rw [i_le, z9] at h9
      exact ⟨0, rfl, fun w => absurd bz_0 w, fun w => absurd w.2 h9⟩
theorem point_both {m s pos p : Nat} {X : Nat → Nat} {σ τ : xM} (hm : m ≤ 100) (hX : ∀ i, i < m → X i < 256) (h : PC m X s σ) (hp : PM m X pos τ) (hS : Skp m X pos s) (hD : DR p σ τ) :
    (∃ e σ' τ', F_X5_readPoint 155 157 σ = some (nI e, σ') ∧ (∀ N, rdB N (LO p τ) τ = some (0, τ')) ∧ τ' 0 8 = nI e ∧ e ≤ m ∧ FC σ σ' ∧ FM τ τ') ∨
    (∃ (e e0 : Nat) (σ' τ' : xM), F_X5_readPoint 155 157 σ = some (-1, σ') ∧ (∀ N, rdB N (LO p τ) τ = rdC N τ') ∧ PC m X e σ' ∧ Skp m X e0 e ∧ PM m X e0 τ' ∧ s < e ∧ DR (p + 1) σ' τ' ∧ FC σ σ' ∧ FM τ τ') := by
  have hsm := hS.2.1
  obtain ⟨s', g, τ1, S', hg, P1, F1, er⟩ := m_reads (sg := 0) hm hX hp (Nat.le_trans hS.1 hsm)
  obtain rfl : s' = s := S'.u hS
  rw [if_pos rfl] at hg
  subst hg
  rw [Nat.add_zero] at P1
  simp only [Nat.add_zero] at er
  unfold F_X5_readPoint rdB
  obtain ⟨z, ez, hz⟩ := c_dig hm hX hsm h
  rw [ez, bd_some]
  dsimp only
  by_cases hd : dig m X s'
  · rw [if_neg (fun y => (hz.mp y) hd), nm_eq, h.2.1]
    obtain ⟨e, c, r, σ2, τ2, k1, k2, k3, k4, k5, k6, k7, k8, k9⟩ := rd_num hm hX h P1 hd
    rw [k4, bd_some, er, k5]
    obtain ⟨τ3, u1, u2, u3, u4⟩ := m_J133 (s := s') (g := 0) (lo := LO p τ) (hi := 9999) (r := r) hm hX (by omega) k7 hd.1 k1 k2
    rw [u3]
    dsimp only
    rw [if_pos rfl] at u1 u4
    rw [show (if (0 : Nat) = 0 then r else -r) = r from rfl]
    have tM : (1000000 : Int32).toInt = 1000000 := by decide
    have t9 : (9999 : Int32).toInt = 9999 := by decide
    obtain ⟨w1, w2, w3⟩ := k3
    have hD2 : DR p σ2 τ := DR_c hD k8 FM1.rf
    generalize hCd : (if X s' = 48 ∧ e ≠ s' + 1 then 1000000 else c) = C
    have C0 : 0 ≤ C.toInt := by
      rw [← hCd]; split
      · rw [tM]; omega
      · exact w1
    obtain ⟨z2, ez2, hz2⟩ := c_canTake hD2 C0
    rw [ez2, bd_some]
    dsimp only
    have iff : bz z2 = 0 ↔ ((X s' = 48 ∧ e ≠ s' + 1) ∨ bz (inW r (LO p τ) 9999) = 0) := by
      have a1 : bz z2 = 0 ↔ ¬ ((LO p τ).toInt ≤ C.toInt ∧ C.toInt ≤ 9999) := by
        constructor
        · intro q w; exact (hz2.mpr w) q
        · intro q
          rcases bz_cases z2 with y | y
          · exact y
          · exact absurd (hz2.mp (by rw [y]; decide)) q
      rw [a1, inW_iff, t9]
      by_cases hb : X s' = 48 ∧ e ≠ s' + 1
      · rw [if_pos hb] at hCd
        exact ⟨fun _ => Or.inl hb, fun _ q => by rw [← hCd, tM] at q; omega⟩
      · rw [if_neg hb] at hCd
        rw [← hCd]
        rcases w3 with ⟨q1, q2⟩ | ⟨q1, q2⟩
        · rw [q1]
          exact ⟨fun q => Or.inr q, fun q => q.elim (fun y => absurd y hb) id⟩
        · exact ⟨fun _ => Or.inr (fun y => by omega), fun _ y => by omega⟩
    by_cases hbad : bz z2 = 0
    · have hb := iff.mp hbad
      rw [if_pos hbad]
      rw [if_pos hb] at u1
      rw [if_pos hb]
      refine Or.inl ⟨s', σ2, τ3, rfl, fun N => ?_, u1.2.1, hsm, k8.w, (F1.tr (k9.tr u2)).w⟩
      rw [bd_some]
      dsimp only
      rw [if_pos bz_0]
    · have hb : ¬ ((X s' = 48 ∧ e ≠ s' + 1) ∨ bz (inW r (LO p τ) 9999) = 0) := fun q => hbad (iff.mpr q)
      rw [if_neg hbad]
      rw [if_neg hb] at u1
      rw [if_neg hb]
      have hCc : C = c := by rw [← hCd, if_neg (fun q => hb (Or.inl q))]
      have hin := hz2.mp hbad
      have ecr : C = r := by
        rw [hCc]
        rcases w3 with ⟨q1, q2⟩ | ⟨q1, q2⟩
        · exact q1
        · rw [hCc] at hin; omega
      have hp12 : p < 12 := by
        rcases Nat.lt_or_ge p 12 with q | q
        · exact q
        · have := hD.1
          obtain rfl : p = 12 := by omega
          have : (LO 12 τ).toInt = 100000 := rfl
          omega
      obtain ⟨s2, σ3, E3, S3, Q3, G3⟩ := c_skip hm hX k2 k6
      obtain ⟨s2', τ4, E4, S4, P4, F4⟩ := m_here hm hX k2 u1
      obtain rfl : s2' = s2 := S4.u S3
      rw [E3, bd_some, c_here Q3 hm S3.2.1, bd_some]
      dsimp only
      by_cases h61 : ch m X s2' = 61
      · rw [if_pos h61, nm_eq, Q3.2.1, nI_1]
        have hs2 : s2' < m := by
          rcases Nat.lt_or_ge s2' m with q | q
          · exact q
          · unfold ch at h61; rw [if_neg (by omega)] at h61; exact absurd h61 (by decide)
        obtain ⟨Q5, G5⟩ := PC_adv (q := s2' + 1) Q3
        obtain ⟨P5, F5⟩ := PM_adv (q := s2' + 1) P4
        obtain ⟨s3, σ6, E6, S6, Q6, G6⟩ := c_skip hm hX (show s2' + 1 ≤ m by omega) Q5
        rw [E6, bd_some]
        dsimp only
        have g157 : σ6 157 2 = nI p := by rw [G6.1 157 (by omega), G5.1 157 (by omega), G3.1 157 (by omega), k8.1 157 (by omega)]; exact hD.2.1
        have GC : FC1 σ σ6 := k8.tr (G3.tr (G5.tr G6))
        have FMx : FM1 τ (xup τ4 0 8 (nI (s2' + 1))) := F1.tr (k9.tr (u2.tr (F4.tr F5)))
        have pre : ∀ N, ((some ((1 : Int32), τ3)).bind (fun q80 : Int32 × xM =>
    if (bz q80.1) = 0 then
    some (0, q80.2)
    else
    nm (q80.2 0 9) (fun x3_82 =>
    (F_X7_here 0 q80.2).bind (fun q83 =>
    if q83.1 = 61 then
    nm (xup q83.2 0 8 ((q83.2 0 8) + 1)) (fun σ85 =>
    (F_X7_reads 0 (-40) 40 1 σ85).bind (fun q86 =>
    if (bz q86.1) = 0 then
    some (0, q86.2)
    else
    if inb (2 * (q86.2 0 7)) 24 then
    nm (xup q86.2 (0 + 5) (Int32.toNatClampNeg (2 * (q86.2 0 7))) x3_82) (fun σ89 =>
    if inb ((2 * (σ89 0 7)) + 1) 24 then
    nm (xup σ89 (0 + 5) (Int32.toNatClampNeg ((2 * (σ89 0 7)) + 1)) (σ89 0 9)) (fun σ91 =>
    nm (xup σ91 0 7 ((σ91 0 7) + 1)) (fun σ92 =>
    rdC N σ92))
    else none)
    else none))
    else
    some (0, q83.2))))) = (F_X7_reads 0 (-40) 40 1 (xup τ4 0 8 (nI (s2' + 1)))).bind (fun q86 =>
    if (bz q86.1) = 0 then
    some (0, q86.2)
    else
    if inb (2 * (q86.2 0 7)) 24 then
    nm (xup q86.2 (0 + 5) (Int32.toNatClampNeg (2 * (q86.2 0 7))) r) (fun σ89 =>
    if inb ((2 * (σ89 0 7)) + 1) 24 then
    nm (xup σ89 (0 + 5) (Int32.toNatClampNeg ((2 * (σ89 0 7)) + 1)) (σ89 0 9)) (fun σ91 =>
    nm (xup σ91 0 7 ((σ91 0 7) + 1)) (fun σ92 =>
    rdC N σ92))
    else none)
    else none) := by
          intro N
          rw [bd_some]
          dsimp only
          rw [if_neg bz1n, nm_eq, u4, E4, bd_some]
          dsimp only
          rw [if_pos h61, nm_eq, P4.2.1, nI_1]
        rcases temp_both (a := C) hm hX Q6 P5 S6 hp12 g157 with ⟨e', σ', τ', t1, t2, t3, t4, t5, t6⟩ | ⟨e', e0, y, σ', τ', t1, t2, t3, t4, t5, t6, t7, t8, t9, t10, t11, t12, t13, t14⟩
        · rw [t1, bd_some]
          refine Or.inl ⟨e', σ', τ', rfl, fun N => ?_, t3, t4, GC.w.tr t5, (FMx.tr t6).w⟩
          rw [pre, t2, bd_some]
          dsimp only
          rw [if_pos bz_0]
        · rw [t1, bd_some]
          have d7 : τ' 0 7 = nI p := by rw [(FMx.tr t10).2 7 (by omega) (by omega)]; exact hD.2.2.1
          have m2 : 2 * τ' 0 7 = nI (2 * p) := by rw [d7]; show nI 2 * nI p = _; rw [nI_mul]
          have c5 : ∀ j, τ' 5 j = τ 5 j := fun j => by rw [(FMx.tr t10).1 5 (by omega)]
          generalize hτ : xup (xup (xup τ' 5 (2 * p) r) 5 (2 * p + 1) y) 0 7 (nI (p + 1)) = τ''
          have b0 : τ'' 0 = upd (τ' 0) 7 (nI (p + 1)) := by rw [← hτ, xup_same, xup_ne (by omega), xup_ne (by omega)]
          have b5 : τ'' 5 = upd (upd (τ' 5) (2 * p) r) (2 * p + 1) y := by rw [← hτ, xup_ne (by omega), xup_same, xup_same]
          have bo : ∀ i, i ≠ 0 → i ≠ 5 → τ'' i = τ' i := fun i h0 h5 => by rw [← hτ, xup_ne h0, xup_ne h5, xup_ne h5]
          have F6 : FM τ' τ'' := ⟨bo, fun j h7 h8 h9 => by rw [b0, upd_ne h7]⟩
          have P7 : PM m X e0 τ'' := ⟨by rw [b0, upd_ne (by omega)]; exact t8.1, by rw [b0, upd_ne (by omega)]; exact t8.2.1, fun i hi => by rw [bo 3 (by omega) (by omega)]; exact t8.2.2 i hi⟩
          have hCn : C = nI C.toInt.toNat := nI_ofT C0
          refine Or.inr ⟨e', e0, σ', τ'', rfl, fun N => ?_, t6, t7, P7, by have := S6.1; have := S3.1; omega, ⟨by omega, ?_, ?_, fun j hj => ?_, fun j hj => ?_⟩, GC.w.tr t11, (FMx.tr t10).w.tr F6⟩
          · rw [pre, t2, bd_some]
            dsimp only
            have e1 : (xup τ' (0 + 5) (Int32.toNatClampNeg (2 * τ' 0 7)) r) 0 7 = nI p := by rw [xup_ne (by omega)]; exact d7
            have e2 : (xup τ' (0 + 5) (Int32.toNatClampNeg (2 * τ' 0 7)) r) 0 9 = y := by rw [xup_ne (by omega)]; exact t3
            have m3 : (2 * (xup τ' (0 + 5) (Int32.toNatClampNeg (2 * τ' 0 7)) r) 0 7) + 1 = nI (2 * p + 1) := by rw [e1]; show nI 2 * nI p + 1 = _; rw [nI_mul, nI_1]
            rw [if_neg bz1n, if_pos (show inb (2 * τ' 0 7) 24 by rw [m2]; exact inb_nI (by omega) (by omega)), nm_eq, if_pos (show inb ((2 * (xup τ' (0 + 5) (Int32.toNatClampNeg (2 * τ' 0 7)) r) 0 7) + 1) 24 by rw [m3]; exact inb_nI (by omega) (by omega)), nm_eq, nm_eq, m3, e2, m2, cl_nI (by omega), cl_nI (by omega)]
            have e3 : (xup (xup τ' (0 + 5) (2 * p) r) (0 + 5) (2 * p + 1) y) 0 7 = nI p := by rw [xup_ne (by omega), xup_ne (by omega)]; exact d7
            rw [e3, nI_1, ← hτ]
          · rw [t12, upd_same]
          · rw [b0, upd_same]
          · rw [t13, t14, b5]
            by_cases q : j = p
            · subst q
              rw [upd_same, upd_same, upd_same, upd_ne (by omega), upd_same]
              exact ⟨⟨C.toInt.toNat, by omega, hCn, by rw [← ecr]; exact hCn⟩, rfl, t4, t5⟩
            · rw [upd_ne q, upd_ne q, upd_ne (by omega), upd_ne (by omega), upd_ne (by omega), upd_ne (by omega), c5, c5, GC.1 158 (by omega), GC.1 159 (by omega)]
              exact hD.2.2.2.1 j (by omega)
          · rw [t13]
            by_cases q : j + 1 = p
            · rw [upd_ne (show j ≠ p by omega), q, upd_same, GC.1 158 (by omega)]
              obtain ⟨⟨a, a9, q1, q2⟩, _⟩ := hD.2.2.2.1 j (by omega)
              have hl : LO p τ = nI (a + 1) := by
                unfold LO
                rw [if_neg (by omega), if_neg (by omega), show 2 * p - 2 = 2 * j by omega, q2, nI_1]
              rw [hl, nI_toInt (by omega)] at hin
              rw [q1, nI_toInt (by omega)]
              omega
            · rw [upd_ne (show j ≠ p by omega), upd_ne q, GC.1 158 (by omega)]
              exact hD.2.2.2.2 j (by omega)
      · rw [if_neg h61]
        refine Or.inl ⟨s2', σ3, τ4, by rw [Q3.2.1], fun N => ?_, P4.2.1, S3.2.1, (k8.tr G3).w, (F1.tr (k9.tr (u2.tr F4))).w⟩
        rw [bd_some]
        dsimp only
        rw [if_neg bz1n, nm_eq, E4, bd_some]
        dsimp only
        rw [if_neg h61]
  · rw [if_pos (hz.mpr hd)]
    obtain ⟨τ2, e2, P2, F2⟩ := m_nodig (s := s') (g := 0) (lo := LO p τ) (hi := 9999) hm hX P1 hsm hd
    refine Or.inl ⟨s', σ, τ2, by rw [h.2.1], fun N => ?_, P2.2.1, hsm, FC1.rf.w, (F1.tr F2).w⟩
    rw [er, e2, bd_some]
    dsimp only
    rw [if_pos bz_0]
