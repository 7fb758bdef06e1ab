/-! a point's temperature, on both sides -/
theorem inW_iff {x a b : Int32} : bz (inW x a b) = 0 ↔ ¬ (a.toInt ≤ x.toInt ∧ x.toInt ≤ b.toInt) := by
  constructor
  · intro h
    have := inW_2 h
    omega
  · intro h
    rcases bz_cases (inW x a b) with q | q
    · exact q
    · have := inW_1 (x := x) (a := a) (b := b) (by rw [q]; decide)
      exact absurd ⟨this.1, this.2.1⟩ h
def FC (σ σ' : xM) : Prop := (∀ i, i ≠ 155 → i ≠ 157 → i ≠ 158 → i ≠ 159 → σ' i = σ i) ∧ ∀ j, j ≠ 2 → σ' 155 j = σ 155 j
def FM (τ τ' : xM) : Prop := (∀ i, i ≠ 0 → i ≠ 5 → τ' i = τ i) ∧ ∀ j, j ≠ 7 → j ≠ 8 → j ≠ 9 → τ' 0 j = τ 0 j
theorem FC1.w {a b : xM} (h : FC1 a b) : FC a b := ⟨fun i h1 _ _ _ => h.1 i h1, h.2⟩
theorem FM1.w {a b : xM} (h : FM1 a b) : FM a b := ⟨fun i h1 _ => h.1 i h1, fun j _ h8 h9 => h.2 j h8 h9⟩
theorem FC.tr {a b c : xM} (h : FC a b) (h' : FC b c) : FC a c := ⟨fun i h1 h2 h3 h4 => (h'.1 i h1 h2 h3 h4).trans (h.1 i h1 h2 h3 h4), fun j hj => (h'.2 j hj).trans (h.2 j hj)⟩
theorem FM.tr {a b c : xM} (h : FM a b) (h' : FM b c) : FM a c := ⟨fun i h1 h2 => (h'.1 i h1 h2).trans (h.1 i h1 h2), fun j h1 h2 h3 => (h'.2 j h1 h2 h3).trans (h.2 j h1 h2 h3)⟩
theorem c_add {p : Nat} {a y : Int32} {σ : xM} (hp : p < 12) (h2 : σ 157 2 = nI p) : F_X4_add 157 a y σ = some ((), xup (xup (xup σ 158 p a) 159 p y) 157 2 (nI (p + 1))) := by
  unfold F_X4_add
  rw [if_neg (show ¬ σ 157 2 < 0 by rw [h2]; exact nI_pos (by omega)), if_neg (show ¬ (12 : Int32) ≤ σ 157 2 by rw [h2]; exact nI_ge (b := 12) (by omega) (by omega)), if_pos (show inb (σ 157 2) 12 by rw [h2]; exact inb_nI hp (by omega)), nm_eq]
  have e1 : (xup σ (157 + 1) (Int32.toNatClampNeg (σ 157 2)) a) 157 2 = nI p := by rw [xup_ne (by omega)]; exact h2
  rw [if_pos (show inb ((xup σ (157 + 1) (Int32.toNatClampNeg (σ 157 2)) a) 157 2) 12 by rw [e1]; exact inb_nI hp (by omega)), nm_eq, nm_eq, e1, h2, cl_nI (by omega)]
  have e2 : (xup (xup σ (157 + 1) p a) (157 + 2) p y) 157 2 = nI p := by rw [xup_ne (by omega), xup_ne (by omega)]; exact h2
  rw [e2, nI_1]
theorem temp_both {m s pos p : Nat} {X : Nat → Nat} {σ τ : xM} {a : Int32} (hm : m ≤ 100) (hX : ∀ i, i < m → X i < 256) (h : PC m X s σ) (hp : PM m X pos τ) (hS : Skp m X pos s) (hp12 : p < 12) (h2 : σ 157 2 = nI p) :
    (∃ e σ' τ', F_X5_readTemperature 155 157 a σ = some (nI e, σ') ∧ F_X7_reads 0 (-40) 40 1 τ = some (0, τ') ∧ τ' 0 8 = nI e ∧ e ≤ m ∧ FC σ σ' ∧ FM1 τ τ') ∨
    (∃ (e e0 : Nat) (y : Int32) (σ' τ' : xM), F_X5_readTemperature 155 157 a σ = some (-1, σ') ∧ F_X7_reads 0 (-40) 40 1 τ = some (1, τ') ∧ τ' 0 9 = y ∧ -40 ≤ y.toInt ∧ y.toInt ≤ 40 ∧ PC m X e σ' ∧ Skp m X e0 e ∧ PM m X e0 τ' ∧ s < e ∧ FM1 τ τ' ∧ FC σ σ' ∧ σ' 157 = upd (σ 157) 2 (nI (p + 1)) ∧ σ' 158 = upd (σ 158) p a ∧ σ' 159 = upd (σ 159) p y) := by
  have hsm := hS.2.1
  obtain ⟨s', g, τ1, S', hg, P1, F1, er⟩ := m_reads (sg := 1) hm hX hp (Nat.le_trans hS.1 hsm)
  obtain rfl : s' = s := S'.u hS
  rw [if_neg (by decide)] at hg
  have g1 : g ≤ 1 := by rw [hg]; split <;> omega
  have gm : s' + g ≤ m := by
    rw [hg]
    by_cases q : s' < m ∧ X s' = 45
    · rw [if_pos q]; omega
    · rw [if_neg q]; omega
  -- the class's sign
  obtain ⟨σ1, Q1, G1, ec⟩ : ∃ σ1, PC m X (s' + g) σ1 ∧ FC1 σ σ1 ∧ F_X5_readTemperature 155 157 a σ = F_X5_readTemperature_J36 155 157 a (nI s') (nI g) σ1 := by
    unfold F_X5_readTemperature
    rw [nm_eq, h.2.1, c_here h hm hsm, bd_some]
    dsimp only
    unfold ch F_X5_readTemperature_J19
    by_cases q : s' < m ∧ X s' = 45
    · rw [if_pos (show (if s' < m then nI (X s') else -1) = 45 by rw [if_pos q.1, q.2]; rfl), if_neg (by decide), nm_eq, h.2.1, nI_1]
      rw [if_pos q] at hg
      subst hg
      obtain ⟨Q, G⟩ := PC_adv (q := s' + 1) h
      exact ⟨_, Q, G, rfl⟩
    · rw [if_neg (show ¬ (if s' < m then nI (X s') else -1) = 45 by
        by_cases w : s' < m
        · have hx := hX s' w
          rw [if_pos w]; exact fun z => q ⟨w, (nI_eq (b := 45) (by omega) (by omega)).mp z⟩
        · rw [if_neg w]; decide), if_pos rfl]
      rw [if_neg q] at hg
      subst hg
      exact ⟨σ, h, FC1.rf, rfl⟩
  rw [ec, er]
  unfold F_X5_readTemperature_J36
  obtain ⟨z, ez, hz⟩ := c_dig hm hX gm Q1
  rw [ez, bd_some]
  dsimp only
  by_cases hd : dig m X (s' + g)
  · rw [if_neg (fun y => (hz.mp y) hd)]
    obtain ⟨e, c, r, σ2, τ2, k1, k2, k3, k4, k5, k6, k7, k8, k9⟩ := rd_num hm hX Q1 P1 hd
    rw [k4, bd_some, k5]
    obtain ⟨τ3, u1, u2, u3, u4⟩ := m_J133 (s := s') (g := g) (lo := -40) (hi := 40) (r := r) hm hX g1 k7 hd.1 k1 k2
    rw [u3]
    dsimp only
    have t40 : (40 : Int32).toInt = 40 := by decide
    have t40' : (-40 : Int32).toInt = -40 := by decide
    have tM : (1000000 : Int32).toInt = 1000000 := by decide
    obtain ⟨w1, w2, w3⟩ := k3
    have rle : r.toInt ≤ 1000000 := by
      rcases w3 with ⟨q1, q2⟩ | ⟨q1, q2⟩
      · rw [← q1]; omega
      · omega
    have ev : (if g = 0 then r else -r).toInt = if g = 0 then r.toInt else -r.toInt := by
      split
      · rfl
      · exact i_neg (by omega)
    have inr : bz (inW (if g = 0 then r else -r) (-40) 40) = 0 ↔ ¬ r.toInt ≤ 40 := by
      rw [inW_iff, ev, t40, t40']
      split <;> omega
    by_cases hb : X (s' + g) = 48 ∧ e ≠ s' + g + 1
    · rw [if_pos hb, if_neg (by rw [i_le, tM, t40]; omega)]
      rw [if_pos (Or.inl hb)] at u1
      rw [if_pos (Or.inl hb)]
      exact Or.inl ⟨s', σ2, τ3, rfl, rfl, u1.2.1, hsm, (G1.tr k8).w, F1.tr (k9.tr u2)⟩
    · rw [if_neg hb]
      by_cases h40 : c.toInt ≤ 40
      · have ecr : c = r := by rcases w3 with ⟨q1, q2⟩ | ⟨q1, q2⟩; exact q1; omega
        have nb : ¬ ((X (s' + g) = 48 ∧ e ≠ s' + g + 1) ∨ bz (inW (if g = 0 then r else -r) (-40) 40) = 0) := fun q => q.elim hb (fun q => (inr.mp q) (by rw [← ecr]; exact h40))
        rw [if_neg nb] at u1
        rw [if_neg nb, if_pos (by rw [i_le, t40]; exact h40)]
        have h2' : σ2 157 2 = nI p := by rw [k8.1 157 (by omega), G1.1 157 (by omega)]; exact h2
        have key : ∀ y : Int32, ∃ es σ3, F_X5_readTemperature_J78 155 157 y a σ2 = some (-1, σ3) ∧ PC m X es σ3 ∧ Skp m X e es ∧ FC σ2 σ3 ∧ σ3 157 = upd (σ2 157) 2 (nI (p + 1)) ∧ σ3 158 = upd (σ2 158) p a ∧ σ3 159 = upd (σ2 159) p y := by
          intro y
          unfold F_X5_readTemperature_J78
          rw [c_add hp12 h2', bd_some]
          dsimp only
          generalize hσ : xup (xup (xup σ2 158 p a) 159 p y) 157 2 (nI (p + 1)) = σ3
          have o : ∀ i, i ≠ 157 → i ≠ 158 → i ≠ 159 → σ3 i = σ2 i := fun i a b c => by rw [← hσ, xup_ne a, xup_ne c, xup_ne b]
          have Q3 : PC m X e σ3 := ⟨by rw [o 155 (by omega) (by omega) (by omega)]; exact k6.1, by rw [o 155 (by omega) (by omega) (by omega)]; exact k6.2.1, fun i hi => by rw [o 156 (by omega) (by omega) (by omega)]; exact k6.2.2 i hi⟩
          obtain ⟨es, σ4, E4, S4, Q4, G4⟩ := c_skip hm hX k2 Q3
          refine ⟨es, σ4, by rw [E4, bd_some], Q4, S4, ⟨fun i a1 a2 a3 a4 => by rw [G4.1 i a1, o i a2 a3 a4], fun j hj => by rw [G4.2 j hj, o 155 (by omega) (by omega) (by omega)]⟩, ?_, ?_, ?_⟩
          · rw [G4.1 157 (by omega), ← hσ, xup_same, xup_ne (by omega), xup_ne (by omega)]
          · rw [G4.1 158 (by omega), ← hσ, xup_ne (by omega), xup_ne (by omega), xup_same]
          · rw [G4.1 159 (by omega), ← hσ, xup_ne (by omega), xup_same, xup_ne (by omega)]
        have s12 : ∀ i, i ≠ 155 → σ2 i = σ i := fun i hi => by rw [k8.1 i hi, G1.1 i hi]
        have res : ∀ y : Int32, y = (if g = 0 then r else -r) → (∃ (e e0 : Nat) (y : Int32) (σ' τ' : xM), F_X5_readTemperature_J78 155 157 y a σ2 = some (-1, σ') ∧ some ((1 : Int32), τ3) = some (1, τ') ∧ τ' 0 9 = y ∧ -40 ≤ y.toInt ∧ y.toInt ≤ 40 ∧ PC m X e σ' ∧ Skp m X e0 e ∧ PM m X e0 τ' ∧ s' < e ∧ FM1 τ τ' ∧ FC σ σ' ∧ σ' 157 = upd (σ 157) 2 (nI (p + 1)) ∧ σ' 158 = upd (σ 158) p a ∧ σ' 159 = upd (σ 159) p y) := by
          intro y hy
          obtain ⟨es, σ3, E3, Q3, S3, G3, x1, x2, x3⟩ := key y
          have hle := S3.1
          refine ⟨es, e, y, σ3, τ3, E3, rfl, by rw [u4, hy], ?_, ?_, Q3, S3, u1, by omega, F1.tr (k9.tr u2), (G1.tr k8).w.tr G3, ?_, ?_, ?_⟩
          · rw [hy, ev]; rw [← ecr]; split <;> omega
          · rw [hy, ev]; rw [← ecr]; split <;> omega
          · rw [x1, s12 157 (by omega)]
          · rw [x2, s12 158 (by omega)]
          · rw [x3, s12 159 (by omega)]
        by_cases g0 : g = 0
        · have R := res (if g = 0 then r else -r) rfl
          rw [if_pos (show nI g = 0 by rw [g0]; rfl)]
          obtain ⟨e', e0, y, σ', τ', R⟩ := R
          have ey : y = c := by rw [← R.2.2.1]; have := R.2.1; injection this with t; injection t with _ t; rw [← t, u4, if_pos g0, ecr]
          rw [ey] at R
          exact Or.inr ⟨e', e0, c, σ', τ', R⟩
        · have R := res (if g = 0 then r else -r) rfl
          rw [if_neg (nI_ne0 (by omega) (by omega))]
          obtain ⟨e', e0, y, σ', τ', R⟩ := R
          have ey : y = -c := by rw [← R.2.2.1]; have := R.2.1; injection this with t; injection t with _ t; rw [← t, u4, if_neg g0, ecr]
          rw [ey] at R
          exact Or.inr ⟨e', e0, -c, σ', τ', R⟩
      · have nr : ¬ r.toInt ≤ 40 := by
          rcases w3 with ⟨q1, q2⟩ | ⟨q1, q2⟩
          · rw [← q1]; exact h40
          · omega
        have nb : (X (s' + g) = 48 ∧ e ≠ s' + g + 1) ∨ bz (inW (if g = 0 then r else -r) (-40) 40) = 0 := Or.inr (inr.mpr nr)
        rw [if_pos nb] at u1
        rw [if_pos nb, if_neg (by rw [i_le, t40]; exact h40)]
        exact Or.inl ⟨s', σ2, τ3, rfl, rfl, u1.2.1, hsm, (G1.tr k8).w, F1.tr (k9.tr u2)⟩
  · rw [if_pos (hz.mpr hd)]
    obtain ⟨τ2, e2, P2, F2⟩ := m_nodig (s := s') (g := g) (lo := -40) (hi := 40) hm hX P1 gm hd
    exact Or.inl ⟨s' + g, σ1, τ2, by rw [Q1.2.1], e2, P2.2.1, gm, G1.w, F1.tr F2⟩
