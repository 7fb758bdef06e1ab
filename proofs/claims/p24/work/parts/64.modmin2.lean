/-! a minute of the reference, over its row -/
def flS (W : Nat → Int32) (n : Nat) (A : Int32) (i : Nat) (u : Nat → Int32) : Nat → Int32 := wrv u i (flowV (vw u i) (hea (vw u i)) (lkg (vw u i) (W i) A) (gon u W n i))
def tuS (i : Nat) (u : Int32 × (Nat → Int32)) : Int32 × (Nat → Int32) := (u.1 + (turnV u.2 (u.2 8) (vw u.2 i)).1, wrv u.2 i (turnV u.2 (u.2 8) (vw u.2 i)).2)
def flsS (s : Nat → Int32) (n p : Nat) : Nat → Int32 := itr (flS (tmp s) n (airS s p (s 8))) n 0 s
def minS (s : Nat → Int32) (n p : Nat) : Int32 × (Nat → Int32) :=
  ((itr tuS n 0 (0, flsS s n p)).1, upd (itr tuS n 0 (0, flsS s n p)).2 8 ((itr tuS n 0 (0, flsS s n p)).2 8 + 1))
def Caps (s : Nat → Int32) (n : Nat) : Prop := ∀ r, r < n → ¬ s (70 + 21 * r) = 0
theorem itr_congr {S : Type} {f g : Nat → S → S} : ∀ (d i : Nat) (s : S), (∀ j u, i ≤ j → j < i + d → f j u = g j u) → itr f d i s = itr g d i s := by
  intro d
  induction d with
  | zero => intro i s _; rfl
  | succ d ih =>
    intro i s h
    rw [itr, itr, h i s (Nat.le_refl i) (by omega)]
    exact ih (i + 1) _ (fun j u h1 h2 => h j u (by omega) (by omega))
theorem itr_inv {S : Type} {f : Nat → S → S} (I : Nat → S → Prop) : ∀ (d i : Nat) (s : S), I i s → (∀ j u, i ≤ j → j < i + d → I j u → I (j + 1) (f j u)) → I (i + d) (itr f d i s) := by
  intro d
  induction d with
  | zero => intro i s h _; exact h
  | succ d ih =>
    intro i s h hs
    rw [itr, show i + (d + 1) = (i + 1) + d by omega]
    exact ih (i + 1) _ (hs i s (Nat.le_refl i) (by omega) h) (fun j u h1 h2 => hs j u (by omega) (by omega))
theorem gon_congr {u W W' : Nat → Int32} {n r : Nat} (hr : r < n) (h : ∀ i, i < n → W i = W' i) : gon u W n r = gon u W' n r := by
  unfold gon
  refine itr_congr n 0 0 (fun j g _ hj => ?_)
  unfold gonS
  rw [h r hr, h j (by omega)]
theorem flS_congr {W W' : Nat → Int32} {n : Nat} {A : Int32} (h : ∀ i, i < n → W i = W' i) (s : Nat → Int32) : itr (flS W n A) n 0 s = itr (flS W' n A) n 0 s := by
  refine itr_congr n 0 s (fun j u _ hj => ?_)
  unfold flS
  rw [h j (by omega), gon_congr (show j < n by omega) h]
theorem m_minute {τ : xM} {n p : Nat} (hn : n ≤ 6) (hp : p ≤ 12) (h7 : τ 1 7 = nI n) (h9 : τ 1 9 = nI p) (hR : Ris (τ 1) p) (hC : Caps (τ 1) n) :
    ∃ W, F_X7_minute 0 τ = some ((minS (τ 1) n p).1, upc (upc τ 6 W) 1 (minS (τ 1) n p).2) := by
  -- the third loop
  have l71 : ∀ (u : Nat → Int32) (τ1 : xM), τ1 1 = u → u 7 = nI n → Caps u n → F_X7_minute_L71 0 FU 0 0 τ1 = some ((itr tuS n 0 (0, u)).1, upc τ1 1 (upd (itr tuS n 0 (0, u)).2 8 ((itr tuS n 0 (0, u)).2 8 + 1))) := by
    intro u τ1 hu hu7 huC
    have e := loop_up (F := fun N i (q : Int32 × (Nat → Int32)) => F_X7_minute_L71 0 N q.1 (nI i) (upc τ1 1 q.2)) (f := tuS) (fin := fun q => some (q.1, upc τ1 1 (upd q.2 8 (q.2 8 + 1)))) (I := fun _ q => q.2 7 = nI n ∧ Caps q.2 n) n ?_ ?_ n 0 (0, u) FU (by omega) ⟨hu7, huC⟩ (by rw [FU_eq]; omega)
    · have e1 := e.1
      try simp only at e1
      rw [← hu, upc_self] at e1
      rw [← hu]
      exact e1
    · intro N i q hi ⟨hq7, hqC⟩
      have hr : i < 6 := by omega
      have hc : ¬ vw q.2 i 0 = 0 := hqC i hi
      constructor
      · show F_X7_minute_L71 0 (N + 1) q.1 (nI i) (upc τ1 1 q.2) = _
        rw [F_X7_minute_L71, if_pos inl7, Nat.zero_add, cll7, upc_same, hq7, if_neg (nI_ge hi (by omega))]
        have e2 : upc τ1 1 q.2 = stm (upc τ1 1 q.2) i (vw q.2 i) := by
          have := (stm_self (τ := upc τ1 1 q.2) (r := i)).symm
          rw [upc_same] at this
          exact this
        rw [e2, m_turns hr hc, bd_some, nm_eq, nI_1, upc_same]
        unfold stm
        rw [upc_same, upc_upc]
        rfl
      · refine ⟨?_, fun r hr2 => ?_⟩
        · show wrv q.2 i _ 7 = _
          rw [wrv_lo (by omega)]; exact hq7
        · show ¬ wrv q.2 i _ (70 + 21 * r) = 0
          by_cases hri : r = i
          · subst hri
            rw [show 70 + 21 * r = 70 + 21 * r + 0 by omega, wrv_in (by omega)]
            have : (turnV q.2 (q.2 8) (vw q.2 r)).2 0 = vw q.2 r 0 := by
              unfold turnV stkV tnB
              simp only
              split
              · simp [clsV, tnA, upd]
              · split
                · unfold opnV
                  split
                  · split <;> simp [tnA, upd]
                  · simp [tnA, upd]
                · simp [tnA, upd]
            rw [this]
            exact hqC r hr2
          · rw [show 70 + 21 * r = 70 + 21 * r + 0 by omega, wrv_ot (by omega) hri]
            exact hqC r hr2
    · intro N q ⟨hq7, _⟩
      show F_X7_minute_L71 0 (N + 1) q.1 (nI n) (upc τ1 1 q.2) = _
      rw [F_X7_minute_L71, if_pos inl7, Nat.zero_add, cll7, upc_same, hq7, if_pos (nI_le (Nat.le_refl n) (by omega)), if_pos inl8, if_pos inl8, nm_eq, cll8, xup_upc, upc_same, upc_upc]
  -- the second
  have l44 : ∀ (A : Int32) (u : Nat → Int32) (τ1 : xM), τ1 1 = u → u 7 = nI n → Caps u n → F_X7_minute_L44 0 FU A 0 τ1 = F_X7_minute_L71 0 FU 0 0 (upc τ1 1 (itr (flS (τ1 6) n A) n 0 u)) ∧ (itr (flS (τ1 6) n A) n 0 u) 7 = nI n ∧ Caps (itr (flS (τ1 6) n A) n 0 u) n := by
    intro A u τ1 hu hu7 huC
    have e := loop_up (F := fun N i (q : Nat → Int32) => F_X7_minute_L44 0 N A (nI i) (upc τ1 1 q)) (f := flS (τ1 6) n A) (fin := fun q => F_X7_minute_L71 0 FU 0 0 (upc τ1 1 q)) (I := fun _ q => q 7 = nI n ∧ Caps q n) n ?_ ?_ n 0 u FU (by omega) ⟨hu7, huC⟩ (by rw [FU_eq]; omega)
    · refine ⟨?_, e.2⟩
      have e1 := e.1
      try simp only at e1
      rw [← hu, upc_self] at e1
      rw [← hu]
      exact e1
    · intro N i q hi ⟨hq7, hqC⟩
      have hr : i < 6 := by omega
      constructor
      · show F_X7_minute_L44 0 (N + 1) A (nI i) (upc τ1 1 q) = _
        rw [F_X7_minute_L44, if_pos inl7, Nat.zero_add, cll7, upc_same, hq7, if_neg (nI_ge hi (by omega))]
        have e2 : upc τ1 1 q = stm (upc τ1 1 q) i (vw q i) := by
          have := (stm_self (τ := upc τ1 1 q) (r := i)).symm
          rw [upc_same] at this
          exact this
        rw [e2, m_flows (n := n) hr hn (by rw [upc_same]; exact hq7), bd_some, nI_1, upc_same, upc_ne (by omega)]
        unfold stm
        rw [upc_same, upc_upc]
        rfl
      · refine ⟨?_, fun r hr2 => ?_⟩
        · show wrv q i _ 7 = _
          rw [wrv_lo (by omega)]; exact hq7
        · show ¬ wrv q i _ (70 + 21 * r) = 0
          by_cases hri : r = i
          · subst hri
            rw [show 70 + 21 * r = 70 + 21 * r + 0 by omega, wrv_in (by omega)]
            have : flowV (vw q r) (hea (vw q r)) (lkg (vw q r) (τ1 6 r) A) (gon q (τ1 6) n r) 0 = vw q r 0 := by simp [flowV, upd]
            rw [this]
            exact hqC r hr2
          · rw [show 70 + 21 * r = 70 + 21 * r + 0 by omega, wrv_ot (by omega) hri]
            exact hqC r hr2
    · intro N q ⟨hq7, _⟩
      show F_X7_minute_L44 0 (N + 1) A (nI n) (upc τ1 1 q) = _
      rw [F_X7_minute_L44, if_pos inl7, Nat.zero_add, cll7, upc_same, hq7, if_pos (nI_le (Nat.le_refl n) (by omega))]
  -- the first
  have l14 : ∀ (A : Int32), F_X7_minute_L14 0 FU A 0 τ = F_X7_minute_L44 0 FU A 0 (upc τ 6 (itr (fun i w => upd w i (tmp (τ 1) i)) n 0 (τ 6))) := by
    intro A
    have e := loop_up (F := fun N i (w : Nat → Int32) => F_X7_minute_L14 0 N A (nI i) (upc τ 6 w)) (f := fun i w => upd w i (tmp (τ 1) i)) (fin := fun w => F_X7_minute_L44 0 FU A 0 (upc τ 6 w)) (I := fun _ _ => True) n ?_ ?_ n 0 (τ 6) FU (by omega) trivial (by rw [FU_eq]; omega)
    · have e1 := e.1
      try simp only at e1
      rw [upc_self] at e1
      exact e1
    · intro N i w hi _
      have hr : i < 6 := by omega
      refine ⟨?_, trivial⟩
      show F_X7_minute_L14 0 (N + 1) A (nI i) (upc τ 6 w) = _
      rw [F_X7_minute_L14, if_pos inl7, Nat.zero_add, cll7, upc_ne (by omega), h7, if_neg (nI_ge hi (by omega))]
      have e2 : upc τ 6 w = stm (upc τ 6 w) i (vw (τ 1) i) := by
        have := (stm_self (τ := upc τ 6 w) (r := i)).symm
        rw [upc_ne (by omega)] at this
        exact this
      rw [e2, m_temp hr (hC i hi), ← e2, bd_some, if_pos (inb_nI (by omega) (by omega)), nm_eq, cl_nI (by omega), xup_upc]
      simp only [Nat.zero_add, upc_same, upc_upc, nI_1]
      rfl
    · intro N w _
      show F_X7_minute_L14 0 (N + 1) A (nI n) (upc τ 6 w) = _
      rw [F_X7_minute_L14, if_pos inl7, Nat.zero_add, cll7, upc_ne (by omega), h7, if_pos (nI_le (Nat.le_refl n) (by omega))]
  refine ⟨itr (fun i w => upd w i (tmp (τ 1) i)) n 0 (τ 6), ?_⟩
  generalize hW : itr (fun i w => upd w i (tmp (τ 1) i)) n 0 (τ 6) = W at l14 ⊢
  have hWi : ∀ i, i < n → W i = tmp (τ 1) i := by
    have := itr_inv (f := fun i w => upd w i (tmp (τ 1) i)) (fun j (w : Nat → Int32) => ∀ i, i < j → w i = tmp (τ 1) i) n 0 (τ 6) (fun i h => by omega) (fun j u _ _ h i hi => by
      by_cases hij : i = j
      · subst hij; exact upd_same
      · show upd u j _ i = _
        rw [upd_ne hij]; exact h i (by omega))
    rw [hW] at this
    intro i hi
    exact this i (by omega)
  unfold F_X7_minute
  rw [if_pos inl8, Nat.zero_add, cll8, m_air hp h9 hR, bd_some, l14]
  have h44 := l44 (airS (τ 1) p (τ 1 8)) (τ 1) (upc τ 6 W) (upc_ne (by omega)) h7 hC
  rw [upc_same, flS_congr hWi] at h44
  obtain ⟨e1, e2, e3⟩ := h44
  rw [e1]
  rw [l71 _ _ upc_same e2 e3, upc_upc]
  rfl
