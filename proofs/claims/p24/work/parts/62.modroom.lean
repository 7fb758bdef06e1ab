/-! a room of the reference: what a minute does to its row -/
def degI (q c : Int32) : Int32 := if 0 ≤ 1000 * q then (1000 * q) / c else if (1000 * q) - (1000 * q) / c * c = 0 then (1000 * q) / c else (1000 * q) / c - 1
theorem m_deg {q c : Int32} {τ : xM} (hc : ¬ c = 0) : F_X7_degrees q c τ = some (degI q c, τ) := by
  simp only [F_X7_degrees, nm_eq, hc, if_false, degI]
  split
  · rfl
  · split <;> rfl
theorem m_temp {τ : xM} {r : Nat} {v : Nat → Int32} (hr : r < 6) (hc : ¬ v 0 = 0) : F_X7_temperature 0 (nI r) (stm τ r v) = some (degI (v 1) (v 0), stm τ r v) := by
  simp only [F_X7_temperature, of_st1 hr, of_st0 hr, bd_some, m_deg hc]
def clsV (N : Nat → Int32) (t : Int32) (v : Nat → Int32) : Nat → Int32 :=
  upd (upd (upd (upd (upd (upd v 7 1) 11 (v 11 + 1)) 9 (v 9 + v 2)) 8 (if v 9 + v 2 < N 1 then v 8 else 1)) 12 (v 12 + (if v 15 = -1000009 then 0 else if N 3 ≤ t - v 15 then 0 else N 4))) 15 t
def opnV (N : Nat → Int32) (v : Nat → Int32) : Int32 × (Nat → Int32) :=
  if v 8 = 1 then (if N 2 ≤ v 10 + 1 then (1, upd (upd (upd (upd (upd v 10 (v 10 + 1)) 8 0) 10 0) 9 (v 9 / 2)) 7 0) else (0, upd v 10 (v 10 + 1))) else (1, upd v 7 0)
def hotV (v : Nat → Int32) : Prop := ¬ v 6 < v 4 + v 5
def stkV (w v : Nat → Int32) : Nat → Int32 := upd v 13 (if v 7 = 1 then (if w 6 < w 4 + w 5 then 0 else v 13 + 1) else 0)
def tnA (N : Nat → Int32) (v : Nat → Int32) : Nat → Int32 :=
  upd (upd v 14 (if degI (v 1) (v 0) ≤ N 5 then v 14 else 1)) 6 (v 6 + ((degI (v 1) (v 0) - v 6) * N 0) / 100)
def tnB (N : Nat → Int32) (t : Int32) (w : Nat → Int32) : Int32 × (Nat → Int32) :=
  if w 7 = 0 ∧ ¬ w 4 - w 5 < w 6 then (1, clsV N t w)
  else if w 7 = 1 ∧ ¬ w 6 < w 4 + w 5 then opnV N w
  else (0, w)
def turnV (N : Nat → Int32) (t : Int32) (v : Nat → Int32) : Int32 × (Nat → Int32) :=
  ((tnB N t (tnA N v)).1, stkV (tnA N v) (tnB N t (tnA N v)).2)
theorem inb_dec {i : Int32} {n : Nat} (h : inb i n) : (inb i n) = True := eq_true h
theorem m_closes {τ : xM} {r : Nat} {v : Nat → Int32} (hr : r < 6) : F_X7_closes 0 (nI r) (stm τ r v) = some ((), stm τ r (clsV (τ 1) (τ 1 8) v)) := by
  simp only [F_X7_closes, F_X7_closes_J60, F_X7_closes_J103, F_X7_closes_J104, F_X7_closes_J123, puts_st7 hr, puts_st8 hr, puts_st15 hr, grows_st11 hr, grows_st9 hr, grows_st12 hr, of_st2 hr, of_st9 hr, of_st8 hr, of_st15 hr, bd_some, if_pos inl1, if_pos inl8, if_pos inl3, if_pos inl4, cll1, cll3, cll4, cll8, Nat.zero_add, stm_lo (show 1 < 70 by omega), stm_lo (show 3 < 70 by omega), stm_lo (show 4 < 70 by omega), stm_lo (show 8 < 70 by omega)]
  simp only [upd_same, upd_ne (show (2:Nat) ≠ 11 by omega), upd_ne (show (2:Nat) ≠ 7 by omega), upd_ne (show (9:Nat) ≠ 11 by omega), upd_ne (show (9:Nat) ≠ 7 by omega), upd_ne (show (11:Nat) ≠ 7 by omega), upd_ne (show (8:Nat) ≠ 9 by omega), upd_ne (show (8:Nat) ≠ 11 by omega), upd_ne (show (8:Nat) ≠ 7 by omega), upd_ne (show (15:Nat) ≠ 8 by omega), upd_ne (show (15:Nat) ≠ 9 by omega), upd_ne (show (15:Nat) ≠ 11 by omega), upd_ne (show (15:Nat) ≠ 7 by omega), upd_ne (show (12:Nat) ≠ 8 by omega), upd_ne (show (12:Nat) ≠ 9 by omega), upd_ne (show (12:Nat) ≠ 11 by omega), upd_ne (show (12:Nat) ≠ 7 by omega)]
  unfold clsV
  by_cases h1 : v 9 + v 2 < τ 1 1 <;> by_cases h2 : v 15 = -1000009 <;> by_cases h3 : τ 1 3 ≤ τ 1 8 - v 15 <;> simp [h1, h2, h3]
theorem m_opens {τ : xM} {r : Nat} {v : Nat → Int32} (hr : r < 6) : F_X7_opens 0 (nI r) (stm τ r v) = some ((opnV (τ 1) v).1, stm τ r (opnV (τ 1) v).2) := by
  simp only [F_X7_opens, F_X7_opens_J69, puts_st7 hr, puts_st8 hr, puts_st9 hr, puts_st10 hr, grows_st10 hr, of_st9 hr, of_st8 hr, of_st10 hr, bd_some, if_pos inl2, cll2, Nat.zero_add, stm_lo (show 2 < 70 by omega)]
  simp only [upd_same, upd_ne, ne_eq, Nat.reduceEqDiff, not_false_eq_true]
  unfold opnV
  by_cases h1 : v 8 = 1 <;> by_cases h2 : τ 1 2 ≤ v 10 + 1 <;> simp [h1, h2]
theorem m_turns {τ : xM} {r : Nat} {v : Nat → Int32} (hr : r < 6) (hc : ¬ v 0 = 0) : F_X7_turns 0 (nI r) (stm τ r v) = some ((turnV (τ 1) (τ 1 8) v).1, stm τ r (turnV (τ 1) (τ 1 8) v).2) := by
  have key : ∀ y0 : Int32, y0 = (if degI (v 1) (v 0) ≤ τ 1 5 then v 14 else 1) → F_X7_turns_J31 0 (nI r) (degI (v 1) (v 0)) y0 14 (nI r) (stm τ r v) = some ((turnV (τ 1) (τ 1 8) v).1, stm τ r (turnV (τ 1) (τ 1 8) v).2) := by
    intro y0 hy
    simp only [F_X7_turns_J31, puts_st14 hr, of_st6 hr, of_st4 hr, of_st5 hr, grows_st6 hr, bd_some, if_pos inl0, cll0, Nat.zero_add, stm_lo (show 0 < 70 by omega)]
    simp only [upd_same, upd_ne, ne_eq, Nat.reduceEqDiff, not_false_eq_true]
    rw [hy]
    rw [show upd (upd v 14 (if degI (v 1) (v 0) ≤ τ 1 5 then v 14 else 1)) 6 (v 6 + (degI (v 1) (v 0) - v 6) * τ 1 0 / 100) = tnA (τ 1) v from rfl]
    have e4 : v 4 = tnA (τ 1) v 4 := by simp [tnA, upd]
    have e5 : v 5 = tnA (τ 1) v 5 := by simp [tnA, upd]
    have e6 : (v 6 + (degI (v 1) (v 0) - v 6) * τ 1 0 / 100) = tnA (τ 1) v 6 := by simp [tnA, upd]
    rw [e4, e5, e6]
    unfold turnV
    generalize hw : tnA (τ 1) v = w
    have st : ∀ (u : Nat → Int32) (a b : Int32), (b = if w 6 < w 4 + w 5 then 0 else 1) → F_X7_turns_J156 0 (nI r) b a (stm τ r u) = some (a, stm τ r (stkV w u)) := by
      intro u a b hb
      simp only [F_X7_turns_J156, F_X7_turns_J188, F_X7_turns_J189, of_st7 hr, of_st13 hr, puts_st13 hr, bd_some, stkV]
      by_cases h1 : u 7 = 1 <;> by_cases h2 : w 6 < w 4 + w 5 <;> simp [h1, h2, hb, puts_st13 hr]
    have o133 : ∀ (b : Int32), (b = if w 6 < w 4 + w 5 then 0 else 1) → ¬ (w 7 = 0 ∧ ¬ w 4 - w 5 < w 6) → F_X7_turns_J133 0 (nI r) b 0 (stm τ r w) = some ((tnB (τ 1) (τ 1 8) w).1, stm τ r (stkV w (tnB (τ 1) (τ 1 8) w).2)) := by
      intro b hb hn
      simp only [F_X7_turns_J133, of_st7 hr, bd_some, m_opens hr, st _ _ b hb]
      unfold tnB
      rw [if_neg hn]
      by_cases h1 : w 7 = 1 <;> by_cases h2 : w 6 < w 4 + w 5 <;> simp [h1, h2, hb]
    have o90 : ∀ (b : Int32), (b = if w 6 < w 4 + w 5 then 0 else 1) → F_X7_turns_J90 0 (nI r) (w 6) b (stm τ r w) = some ((tnB (τ 1) (τ 1 8) w).1, stm τ r (stkV w (tnB (τ 1) (τ 1 8) w).2)) := by
      intro b hb
      simp only [F_X7_turns_J90, of_st7 hr, of_st4 hr, of_st5 hr, bd_some, m_closes hr, st _ _ b hb]
      by_cases h1 : w 7 = 0
      · by_cases h2 : w 4 - w 5 < w 6
        · rw [if_pos h1, if_pos h2]
          exact o133 b hb (fun h => h.2 h2)
        · rw [if_pos h1, if_neg h2]
          unfold tnB
          rw [if_pos ⟨h1, h2⟩]
      · rw [if_neg h1]
        exact o133 b hb (fun h => h1 h.1)
    by_cases h2 : w 6 < w 4 + w 5
    · rw [if_pos h2]; exact o90 0 (by rw [if_pos h2])
    · rw [if_neg h2]; exact o90 1 (by rw [if_neg h2])
  simp only [F_X7_turns, m_temp hr hc, of_st14 hr, bd_some, if_pos inl5, cll5, Nat.zero_add, stm_lo (show 5 < 70 by omega)]
  by_cases h : degI (v 1) (v 0) ≤ τ 1 5
  · rw [if_pos h]; exact key _ (by rw [if_pos h])
  · rw [if_neg h]; exact key _ (by rw [if_neg h])
