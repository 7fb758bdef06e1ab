theorem RR_cut {N g b v : Nat → Int32} (h : RR g b v) : RR (upd (cutG N g) 7 (g 7 + ((degI (g 4) (g 1) - g 7) * N 0) / 100)) b (tnA N v) := by
  obtain ⟨⟨a0, a1, a2, a3, a4, a5, a6⟩, ⟨a7, a8, a9, a10, a11, a12, a13⟩, ⟨a14, a15, a16, a17, a18, a19, a20⟩⟩ := h
  unfold cutG tnA
  rw [a0, a1]
  by_cases c1 : degI (v 1) (v 0) ≤ N 5 <;>
    simp [RR, c1, upd, a0, a1, a2, a3, a4, a5, a6, a7, a8, a9, a10, a11, a12, a13, a14, a15, a16, a17, a18, a19, a20, bz_1]
theorem RR_act {N : Nat → Int32} {t : Int32} {g b w : Nat → Int32} (h : RR g b w) (hL : g 13 ≤ 0 ↔ w 15 = -1000009) : RR (actG N t g) b (tnB N t w).2 ∧ (if (tnB N t w).2 7 = w 7 then (0 : Int32) else 1) = (tnB N t w).1 := by
  have h0 := h
  obtain ⟨⟨a0, a1, a2, a3, a4, a5, a6⟩, ⟨a7, a8, a9, a10, a11, a12, a13⟩, ⟨a14, a15, a16, a17, a18, a19, a20⟩⟩ := h
  have hw : w 7 = 0 ∨ w 7 = 1 := by rw [← a7]; exact bz_cases _
  unfold actG tnB
  rw [a7, a4, a5, a6]
  rcases hw with c1 | c1
  · rw [if_pos c1]
    by_cases c2 : w 4 - w 5 < w 6
    · rw [if_pos c2, if_neg (fun z => z.2 c2), if_neg (fun z => by rw [c1] at z; exact absurd z.1 (by decide))]
      exact ⟨h0, by simp⟩
    · rw [if_neg c2, if_pos ⟨c1, c2⟩]
      refine ⟨RR_cls h0 hL, ?_⟩
      have e : (clsV N t w) 7 = 1 := by simp [clsV, upd]
      exact if_neg (show ¬ clsV N t w 7 = w 7 by rw [e, c1]; decide)
  · have n1 : ¬ w 7 = 0 := by rw [c1]; decide
    have n2 : ¬ (w 7 = 0 ∧ ¬ w 4 - w 5 < w 6) := fun z => n1 z.1
    rw [if_neg n1, if_neg n2]
    by_cases c2 : w 6 < w 4 + w 5
    · rw [if_pos c2, if_neg (fun z => z.2 c2)]
      exact ⟨h0, by simp⟩
    · rw [if_neg c2, if_pos ⟨c1, c2⟩]
      refine ⟨RR_opn h0, ?_⟩
      unfold opnV
      by_cases d1 : w 8 = 1
      · by_cases d2 : N 2 ≤ w 10 + 1
        · rw [if_pos d1, if_pos d2]; simp [upd, c1]
        · rw [if_pos d1, if_neg d2]; simp [upd]
      · rw [if_neg d1]; simp [upd, c1]
theorem RR_stk {N : Nat → Int32} {t : Int32} {g b w : Nat → Int32} {u : Nat → Int32} (h : RR g b u) (h4 : u 4 = w 4) (h5 : u 5 = w 5) (h6 : u 6 = w 6) : RR (stkG g) b (stkV w u) := by
  obtain ⟨⟨a0, a1, a2, a3, a4, a5, a6⟩, ⟨a7, a8, a9, a10, a11, a12, a13⟩, ⟨a14, a15, a16, a17, a18, a19, a20⟩⟩ := h
  have hw : u 7 = 0 ∨ u 7 = 1 := by rw [← a7]; exact bz_cases _
  unfold stkG stkV
  rw [a7, a4, a5, a6, h4, h5, h6, a13]
  rcases hw with c1 | c1 <;> by_cases c2 : w 6 < w 4 + w 5 <;>
    simp [RR, c1, c2, upd, a0, a1, a2, a3, a4, a5, a6, a7, a8, a9, a10, a11, a12, a13, a14, a15, a16, a17, a18, a19, a20]
theorem tnB_456 {N : Nat → Int32} {t : Int32} {w : Nat → Int32} : (tnB N t w).2 4 = w 4 ∧ (tnB N t w).2 5 = w 5 ∧ (tnB N t w).2 6 = w 6 := by
  unfold tnB
  split
  · simp [clsV, upd]
  · split
    · unfold opnV
      split
      · split <;> simp [upd]
      · simp [upd]
    · exact ⟨rfl, rfl, rfl⟩
theorem RR_set {N : Nat → Int32} {t : Int32} {g b v : Nat → Int32} (h : RR g b v) (hL : g 13 ≤ 0 ↔ v 15 = -1000009) :
    RR (stkG (setG N t g)) b (turnV N t v).2 ∧ (if bz (setG N t g 8) = bz (g 8) then (0 : Int32) else 1) = (turnV N t v).1 := by
  have h1 := RR_cut (N := N) h
  have hL1 : upd (cutG N g) 7 (g 7 + ((degI (g 4) (g 1) - g 7) * N 0) / 100) 13 ≤ 0 ↔ tnA N v 15 = -1000009 := by
    have e1 : upd (cutG N g) 7 (g 7 + ((degI (g 4) (g 1) - g 7) * N 0) / 100) 13 = g 13 := by
      rw [upd_ne (by omega)]; unfold cutG; split
      · rfl
      · exact upd_ne (by omega)
    have e2 : tnA N v 15 = v 15 := by simp [tnA, upd]
    rw [e1, e2]; exact hL
  obtain ⟨h2, h3⟩ := RR_act (N := N) (t := t) h1 hL1
  obtain ⟨q4, q5, q6⟩ := tnB_456 (N := N) (t := t) (w := tnA N v)
  refine ⟨RR_stk (N := N) (t := t) h2 q4 q5 q6, ?_⟩
  have e7 : bz (g 8) = tnA N v 7 := by
    have : tnA N v 7 = v 7 := by simp [tnA, upd]
    rw [this]; exact h.2.1.1
  have e8 : bz (setG N t g 8) = (tnB N t (tnA N v)).2 7 := h2.2.1.1
  rw [e7, e8]
  exact h3
/-- turnV asks the first seven numbers alone -/
theorem turnV_congr {N N' : Nat → Int32} {t : Int32} {v : Nat → Int32} (h : ∀ j, j < 7 → N j = N' j) : turnV N t v = turnV N' t v := by
  have e1 : tnA N v = tnA N' v := by unfold tnA; rw [h 0 (by omega), h 5 (by omega)]
  have e2 : ∀ w, clsV N t w = clsV N' t w := fun w => by unfold clsV; rw [h 1 (by omega), h 3 (by omega), h 4 (by omega)]
  have e3 : ∀ w, opnV N w = opnV N' w := fun w => by unfold opnV; rw [h 2 (by omega)]
  unfold turnV tnB
  rw [e1, e2, e3]
