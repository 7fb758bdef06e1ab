/-! the reference: its past, its copies -/
def inW (x a b : Int32) : Int32 := if x < a then 0 else if b < x then 0 else 1
theorem m_in {x a b : Int32} {σ : xM} : F_X7_in x a b σ = some (inW x a b, σ) := by
  unfold F_X7_in inW
  by_cases h : x < a
  · rw [if_pos h, if_pos h]
  · rw [if_neg h, if_neg h]
    by_cases h2 : b < x
    · rw [if_pos h2, if_pos h2]
    · rw [if_neg h2, if_neg h2]
theorem c_in {x a b : Int32} {σ : xM} : F_X6_within x a b σ = some (inW x a b, σ) := by
  unfold F_X6_within inW
  by_cases h : x < a
  · rw [if_pos h, if_pos h]
  · rw [if_neg h, if_neg h]
    by_cases h2 : b < x
    · rw [if_pos h2, if_pos h2]
    · rw [if_neg h2, if_neg h2]
theorem inW_1 {x a b : Int32} (h : ¬ bz (inW x a b) = 0) : a.toInt ≤ x.toInt ∧ x.toInt ≤ b.toInt ∧ inW x a b = 1 := by
  unfold inW at h ⊢
  by_cases h1 : x < a
  · rw [if_pos h1] at h; exact absurd bz_0 h
  · rw [if_neg h1] at h ⊢
    by_cases h2 : b < x
    · rw [if_pos h2] at h; exact absurd bz_0 h
    · rw [if_neg h2]
      rw [i_lt] at h1 h2
      exact ⟨by omega, by omega, rfl⟩
theorem inW_2 {x a b : Int32} (h : bz (inW x a b) = 0) : x.toInt < a.toInt ∨ b.toInt < x.toInt := by
  unfold inW at h
  by_cases h1 : x < a
  · rw [i_lt] at h1; exact Or.inl h1
  · rw [if_neg h1] at h
    by_cases h2 : b < x
    · rw [i_lt] at h2; exact Or.inr h2
    · rw [if_neg h2] at h; exact absurd h bz1n
theorem m_isRoom {x : Int32} {τ : xM} : F_X7_isRoom 0 x τ = some (inW x 0 (τ 1 7 - 1), τ) := by
  unfold F_X7_isRoom
  rw [if_pos inl7, Nat.zero_add, cll7, m_in, bd_some]
theorem room_cases {n : Nat} (hn : n ≤ 6) (x : Int32) : (∃ r, r < n ∧ x = nI r ∧ inW x 0 (nI n - 1) = 1) ∨ ((x < 0 ∨ nI n ≤ x) ∧ inW x 0 (nI n - 1) = 0) := by
  have o : (1 : Int32).toInt = 1 := by decide
  have hn1 : (nI n - 1).toInt = (n : Int) - 1 := by rw [i_sub (by rw [nI_toInt (by omega), o]; omega) (by rw [nI_toInt (by omega), o]; omega), nI_toInt (by omega), o]
  unfold inW
  by_cases h : x < 0
  · exact Or.inr ⟨Or.inl h, by rw [if_pos h]⟩
  · obtain ⟨j, hj, rfl⟩ := nI_of h
    rw [if_neg h]
    by_cases h2 : nI n ≤ nI j
    · refine Or.inr ⟨Or.inr h2, ?_⟩
      rw [nI_leI (by omega) hj] at h2
      rw [if_pos (by rw [i_lt, hn1, nI_toInt hj]; omega)]
    · rw [nI_leI (by omega) hj] at h2
      refine Or.inl ⟨j, by omega, rfl, ?_⟩
      rw [if_neg (by rw [i_lt, hn1, nI_toInt hj]; omega)]
/-- a row put over another from a place on -/
def pas (f g : Nat → Int32) (a n : Nat) : Nat → Int32 := fun j => if a ≤ j ∧ j < a + n then g (j - a) else f j
theorem itr_pas {f g : Nat → Int32} {a n : Nat} : itr (fun i w => upd w (a + i) (g i)) n 0 f = pas f g a n := by
  have := itr_inv (f := fun i (w : Nat → Int32) => upd w (a + i) (g i)) (fun m w => w = pas f g a m) n 0 f (by funext j; unfold pas; rw [if_neg (by omega)]) (fun m w _ _ h => by
    rw [h]; funext j; unfold pas upd; dsimp only
    by_cases e : j = a + m
    · rw [if_pos e, if_pos (by omega)]; congr 1; omega
    · rw [if_neg e]
      by_cases e2 : a ≤ j ∧ j < a + m
      · rw [if_pos e2, if_pos (by omega)]
      · rw [if_neg e2, if_neg (by omega)])
  rw [Nat.zero_add] at this
  exact this
def shf (f : Nat → Int32) (m : Nat) : Nat → Int32 := fun j => if j < m then f (j + 196) else f j
theorem itr_shf {f : Nat → Int32} {n : Nat} : itr (fun i w => upd w i (w (i + 196))) n 0 f = shf f n := by
  have := itr_inv (f := fun i (w : Nat → Int32) => upd w i (w (i + 196))) (fun m w => w = shf f m) n 0 f (by funext j; unfold shf; rw [if_neg (by omega)]) (fun m w _ _ h => by
    rw [h]; funext j; unfold shf upd; dsimp only
    by_cases e : j = m
    · rw [if_pos e, if_neg (by omega), if_pos (by omega), e]
    · rw [if_neg e]
      by_cases e2 : j < m
      · rw [if_pos e2, if_pos (by omega)]
      · rw [if_neg e2, if_neg (by omega)])
  rw [Nat.zero_add] at this
  exact this
theorem nI_mul (a b : Nat) : nI a * nI b = nI (a * b) := pk_mul a b
theorem m_notes52 {τ : xM} {c : Nat} (hc : c < 6) (h2 : τ 0 2 = nI c) :
    F_X7_notes_L52 0 FU 0 τ = some ((), upc (upc τ 2 (pas (τ 2) (τ 1) (196 * c) 196)) 0 (upd (τ 0) 2 (nI (c + 1)))) := by
  have e := loop_up (F := fun N i w => F_X7_notes_L52 0 N (nI i) (upc τ 2 w)) (f := fun i w => upd w (196 * c + i) (τ 1 i)) (fin := fun w => some ((), upc (upc τ 2 w) 0 (upd (τ 0) 2 (nI (c + 1))))) (I := fun _ _ => True) 196 ?_ ?_ 196 0 (τ 2) FU (by omega) trivial (by rw [FU_eq]; omega)
  · have e1 := e.1
    try simp only at e1
    rw [upc_self, itr_pas] at e1
    exact e1
  · intro N i w hi _
    refine ⟨?_, trivial⟩
    show F_X7_notes_L52 0 (N + 1) (nI i) (upc τ 2 w) = _
    have ex : (196 * (upc τ 2 w) 0 2) + nI i = nI (196 * c + i) := by
      rw [upc_ne (by omega), h2]
      show nI 196 * nI c + nI i = _
      rw [nI_mul, nI_add]
    rw [F_X7_notes_L52, if_neg (show ¬ (196 : Int32) ≤ nI i from nI_ge (b := 196) hi (by omega)), if_pos (inb_nI hi (by omega)), ex, if_pos (inb_nI (by omega) (by omega)), nm_eq, cl_nI (by omega), cl_nI (by omega), nI_1, xup_upc]
    simp only [Nat.zero_add]
    rw [upc_same, upc_upc, upc_ne (by omega)]
  · intro N w _
    show F_X7_notes_L52 0 (N + 1) (nI 196) (upc τ 2 w) = _
    rw [F_X7_notes_L52, if_pos (show (196 : Int32) ≤ nI 196 by decide), nm_eq, xup_upc, upc_ne (by omega), h2, nI_1]
theorem m_notes11 {τ : xM} : F_X7_notes_L11 0 FU 0 τ = F_X7_notes_L52 0 FU 0 (upc (upc τ 2 (shf (τ 2) 980)) 0 (upd (τ 0) 2 (τ 0 2 - 1))) := by
  have e := loop_up (F := fun N i w => F_X7_notes_L11 0 N (nI i) (upc τ 2 w)) (f := fun i w => upd w i (w (i + 196))) (fin := fun w => F_X7_notes_L52 0 FU 0 (upc (upc τ 2 w) 0 (upd (τ 0) 2 (τ 0 2 - 1)))) (I := fun _ _ => True) 980 ?_ ?_ 980 0 (τ 2) FU (by omega) trivial (by rw [FU_eq]; omega)
  · have e1 := e.1
    try simp only at e1
    rw [upc_self, itr_shf] at e1
    exact e1
  · intro N i w hi _
    refine ⟨?_, trivial⟩
    show F_X7_notes_L11 0 (N + 1) (nI i) (upc τ 2 w) = _
    have ex : nI i + 196 = nI (i + 196) := by
      show nI i + nI 196 = _
      rw [nI_add]
    rw [F_X7_notes_L11, if_neg (show ¬ (980 : Int32) ≤ nI i from nI_ge (b := 980) hi (by omega)), ex, if_pos (inb_nI (by omega) (by omega)), if_pos (inb_nI (by omega) (by omega)), nm_eq, cl_nI (by omega), cl_nI (by omega), nI_1, xup_upc]
    simp only [Nat.zero_add]
    rw [upc_same, upc_upc]
  · intro N w _
    show F_X7_notes_L11 0 (N + 1) (nI 980) (upc τ 2 w) = _
    rw [F_X7_notes_L11, if_pos (show (980 : Int32) ≤ nI 980 by decide), nm_eq, xup_upc, upc_ne (by omega)]
    rfl
/-- the past, one more kept -/
def nts (f g : Nat → Int32) (c : Nat) : Nat → Int32 := if c = 6 then pas (shf f 980) g 980 196 else pas f g (196 * c) 196
theorem m_notes {τ : xM} {c : Nat} (hc : c ≤ 6) (h2 : τ 0 2 = nI c) :
    F_X7_notes 0 τ = some ((), upc (upc τ 2 (nts (τ 2) (τ 1) c)) 0 (upd (τ 0) 2 (nI (min (c + 1) 6)))) := by
  unfold F_X7_notes nts
  by_cases h : c = 6
  · subst h
    rw [if_pos (by rw [h2]; rfl), if_pos rfl, m_notes11]
    have := m_notes52 (τ := upc (upc τ 2 (shf (τ 2) 980)) 0 (upd (τ 0) 2 (τ 0 2 - 1))) (c := 5) (by omega) (by rw [upc_same, upd_same, h2]; rfl)
    have a1 : (upc (upc τ 2 (shf (τ 2) 980)) 0 (upd (τ 0) 2 (τ 0 2 - 1))) 1 = τ 1 := rfl
    have a2 : (upc (upc τ 2 (shf (τ 2) 980)) 0 (upd (τ 0) 2 (τ 0 2 - 1))) 2 = shf (τ 2) 980 := rfl
    have a0 : (upc (upc τ 2 (shf (τ 2) 980)) 0 (upd (τ 0) 2 (τ 0 2 - 1))) 0 = upd (τ 0) 2 (τ 0 2 - 1) := rfl
    rw [this, a0, a1, a2]
    congr 2
    funext i
    unfold upc
    by_cases i0 : i = 0
    · rw [if_pos i0, if_pos i0]; funext j; unfold upd; split <;> rfl
    · rw [if_neg i0, if_neg i0]
      by_cases i2 : i = 2
      · rw [if_pos i2, if_neg i0, if_pos i2]
      · rw [if_neg i2, if_neg i2, if_neg i0, if_neg i2]
  · rw [if_neg (by rw [h2]; exact fun z => h ((nI_eq (by omega) (b := 6) (by omega)).mp z)), if_neg h]
    unfold F_X7_notes_J50
    rw [m_notes52 (by omega) h2, show min (c + 1) 6 = c + 1 by omega]
theorem m_undo {τ : xM} {c : Nat} (hc : c < 6) (h2 : τ 0 2 = nI (c + 1)) :
    F_X7_undo 0 τ = some (nI c, upc (upc τ 0 (upd (τ 0) 2 (nI c))) 1 (pas (τ 1) (fun j => τ 2 (196 * c + j)) 0 196)) := by
  unfold F_X7_undo
  rw [if_neg (by rw [h2]; exact nI_ne0 (by omega) (by omega)), nm_eq, xup_upc, h2, show nI (c + 1) - 1 = nI c from nI_pred c]
  generalize hτ : upc τ 0 (upd (τ 0) 2 (nI c)) = τ1
  have t0 : τ1 0 2 = nI c := by rw [← hτ, upc_same, upd_same]
  have t1 : τ1 1 = τ 1 := by rw [← hτ, upc_ne (by omega)]
  have t2 : τ1 2 = τ 2 := by rw [← hτ, upc_ne (by omega)]
  have e := loop_up (F := fun N i w => F_X7_undo_L22 0 N (nI i) (upc τ1 1 w)) (f := fun i w => upd w (0 + i) (τ1 2 (196 * c + i))) (fin := fun w => some (nI c, upc τ1 1 w)) (I := fun _ _ => True) 196 ?_ ?_ 196 0 (τ1 1) FU (by omega) trivial (by rw [FU_eq]; omega)
  · have e1 := e.1
    try simp only at e1
    rw [upc_self, itr_pas (g := fun i => τ1 2 (196 * c + i)), t1, t2] at e1
    exact e1
  · intro N i w hi _
    refine ⟨?_, trivial⟩
    show F_X7_undo_L22 0 (N + 1) (nI i) (upc τ1 1 w) = _
    have ex : (196 * (upc τ1 1 w) 0 2) + nI i = nI (196 * c + i) := by
      rw [upc_ne (by omega), t0]
      show nI 196 * nI c + nI i = _
      rw [nI_mul, nI_add]
    rw [F_X7_undo_L22, if_neg (show ¬ (196 : Int32) ≤ nI i from nI_ge (b := 196) hi (by omega)), ex, if_pos (inb_nI (by omega) (by omega)), if_pos (inb_nI hi (by omega)), nm_eq, cl_nI (by omega), cl_nI (by omega), nI_1, xup_upc]
    simp only [Nat.zero_add]
    rw [upc_same, upc_upc, upc_ne (by omega)]
  · intro N w _
    show F_X7_undo_L22 0 (N + 1) (nI 196) (upc τ1 1 w) = _
    rw [F_X7_undo_L22, if_pos (show (196 : Int32) ≤ nI 196 by decide), upc_ne (by omega), t0]
theorem m_keeps {τ : xM} : F_X7_keeps 0 τ = some ((), upc τ 4 (pas (τ 4) (τ 1) 0 196)) := by
  unfold F_X7_keeps
  have e := loop_up (F := fun N i w => F_X7_keeps_L2 0 N (nI i) (upc τ 4 w)) (f := fun i w => upd w (0 + i) (τ 1 i)) (fin := fun w => some ((), upc τ 4 w)) (I := fun _ _ => True) 196 ?_ ?_ 196 0 (τ 4) FU (by omega) trivial (by rw [FU_eq]; omega)
  · have e1 := e.1
    try simp only at e1
    rw [upc_self, itr_pas] at e1
    exact e1
  · intro N i w hi _
    refine ⟨?_, trivial⟩
    show F_X7_keeps_L2 0 (N + 1) (nI i) (upc τ 4 w) = _
    rw [F_X7_keeps_L2, if_neg (show ¬ (196 : Int32) ≤ nI i from nI_ge (b := 196) hi (by omega)), if_pos (inb_nI hi (by omega)), if_pos (inb_nI hi (by omega)), nm_eq, cl_nI (by omega), nI_1, xup_upc]
    simp only [Nat.zero_add]
    rw [upc_same, upc_upc, upc_ne (by omega)]
  · intro N w _
    show F_X7_keeps_L2 0 (N + 1) (nI 196) (upc τ 4 w) = _
    rw [F_X7_keeps_L2, if_pos (show (196 : Int32) ≤ nI 196 by decide)]
theorem m_restores {τ : xM} : F_X7_restores 0 τ = some ((), upc τ 1 (pas (τ 1) (τ 4) 0 196)) := by
  unfold F_X7_restores
  have e := loop_up (F := fun N i w => F_X7_restores_L2 0 N (nI i) (upc τ 1 w)) (f := fun i w => upd w (0 + i) (τ 4 i)) (fin := fun w => some ((), upc τ 1 w)) (I := fun _ _ => True) 196 ?_ ?_ 196 0 (τ 1) FU (by omega) trivial (by rw [FU_eq]; omega)
  · have e1 := e.1
    try simp only at e1
    rw [upc_self, itr_pas] at e1
    exact e1
  · intro N i w hi _
    refine ⟨?_, trivial⟩
    show F_X7_restores_L2 0 (N + 1) (nI i) (upc τ 1 w) = _
    rw [F_X7_restores_L2, if_neg (show ¬ (196 : Int32) ≤ nI i from nI_ge (b := 196) hi (by omega)), if_pos (inb_nI hi (by omega)), if_pos (inb_nI hi (by omega)), nm_eq, cl_nI (by omega), nI_1, xup_upc]
    simp only [Nat.zero_add]
    rw [upc_same, upc_upc, upc_ne (by omega)]
  · intro N w _
    show F_X7_restores_L2 0 (N + 1) (nI 196) (upc τ 1 w) = _
    rw [F_X7_restores_L2, if_pos (show (196 : Int32) ≤ nI 196 by decide)]
