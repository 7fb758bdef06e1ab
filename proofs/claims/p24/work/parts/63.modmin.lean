/-! a minute of the reference -/
theorem ixl_eq (r i : Nat) : (34 + (6 * nI r)) + nI i = nI (34 + 6 * r + i) := by
  show (nI 34 + nI 6 * nI r) + nI i = _
  rw [pk_mul, nI_add, nI_add]
def gonS (s W : Nat → Int32) (r : Nat) (i : Nat) (g : Int32) : Int32 := g + (s (34 + 6 * r + i) * (W r - W i)) / 1000
def gon (s W : Nat → Int32) (n r : Nat) : Int32 := itr (gonS s W r) n 0 0
def hea (v : Nat → Int32) : Int32 := if v 7 = 1 then (if v 14 = 0 then v 2 else 0) else 0
def lkg (v : Nat → Int32) (w a : Int32) : Int32 := (v 3 * (w - a)) / 1000
def flowV (v : Nat → Int32) (h lk g : Int32) : Nat → Int32 := upd (upd (upd (upd v 1 (v 1 + ((h - lk) - g))) 17 (v 17 + h)) 18 (v 18 + lk)) 19 (v 19 + g)
theorem m_fl59 {τ : xM} {r n : Nat} {v : Nat → Int32} {h lk : Int32} (hr : r < 6) (hn : n ≤ 6) (h7 : τ 1 7 = nI n) :
    F_X7_flows_L59 0 FU (nI r) h lk 0 0 (stm τ r v) = some ((), stm τ r (flowV v h lk (gon (τ 1) (τ 6) n r))) := by
  have e := loop_up (F := fun N i g => F_X7_flows_L59 0 N (nI r) h lk g (nI i) (stm τ r v)) (f := gonS (τ 1) (τ 6) r) (fin := fun g => some ((), stm τ r (flowV v h lk g))) (I := fun _ _ => True) n ?_ ?_ n 0 0 FU (by omega) trivial (by rw [FU_eq]; omega)
  · exact e.1
  · intro N i g hi _
    refine ⟨?_, trivial⟩
    show F_X7_flows_L59 0 (N + 1) (nI r) h lk g (nI i) (stm τ r v) = _
    rw [F_X7_flows_L59]
    rw [if_pos inl7, Nat.zero_add, cll7, stm_lo (by omega), h7, if_neg (nI_ge hi (by omega)), ixl_eq, if_pos (inb_nI (by omega) (by omega)), if_pos (inb_nI (by omega) (by omega)), if_pos (inb_nI (by omega) (by omega)), nm_eq, cl_nI (by omega), cl_nI (by omega), cl_nI (by omega), stm_lo (by omega), stm_ne (by omega), nI_1]
    rfl
  · intro N g _
    show F_X7_flows_L59 0 (N + 1) (nI r) h lk g (nI n) (stm τ r v) = _
    rw [F_X7_flows_L59]
    rw [if_pos inl7, Nat.zero_add, cll7, stm_lo (by omega), h7, if_pos (nI_le (Nat.le_refl n) (by omega))]
    simp only [grows_st1 hr, grows_st17 hr, grows_st18 hr, grows_st19 hr, bd_some]
    simp only [upd_same, upd_ne, ne_eq, Nat.reduceEqDiff, not_false_eq_true, flowV]
theorem m_flows {τ : xM} {r n : Nat} {v : Nat → Int32} {A : Int32} (hr : r < 6) (hn : n ≤ 6) (h7 : τ 1 7 = nI n) :
    F_X7_flows 0 (nI r) A (stm τ r v) = some ((), stm τ r (flowV v (hea v) (lkg v (τ 6 r) A) (gon (τ 1) (τ 6) n r))) := by
  have key : ∀ y : Int32, F_X7_flows_J31 0 (nI r) A y (stm τ r v) = some ((), stm τ r (flowV v y (lkg v (τ 6 r) A) (gon (τ 1) (τ 6) n r))) := by
    intro y
    simp only [F_X7_flows_J31, of_st3 hr, bd_some, if_pos (inb_nI (show r < 6 from hr) (by omega)), nm_eq, Nat.zero_add, cl_nI (show r < 2 ^ 31 by omega), stm_ne (show 6 ≠ 1 by omega), m_fl59 hr hn h7]
    rfl
  simp only [F_X7_flows, F_X7_flows_J30, of_st7 hr, of_st14 hr, of_st2 hr, bd_some, key]
  unfold hea
  by_cases h1 : v 7 = 1 <;> by_cases h2 : v 14 = 0 <;> simp [h1, h2]
/-- the temperatures of the rooms at the beginning of a minute -/
def tmp (s : Nat → Int32) (r : Nat) : Int32 := degI (vw s r 1) (vw s r 0)
def airI (s : Nat → Int32) (m : Int32) (i : Nat) : Int32 := (1000 * s (9 + 2 * i)) + (((1000 * (s (11 + 2 * i) - s (9 + 2 * i))) * (m - s (8 + 2 * i))) / (s (10 + 2 * i) - s (8 + 2 * i)))
def airF (s : Nat → Int32) (m : Int32) (p : Nat) : Nat → Nat → Int32
  | 0, _ => if p = 0 then 0 else 1000 * s (9 + 2 * p)
  | d + 1, i => if m < s (10 + 2 * i) then (if i = 0 then 1000 * s 11 else airI s m i) else airF s m p d (i + 1)
def airS (s : Nat → Int32) (p : Nat) (m : Int32) : Int32 := airF s m p p 0
/-- the points' minutes rise -/
def Ris (s : Nat → Int32) (p : Nat) : Prop := ∀ i, i + 1 < p → ¬ s (10 + 2 * (i + 1)) - s (10 + 2 * i) = 0
theorem m_air {τ : xM} {p : Nat} {m : Int32} (hp : p ≤ 12) (h9 : τ 1 9 = nI p) (hR : Ris (τ 1) p) : F_X7_air 0 m τ = some (airS (τ 1) p m, τ) := by
  have j51 : ∀ i : Nat, (i = 0 ∨ i = p) → 0 < p → F_X7_air_J51 0 (nI p) (nI i) τ = some (if i = 0 then 1000 * τ 1 11 else 1000 * τ 1 (9 + 2 * p), τ) := by
    intro i hi hp0
    unfold F_X7_air_J51
    by_cases h0 : i = 0
    · subst h0
      rw [if_pos nI_0, if_pos (by decide), if_pos rfl]
      rfl
    · have hip : i = p := by rcases hi with h | h; exact absurd h h0; exact h
      subst hip
      have e : (10 + (2 * (nI i - 1))) + 1 = nI (9 + 2 * i) := by
        show (nI 10 + nI 2 * (nI i - nI 1)) + nI 1 = _
        rw [pk_sub (by omega), pk_mul, nI_add, nI_add]
        congr 1; omega
      rw [if_neg (nI_ne0 (by omega) (by omega)), if_neg h0, e, if_pos (inb_nI (by omega) (by omega)), cl_nI (by omega)]
  have j36 : ∀ i : Nat, i ≤ p → F_X7_air_J36 0 m (nI p) (nI i) τ = some (if p = 0 then 0 else if i = 0 then 1000 * τ 1 11 else if i = p then 1000 * τ 1 (9 + 2 * p) else airI (τ 1) m i, τ) := by
    intro i hi
    unfold F_X7_air_J36
    by_cases hp0 : p = 0
    · subst hp0
      rw [if_pos nI_0, if_pos rfl]
    · rw [if_neg (nI_ne0 (by omega) (by omega)), if_neg hp0]
      by_cases h0 : i = 0
      · subst h0
        rw [if_pos nI_0, j51 0 (Or.inl rfl) (by omega), if_pos rfl]
        rfl
      · rw [if_neg (nI_ne0 (by omega) (by omega)), if_neg h0]
        by_cases hip : i = p
        · subst hip
          rw [if_pos rfl, j51 i (Or.inr rfl) (by omega), if_neg h0, if_pos rfl]
        · have e : (10 + (2 * nI i)) - 2 = nI (8 + 2 * i) := by
            show (nI 10 + nI 2 * nI i) - nI 2 = _
            rw [pk_mul, nI_add, pk_sub (by omega)]
            congr 1; omega
          have e1 : nI (8 + 2 * i) + 1 = nI (9 + 2 * i) := by rw [nI_1]; congr 1; omega
          have e2 : nI (8 + 2 * i) + 2 = nI (10 + 2 * i) := by show nI (8 + 2 * i) + nI 2 = _; rw [nI_add]; congr 1; omega
          have e3 : nI (8 + 2 * i) + 3 = nI (11 + 2 * i) := by show nI (8 + 2 * i) + nI 3 = _; rw [nI_add]; congr 1; omega
          have hne : ¬ τ 1 (10 + 2 * i) - τ 1 (8 + 2 * i) = 0 := by
            have := hR (i - 1) (by omega)
            rw [show i - 1 + 1 = i by omega, show 10 + 2 * (i - 1) = 8 + 2 * i by omega] at this
            exact this
          rw [if_neg (fun h => hip ((nI_eq (by omega) (by omega)).mp h)), if_neg hip, nm_eq, e, e1, e2, e3]
          rw [if_pos (inb_nI (by omega) (by omega)), if_pos (inb_nI (by omega) (by omega)), if_pos (inb_nI (by omega) (by omega)), if_pos (inb_nI (by omega) (by omega)), if_pos (inb_nI (by omega) (by omega)), if_pos (inb_nI (by omega) (by omega))]
          rw [cl_nI (by omega), cl_nI (by omega), cl_nI (by omega), cl_nI (by omega), Nat.zero_add, if_neg hne]
          rfl
  have loop : ∀ d i N, i + d = p → d < N → F_X7_air_L10 0 N m (nI p) (nI i) τ = some (airF (τ 1) m p d i, τ) := by
    intro d
    induction d with
    | zero =>
      intro i N hi hN
      obtain ⟨N, rfl⟩ : ∃ M, N = M + 1 := ⟨N - 1, by omega⟩
      obtain rfl : i = p := by omega
      rw [F_X7_air_L10, if_pos (nI_le (Nat.le_refl i) (by omega)), j36 i (Nat.le_refl i), airF]
      by_cases h0 : i = 0
      · simp [h0]
      · simp [h0]
    | succ d ih =>
      intro i N hi hN
      obtain ⟨N, rfl⟩ : ∃ M, N = M + 1 := ⟨N - 1, by omega⟩
      have e : 10 + 2 * nI i = nI (10 + 2 * i) := by
        show nI 10 + nI 2 * nI i = _
        rw [pk_mul, nI_add]
      rw [F_X7_air_L10, if_neg (nI_ge (by omega) (by omega)), e, if_pos (inb_nI (by omega) (by omega)), cl_nI (by omega), Nat.zero_add, airF]
      by_cases h : m < τ 1 (10 + 2 * i)
      · rw [if_pos h, if_pos h, j36 i (by omega), if_neg (show ¬ p = 0 by omega)]
        by_cases h0 : i = 0
        · simp [h0]
        · rw [if_neg h0, if_neg (show ¬ i = p by omega), if_neg h0]
      · rw [if_neg h, if_neg h, nI_1]
        exact ih (i + 1) N (by omega) (by omega)
  unfold F_X7_air
  rw [if_pos inl9, nm_eq, cll9, Nat.zero_add, h9]
  exact loop p 0 FU (by omega) (by rw [FU_eq]; omega)
