/-! what the reading calls answer, by the row -/
def rV (v : Nat → Int32) (w : Nat) : Int32 := if w = 0 then degI (v 1) (v 0) else if w = 1 then v 1 else if w = 12 then v 4 else if w = 13 then v 5 else v (w + 4)
def susV (s : Nat → Int32) (r : Nat) : Int32 := if vw s r 13 < s 6 then 0 else 1
def cV (s : Nat → Int32) (n k : Nat) : Int32 := if k = 10 then sm (susV s) n else if k = 11 then sm (fun r => vw s r 12) n else s k
def lV (s : Nat → Int32) (r k : Nat) : Int32 := if r = k then -1000001 else s (34 + 6 * r + k)
theorem in_nI {w A : Nat} {a : Int32} (ha : a = nI A) (h : w ≤ A) (hA : A < 2 ^ 31) : ¬ bz (inW (nI w) 0 a) = 0 := by
  intro q
  have := inW_2 q
  rw [ha, nI_toInt (by omega), nI_toInt (by omega), show (0 : Int32).toInt = 0 by decide] at this
  omega
theorem isRoom_in {τ : xM} {n r : Nat} (hn : n ≤ 6) (h7 : τ 1 7 = nI n) (hr : r < n) : F_X7_isRoom 0 (nI r) τ = some (1, τ) := by
  rw [m_isRoom, h7]
  rcases room_cases hn (nI r) with ⟨r', hr', e, e1⟩ | ⟨hx, e1⟩
  · rw [e1]
  · exfalso
    rcases hx with q | q
    · exact nI_pos (by omega) q
    · exact nI_ge hr (by omega) q
theorem g_room {τ : xM} {n p t r w : Nat} (I : Inv (τ 1) n p t) (hr : r < n) (hw : w < 14) : F_X7_room 0 (nI r) (nI w) τ = some (rV (vw (τ 1) r) w, τ) := by
  have hn := I.1
  have r6 : r < 6 := by omega
  have cap := (inv_fit I).2.1 r hr
  unfold F_X7_room
  rw [isRoom_in hn I.2.2.1 hr, bd_some]
  dsimp only
  rw [if_neg bz1n, m_in, bd_some]
  dsimp only
  rw [if_neg (in_nI (w := w) (a := 13) (A := 13) rfl (by omega) (by omega))]
  unfold rV
  by_cases h0 : w = 0
  · subst h0
    rw [if_pos nI_0, if_pos rfl, tempS r6 (ne0_of cap), bd_some]
  rw [if_neg (nI_ne0 (by omega) (by omega)), if_neg h0]
  by_cases h1 : w = 1
  · subst h1
    rw [if_pos (show nI 1 = 1 from rfl), if_pos rfl, show (1 : Int32) = nI 1 from rfl, ofS r6 (by omega), bd_some]
  rw [if_neg (show ¬ nI w = 1 from fun z => h1 ((nI_eq (b := 1) (by omega) (by omega)).mp z)), if_neg h1]
  by_cases h2 : w = 12
  · subst h2
    rw [if_pos (show nI 12 = 12 from rfl), if_pos rfl, show (4 : Int32) = nI 4 from rfl, ofS r6 (by omega), bd_some]
  rw [if_neg (show ¬ nI w = 12 from fun z => h2 ((nI_eq (b := 12) (by omega) (by omega)).mp z)), if_neg h2]
  by_cases h3 : w = 13
  · subst h3
    rw [if_pos (show nI 13 = 13 from rfl), if_pos rfl, show (5 : Int32) = nI 5 from rfl, ofS r6 (by omega), bd_some]
  rw [if_neg (show ¬ nI w = 13 from fun z => h3 ((nI_eq (b := 13) (by omega) (by omega)).mp z)), if_neg h3]
  have e : ((6 : Int32) + nI w) - 2 = nI (w + 4) := by
    show (nI 6 + nI w) - nI 2 = _
    rw [nI_add, pk_sub (by omega)]
    congr 1; omega
  rw [e, ofS r6 (by omega), bd_some]
theorem g_book {τ : xM} {n p t r w : Nat} (I : Inv (τ 1) n p t) (hr : r < n) (hw : w < 5) : F_X7_book 0 (nI r) (nI w) τ = some (vw (τ 1) r (16 + w), τ) := by
  have hn := I.1
  have r6 : r < 6 := by omega
  unfold F_X7_book
  rw [isRoom_in hn I.2.2.1 hr, bd_some]
  dsimp only
  rw [if_neg bz1n, m_in, bd_some]
  dsimp only
  rw [if_neg (in_nI (w := w) (a := 4) (A := 4) rfl (by omega) (by omega))]
  have e : (16 : Int32) + nI w = nI (16 + w) := by show nI 16 + nI w = _; rw [nI_add]
  rw [e, ofS r6 (by omega), bd_some]
theorem g_link {τ : xM} {n p t r k : Nat} (I : Inv (τ 1) n p t) (hr : r < n) (hk : k < n) : F_X7_link 0 (nI r) (nI k) τ = some (lV (τ 1) r k, τ) := by
  have hn := I.1
  unfold F_X7_link F_X7_areRooms lV
  rw [isRoom_in hn I.2.2.1 hr, bd_some]
  dsimp only
  rw [if_neg bz1n, isRoom_in hn I.2.2.1 hk, bd_some]
  dsimp only
  rw [if_neg bz1n]
  by_cases h : r = k
  · subst h
    rw [if_pos rfl, if_pos rfl, bd_some]
    dsimp only
    rw [if_pos bz_0]
  · rw [if_neg (fun z => h ((nI_eq (by omega) (by omega)).mp z)), if_neg h, bd_some]
    dsimp only
    rw [if_neg bz1n, lk_nI, if_pos (inb_nI (by omega) (by omega)), cl_nI (by omega)]
theorem g_sus {τ : xM} {r : Nat} (hr : r < 6) : F_X7_isSuspect 0 (nI r) τ = some (susV (τ 1) r, τ) := by
  unfold F_X7_isSuspect susV
  rw [show (13 : Int32) = nI 13 from rfl, ofS hr (by omega), bd_some, if_pos inl6, Nat.zero_add, cll6]
  dsimp only
  by_cases h : vw (τ 1) r 13 < τ 1 6
  · rw [if_pos h, if_pos h]
  · rw [if_neg h, if_neg h]
theorem sus_01 {s : Nat → Int32} {r : Nat} : susV s r = 0 ∨ susV s r = 1 := by
  unfold susV
  split
  · exact Or.inl rfl
  · exact Or.inr rfl
theorem g_L34 {τ : xM} {n p t : Nat} (I : Inv (τ 1) n p t) : ∀ d i N v, i + d = n → d < N → v = sm (susV (τ 1)) i → F_X7_count_L34 0 N v (nI i) τ = some (sm (susV (τ 1)) n, τ) := by
  have hn := I.1
  have h7 := I.2.2.1
  intro d
  induction d with
  | zero =>
    intro i N v hi hN hv
    obtain ⟨N, rfl⟩ : ∃ M, N = M + 1 := ⟨N - 1, by omega⟩
    obtain rfl : i = n := by omega
    rw [F_X7_count_L34, if_pos inl7, Nat.zero_add, cll7, h7, if_pos (nI_le (Nat.le_refl i) (by omega)), hv]
  | succ d ih =>
    intro i N v hi hN hv
    obtain ⟨N, rfl⟩ : ∃ M, N = M + 1 := ⟨N - 1, by omega⟩
    rw [F_X7_count_L34, if_pos inl7, Nat.zero_add, cll7, h7, if_neg (nI_ge (by omega) (by omega)), g_sus (by omega), bd_some]
    dsimp only
    rcases sus_01 (s := τ 1) (r := i) with z | z
    · rw [z, if_pos bz_0, nm_eq, nI_1]
      exact ih (i + 1) N _ (by omega) (by omega) (by rw [sm, z, hv])
    · rw [z, if_neg bz1n, nm_eq, nI_1]
      exact ih (i + 1) N _ (by omega) (by omega) (by rw [sm, z, hv])
theorem g_L71 {τ : xM} {n p t : Nat} (I : Inv (τ 1) n p t) : ∀ d i N v, i + d = n → d < N → v = sm (fun r => vw (τ 1) r 12) i → F_X7_count_L71 0 N v (nI i) τ = some (sm (fun r => vw (τ 1) r 12) n, τ) := by
  have hn := I.1
  have h7 := I.2.2.1
  intro d
  induction d with
  | zero =>
    intro i N v hi hN hv
    obtain ⟨N, rfl⟩ : ∃ M, N = M + 1 := ⟨N - 1, by omega⟩
    obtain rfl : i = n := by omega
    rw [F_X7_count_L71, if_pos inl7, Nat.zero_add, cll7, h7, if_pos (nI_le (Nat.le_refl i) (by omega)), hv]
  | succ d ih =>
    intro i N v hi hN hv
    obtain ⟨N, rfl⟩ : ∃ M, N = M + 1 := ⟨N - 1, by omega⟩
    rw [F_X7_count_L71, if_pos inl7, Nat.zero_add, cll7, h7, if_neg (nI_ge (by omega) (by omega)), show (12 : Int32) = nI 12 from rfl, ofS (by omega) (by omega), bd_some]
    dsimp only
    rw [nm_eq, nI_1]
    exact ih (i + 1) N _ (by omega) (by omega) (by rw [sm, hv])
theorem g_count {τ : xM} {n p t k : Nat} (I : Inv (τ 1) n p t) (hk : k < 12) : F_X7_count 0 (nI k) τ = some (cV (τ 1) n k, τ) := by
  unfold F_X7_count cV
  by_cases h10 : k = 10
  · subst h10
    rw [if_pos (show nI 10 = 10 from rfl), if_pos rfl]
    have := g_L34 I n 0 FU 0 (by omega) (by have := I.1; rw [FU_eq]; omega) rfl
    rw [nI_0] at this
    exact this
  rw [if_neg (show ¬ nI k = 10 from fun z => h10 ((nI_eq (b := 10) (by omega) (by omega)).mp z)), if_neg h10]
  by_cases h11 : k = 11
  · subst h11
    rw [if_pos (show nI 11 = 11 from rfl), if_pos rfl]
    have := g_L71 I n 0 FU 0 (by omega) (by have := I.1; rw [FU_eq]; omega) rfl
    rw [nI_0] at this
    exact this
  rw [if_neg (show ¬ nI k = 11 from fun z => h11 ((nI_eq (b := 11) (by omega) (by omega)).mp z)), if_neg h11, if_neg (show ¬ nI k = 12 from fun z => absurd ((nI_eq (b := 12) (by omega) (by omega)).mp z) (by omega)), if_neg (show ¬ nI k = 13 from fun z => absurd ((nI_eq (b := 13) (by omega) (by omega)).mp z) (by omega)), m_in, bd_some]
  dsimp only
  rw [if_neg (in_nI (w := k) (a := 9) (A := 9) rfl (by omega) (by omega)), if_pos (inb_nI (by omega) (by omega)), Nat.zero_add, cl_nI (by omega)]
theorem g_count13 {τ : xM} : F_X7_count 0 13 τ = some (τ 0 2, τ) := by
  unfold F_X7_count
  rw [if_neg (by decide), if_neg (by decide), if_neg (by decide), if_pos rfl]
/-! the class answers so -/
theorem by_ghost {A B : xM → Option (Int32 × xM)} {σ τ τ2 : xM} {z : Int32} (op : OpS A B) (hG : GG σ τ) (e : B τ = some (z, τ2)) : ∃ σ', A σ = some (z, σ') ∧ GG σ' τ2 := by
  obtain ⟨r, σ', τ', e1, e2, h⟩ := op σ τ hG
  rw [e] at e2
  cases e2
  exact ⟨σ', e1, h⟩
theorem r_room {σ τ : xM} {n p t r w : Nat} (hG : GG σ τ) (I : Inv (τ 1) n p t) (hr : r < n) (hw : w < 14) : ∃ σ', F_X6_room 0 (nI r) (nI w) σ = some (rV (vw (τ 1) r) w, σ') ∧ GG σ' τ := by_ghost op_room hG (g_room I hr hw)
theorem r_book {σ τ : xM} {n p t r w : Nat} (hG : GG σ τ) (I : Inv (τ 1) n p t) (hr : r < n) (hw : w < 5) : ∃ σ', F_X6_book 0 (nI r) (nI w) σ = some (vw (τ 1) r (16 + w), σ') ∧ GG σ' τ := by_ghost op_book hG (g_book I hr hw)
theorem r_link {σ τ : xM} {n p t r k : Nat} (hG : GG σ τ) (I : Inv (τ 1) n p t) (hr : r < n) (hk : k < n) : ∃ σ', F_X6_link 0 (nI r) (nI k) σ = some (lV (τ 1) r k, σ') ∧ GG σ' τ := by_ghost op_link hG (g_link I hr hk)
theorem r_count {σ τ : xM} {n p t k : Nat} (hG : GG σ τ) (I : Inv (τ 1) n p t) (hk : k < 12) : ∃ σ', F_X6_count 0 (nI k) σ = some (cV (τ 1) n k, σ') ∧ GG σ' τ := by_ghost op_count hG (g_count I hk)
theorem r_count7 {σ τ : xM} {n p t : Nat} (hG : GG σ τ) (I : Inv (τ 1) n p t) : ∃ σ', F_X6_count 0 7 σ = some (nI n, σ') ∧ GG σ' τ := by
  obtain ⟨σ', e, h⟩ := r_count (k := 7) hG I (by omega)
  rw [show cV (τ 1) n 7 = τ 1 7 from rfl, I.2.2.1] at e
  exact ⟨σ', e, h⟩
theorem r_count13 {σ τ : xM} (hG : GG σ τ) : ∃ σ', F_X6_count 0 13 σ = some (τ 0 2, σ') ∧ GG σ' τ := by_ghost op_count hG g_count13
/-! the tale -/
def tA (s : Nat → Int32) (n : Nat) (k : Nat) (a : Int64) : Int64 := a * 31 + (cV s n k).toInt64
def tB (s : Nat → Int32) (r w : Nat) (a : Int64) : Int64 := a * 37 + (rV (vw s r) w).toInt64
def tC (s : Nat → Int32) (r w : Nat) (a : Int64) : Int64 := a * 41 + (vw s r (16 + w)).toInt64
def tD (s : Nat → Int32) (r k : Nat) (a : Int64) : Int64 := a * 43 + (lV s r k).toInt64
def tR (s : Nat → Int32) (n r : Nat) (a : Int64) : Int64 := itr (tD s r) n 0 (itr (tC s r) 5 0 (itr (tB s r) 14 0 a))
def TL (s : Nat → Int32) (n : Nat) : Int64 := itr (tR s n) n 0 (itr (tA s n) 12 0 3)
section TALE
variable {τ : xM} {n p t : Nat}
theorem t_46 (I : Inv (τ 1) n p t) {r : Nat} (hr : r < n) : ∀ d i N a σ, i + d = 14 → GG σ τ → ∃ σ', F_L_tale_LL 0 (N + d + 1) 46 a (nI r) (nI i) σ = F_L_tale_LL 0 N 77 (itr (tB (τ 1) r) d i a) (nI r) 0 σ' ∧ GG σ' τ := by
  intro d
  induction d with
  | zero =>
    intro i N a σ hi hG
    obtain rfl : i = 14 := by omega
    refine ⟨σ, ?_, hG⟩
    rw [Nat.add_zero, F_L_tale_LL, if_neg (by decide), if_pos rfl, if_pos (show (14 : Int32) ≤ nI 14 by decide)]
    rfl
  | succ d ih =>
    intro i N a σ hi hG
    obtain ⟨σ1, e1, hG1⟩ := r_room (w := i) hG I hr (by omega)
    obtain ⟨σ2, e2, hG2⟩ := ih (i + 1) N (tB (τ 1) r i a) σ1 (by omega) hG1
    refine ⟨σ2, ?_, hG2⟩
    rw [show N + (d + 1) + 1 = (N + d + 1) + 1 by omega, F_L_tale_LL, if_neg (by decide), if_pos rfl, if_neg (show ¬ (14 : Int32) ≤ nI i from nI_ge (b := 14) (by omega) (by omega)), e1, bd_some, nm_eq, nI_1]
    exact e2
theorem t_77 (I : Inv (τ 1) n p t) {r : Nat} (hr : r < n) : ∀ d i N a σ, i + d = 5 → GG σ τ → ∃ σ', F_L_tale_LL 0 (N + d + 1) 77 a (nI r) (nI i) σ = F_L_tale_LL 0 N 107 (itr (tC (τ 1) r) d i a) (nI r) 0 σ' ∧ GG σ' τ := by
  intro d
  induction d with
  | zero =>
    intro i N a σ hi hG
    obtain rfl : i = 5 := by omega
    refine ⟨σ, ?_, hG⟩
    rw [Nat.add_zero, F_L_tale_LL, if_neg (by decide), if_neg (by decide), if_pos rfl, if_pos (show (5 : Int32) ≤ nI 5 by decide)]
    rfl
  | succ d ih =>
    intro i N a σ hi hG
    obtain ⟨σ1, e1, hG1⟩ := r_book (w := i) hG I hr (by omega)
    obtain ⟨σ2, e2, hG2⟩ := ih (i + 1) N (tC (τ 1) r i a) σ1 (by omega) hG1
    refine ⟨σ2, ?_, hG2⟩
    rw [show N + (d + 1) + 1 = (N + d + 1) + 1 by omega, F_L_tale_LL, if_neg (by decide), if_neg (by decide), if_pos rfl, if_neg (show ¬ (5 : Int32) ≤ nI i from nI_ge (b := 5) (by omega) (by omega)), e1, bd_some, nm_eq, nI_1]
    exact e2
theorem t_107 (I : Inv (τ 1) n p t) {r : Nat} (hr : r < n) : ∀ d i N a σ, i + d = n → GG σ τ → ∃ σ', F_L_tale_LL 0 (N + d + 1) 107 a (nI r) (nI i) σ = F_L_tale_LL 0 N 33 (itr (tD (τ 1) r) d i a) (nI (r + 1)) 0 σ' ∧ GG σ' τ := by
  have hn := I.1
  intro d
  induction d with
  | zero =>
    intro i N a σ hi hG
    obtain ⟨σ1, e1, hG1⟩ := r_count7 hG I
    obtain rfl : i = n := by omega
    refine ⟨σ1, ?_, hG1⟩
    rw [Nat.add_zero, F_L_tale_LL, if_neg (by decide), if_neg (by decide), if_neg (by decide), e1, bd_some]
    dsimp only
    rw [if_pos (nI_le (Nat.le_refl i) (by omega)), nI_1]
    rfl
  | succ d ih =>
    intro i N a σ hi hG
    obtain ⟨σ1, e1, hG1⟩ := r_count7 hG I
    obtain ⟨σ2, e2, hG2⟩ := r_link (k := i) hG1 I hr (by omega)
    obtain ⟨σ3, e3, hG3⟩ := ih (i + 1) N (tD (τ 1) r i a) σ2 (by omega) hG2
    refine ⟨σ3, ?_, hG3⟩
    rw [show N + (d + 1) + 1 = (N + d + 1) + 1 by omega, F_L_tale_LL, if_neg (by decide), if_neg (by decide), if_neg (by decide), e1, bd_some]
    dsimp only
    rw [if_neg (nI_ge (by omega) (by omega)), e2, bd_some, nm_eq, nI_1]
    exact e3
theorem t_33 (I : Inv (τ 1) n p t) : ∀ d i N a σ, i + d = n → GG σ τ → ∃ σ', F_L_tale_LL 0 (N + (n + 23) * d + 1) 33 a (nI i) 0 σ = some (itr (tR (τ 1) n) d i a, σ') ∧ GG σ' τ := by
  have hn := I.1
  intro d
  induction d with
  | zero =>
    intro i N a σ hi hG
    obtain ⟨σ1, e1, hG1⟩ := r_count7 hG I
    obtain rfl : i = n := by omega
    refine ⟨σ1, ?_, hG1⟩
    rw [F_L_tale_LL, if_pos rfl, e1, bd_some]
    dsimp only
    rw [if_pos (nI_le (Nat.le_refl i) (by omega))]
    rfl
  | succ d ih =>
    intro i N a σ hi hG
    obtain ⟨σ1, e1, hG1⟩ := r_count7 hG I
    obtain ⟨σ2, e2, hG2⟩ := t_46 I (show i < n by omega) 14 0 (N + (n + 23) * d + 1 + (n + 1) + 6) a σ1 (by omega) hG1
    obtain ⟨σ3, e3, hG3⟩ := t_77 I (show i < n by omega) 5 0 (N + (n + 23) * d + 1 + (n + 1)) (itr (tB (τ 1) i) 14 0 a) σ2 (by omega) hG2
    obtain ⟨σ4, e4, hG4⟩ := t_107 I (show i < n by omega) n 0 (N + (n + 23) * d + 1) (itr (tC (τ 1) i) 5 0 (itr (tB (τ 1) i) 14 0 a)) σ3 (by omega) hG3
    obtain ⟨σ5, e5, hG5⟩ := ih (i + 1) N (tR (τ 1) n i a) σ4 (by omega) hG4
    refine ⟨σ5, ?_, hG5⟩
    rw [nI_0] at e2 e3 e4
    have hm : (n + 23) * (d + 1) = (n + 23) * d + (n + 23) := by rw [Nat.mul_add, Nat.mul_one]
    rw [hm, F_L_tale_LL, if_pos rfl, e1, bd_some]
    dsimp only
    rw [if_neg (nI_ge (by omega) (by omega)), show N + ((n + 23) * d + (n + 23)) = N + (n + 23) * d + 1 + (n + 1) + 6 + 14 + 1 by omega, e2, show N + (n + 23) * d + 1 + (n + 1) + 6 = N + (n + 23) * d + 1 + (n + 1) + 5 + 1 by omega, e3, show N + (n + 23) * d + 1 + (n + 1) = N + (n + 23) * d + 1 + n + 1 by omega, e4]
    exact e5
theorem t_6 (I : Inv (τ 1) n p t) : ∀ d i N a σ, i + d = 12 → d < N → GG σ τ → ∃ σ', F_L_tale_L6 0 N a (nI i) σ = some (itr (tR (τ 1) n) n 0 (itr (tA (τ 1) n) d i a), σ') ∧ GG σ' τ := by
  have hn := I.1
  intro d
  induction d with
  | zero =>
    intro i N a σ hi hN hG
    obtain ⟨N, rfl⟩ : ∃ M, N = M + 1 := ⟨N - 1, by omega⟩
    obtain rfl : i = 12 := by omega
    have hm : (n + 23) * n ≤ 29 * 6 := Nat.mul_le_mul (by omega) hn
    obtain ⟨σ1, e1, hG1⟩ := t_33 I n 0 (FU - (n + 23) * n - 1) a σ (by omega) hG
    refine ⟨σ1, ?_, hG1⟩
    rw [F_L_tale_L6, if_pos (show (12 : Int32) ≤ nI 12 by decide)]
    rw [show FU - (n + 23) * n - 1 + (n + 23) * n + 1 = FU by rw [FU_eq]; omega, nI_0] at e1
    exact e1
  | succ d ih =>
    intro i N a σ hi hN hG
    obtain ⟨N, rfl⟩ : ∃ M, N = M + 1 := ⟨N - 1, by omega⟩
    obtain ⟨σ1, e1, hG1⟩ := r_count (k := i) hG I (by omega)
    obtain ⟨σ2, e2, hG2⟩ := ih (i + 1) N (tA (τ 1) n i a) σ1 (by omega) (by omega) hG1
    refine ⟨σ2, ?_, hG2⟩
    rw [F_L_tale_L6, if_neg (show ¬ (12 : Int32) ≤ nI i from nI_ge (b := 12) (by omega) (by omega)), e1, bd_some, nm_eq, nI_1]
    exact e2
theorem r_tale {σ : xM} (hG : GG σ τ) (I : Inv (τ 1) n p t) : ∃ σ', F_L_tale 0 σ = some (TL (τ 1) n, σ') ∧ GG σ' τ := by
  obtain ⟨σ', e, h⟩ := t_6 I 12 0 FU 3 σ (by omega) (by rw [FU_eq]; omega) hG
  rw [nI_0] at e
  exact ⟨σ', e, h⟩
end TALE
/-- the tale speaks of the row's 196 places -/
theorem TL_c {s s' : Nat → Int32} {n : Nat} (hn : n ≤ 6) (e : ∀ j, j < 196 → s' j = s j) : TL s' n = TL s n := by
  have ev : ∀ r f, r < n → f < 21 → vw s' r f = vw s r f := fun r f hr hf => e _ (by omega)
  unfold TL
  have e1 : itr (tA s' n) 12 0 3 = itr (tA s n) 12 0 3 := itr_congr 12 0 3 (fun j u _ hj => by
    unfold tA cV
    by_cases h10 : j = 10
    · rw [if_pos h10, if_pos h10, sm_congr (g := susV s) n (fun i hi => by unfold susV; rw [ev i 13 hi (by omega), e 6 (by omega)])]
    · rw [if_neg h10, if_neg h10]
      by_cases h11 : j = 11
      · rw [if_pos h11, if_pos h11, sm_congr n (fun i hi => ev i 12 hi (by omega))]
      · rw [if_neg h11, if_neg h11, e j (by omega)])
  rw [e1]
  refine itr_congr n 0 _ (fun r u _ hr => ?_)
  unfold tR
  have e2 : itr (tB s' r) 14 0 u = itr (tB s r) 14 0 u := itr_congr 14 0 u (fun j a _ hj => by
    unfold tB rV
    rw [ev r 0 (by omega) (by omega), ev r 1 (by omega) (by omega), ev r 4 (by omega) (by omega), ev r 5 (by omega) (by omega)]
    by_cases h : j < 14 ∧ j + 4 < 21
    · rw [ev r (j + 4) (by omega) (by omega)]
    · omega)
  rw [e2]
  have e3 : ∀ a, itr (tC s' r) 5 0 a = itr (tC s r) 5 0 a := fun a => itr_congr 5 0 a (fun j a _ hj => by
    unfold tC
    rw [ev r (16 + j) (by omega) (by omega)])
  rw [e3]
  exact itr_congr n 0 _ (fun j a _ hj => by
    unfold tD lV
    rw [e _ (by omega)])
