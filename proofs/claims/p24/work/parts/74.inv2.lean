/-- a room's row: bounds; S: what its links sum up to; t: the time -/
def IvF (v : Nat → Int32) (S : Int) (t : Nat) : Prop :=
  (10 ≤ (v 0).toInt ∧ (v 0).toInt ≤ 500) ∧ (1 ≤ (v 2).toInt ∧ (v 2).toInt ≤ 200) ∧ (0 ≤ (v 3).toInt ∧ 2 * ((v 3).toInt + S) ≤ (v 0).toInt) ∧
  (-200000 * (v 0).toInt ≤ 1000 * (v 1).toInt ∧ 1000 * (v 1).toInt < 240001 * (v 0).toInt) ∧ (v 7 = 0 ∨ v 7 = 1) ∧ (v 14 = 0 ∨ v 14 = 1) ∧
  (∃ c : Nat, c ≤ t ∧ v 11 = nI c ∧ ((c = 0 ∧ v 15 = -1000009) ∨ (0 < c ∧ ∃ l : Nat, l ≤ t ∧ v 15 = nI l))) ∧ ∃ f : Nat, f ≤ 100 * t ∧ v 12 = nI f
def IvV (v : Nat → Int32) (S : Int) (t : Nat) : Prop := IvF v S t ∧ (1000 * (v 1).toInt < 200001 * (v 0).toInt ∨ v 14 = 1)
theorem IvF_v {v v' : Nat → Int32} {S : Int} {t : Nat} (h : IvF v S t) (e : ∀ f, f < 21 → v f = v' f) : IvF v' S t := by
  unfold IvF at h ⊢
  rw [← e 0 (by omega), ← e 1 (by omega), ← e 2 (by omega), ← e 3 (by omega), ← e 7 (by omega), ← e 11 (by omega), ← e 12 (by omega), ← e 14 (by omega), ← e 15 (by omega)]
  exact h
theorem IvV_v {v v' : Nat → Int32} {S : Int} {t : Nat} (h : IvV v S t) (e : ∀ f, f < 21 → v f = v' f) : IvV v' S t := by
  refine ⟨IvF_v h.1 e, ?_⟩
  rw [← e 0 (by omega), ← e 1 (by omega), ← e 14 (by omega)]
  exact h.2
def sl (s : Nat → Int32) (r : Nat) : Nat → Int
  | 0 => 0
  | m + 1 => sl s r m + (s (34 + 6 * r + m)).toInt
def IvL (s : Nat → Int32) (n : Nat) : Prop := ∀ a b, a < 6 → b < 6 → (0 ≤ (s (34 + 6 * a + b)).toInt ∧ (s (34 + 6 * a + b)).toInt ≤ 50) ∧ s (34 + 6 * a + b) = s (34 + 6 * b + a) ∧ (a = b → s (34 + 6 * a + b) = 0) ∧ (n ≤ a → s (34 + 6 * a + b) = 0)
def IvW (s : Nat → Int32) (p : Nat) : Prop := p ≤ 12 ∧ s 9 = nI p ∧ (∀ j, j < p → ∃ m : Nat, m ≤ 9999 ∧ s (10 + 2 * j) = nI m) ∧ (∀ j, j + 1 < p → (s (10 + 2 * j)).toInt < (s (10 + 2 * (j + 1))).toInt) ∧ ∀ j, j < p → -40 ≤ (s (11 + 2 * j)).toInt ∧ (s (11 + 2 * j)).toInt ≤ 40
def IvN (s : Nat → Int32) : Prop := (0 ≤ (s 4).toInt ∧ (s 4).toInt ≤ 100) ∧ (s 5).toInt ≤ 90000
def Inv (s : Nat → Int32) (n p t : Nat) : Prop := n ≤ 6 ∧ t ≤ 22000 ∧ s 7 = nI n ∧ s 8 = nI t ∧ IvN s ∧ IvW s p ∧ IvL s n ∧ (∀ r, r < n → IvV (vw s r) (sl s r 6) t) ∧ ∀ r, n ≤ r → r < 6 → ∀ f, f < 21 → vw s r f = 0
theorem sl_b {s : Nat → Int32} {n r : Nat} (hL : IvL s n) (hr : r < 6) : ∀ m, m ≤ 6 → 0 ≤ sl s r m ∧ sl s r m ≤ 50 * (m : Int) ∧ ∀ d, m + d ≤ 6 → sl s r m ≤ sl s r (m + d) := by
  have key : ∀ d m, m + d ≤ 6 → sl s r m ≤ sl s r (m + d) := by
    intro d
    induction d with
    | zero => intro m _; exact Int.le_refl _
    | succ d ih =>
      intro m hm
      have h1 := ih m (by omega)
      have h2 := (hL r (m + d) hr (by omega)).1.1
      rw [show m + (d + 1) = m + d + 1 by omega, sl]
      omega
  intro m
  induction m with
  | zero => intro _; exact ⟨by simp [sl], by simp [sl], fun d hd => key d 0 hd⟩
  | succ m ih =>
    intro hm
    obtain ⟨a, b, _⟩ := ih (by omega)
    obtain ⟨c, d⟩ := (hL r m hr (by omega)).1
    refine ⟨by rw [sl]; omega, by rw [sl]; omega, fun d hd => key d (m + 1) hd⟩
theorem gp_b {s : Nat → Int32} {n r : Nat} {T : Int} (hn : n ≤ 6) (hL : IvL s n) (hr : r < n) (hT : (tmp s r).toInt = T) (hA : ∀ i, i < n → -200000 ≤ (tmp s i).toInt ∧ (tmp s i).toInt ≤ 240000) :
    ∀ m, m ≤ n → -(sl s r m * (240000 - T)) ≤ 1000 * (gp s r m).toInt ∧ 1000 * (gp s r m).toInt ≤ sl s r m * (T + 200000) := by
  have hTb := hA r hr
  rw [hT] at hTb
  intro m
  induction m with
  | zero =>
    intro _
    have : (gp s r 0).toInt = 0 := rfl
    rw [this]
    simp [sl]
  | succ m ih =>
    intro hm
    obtain ⟨h1, h2⟩ := ih (by omega)
    obtain ⟨l0, l1⟩ := (hL r m (by omega) (by omega)).1
    obtain ⟨u0, u1⟩ := hA m (by omega)
    obtain ⟨e1, e2, e3⟩ := flow_i (l := s (34 + 6 * r + m)) (a := tmp s r) (b := tmp s m) (T := T) (U := (tmp s m).toInt) l0 (by omega) hT rfl hTb.1 hTb.2 u0 u1
    obtain ⟨s0, s1, _⟩ := sl_b hL (by omega : r < 6) m (by omega)
    have b1 : sl s r m * (240000 - T) ≤ 300 * 440000 := Int.mul_le_mul (by omega) (by omega) (by omega) (by omega)
    have b2 : sl s r m * (T + 200000) ≤ 300 * 440000 := Int.mul_le_mul (by omega) (by omega) (by omega) (by omega)
    have b3 : (s (34 + 6 * r + m)).toInt * (240000 - T) ≤ 50 * 440000 := Int.mul_le_mul (by omega) (by omega) (by omega) (by omega)
    have b4 : (s (34 + 6 * r + m)).toInt * (T + 200000) ≤ 50 * 440000 := Int.mul_le_mul (by omega) (by omega) (by omega) (by omega)
    have hf : (flo s r m).toInt = ((s (34 + 6 * r + m) * (tmp s r - tmp s m)) / 1000).toInt := rfl
    rw [gp_s, i_add (by rw [hf]; omega) (by rw [hf]; omega), hf, sl, Int.add_mul, Int.add_mul]
    omega
theorem anti_i {s : Nat → Int32} {n : Nat} (hn : n ≤ 6) (hL : IvL s n) (hA : ∀ i, i < n → -200000 ≤ (tmp s i).toInt ∧ (tmp s i).toInt ≤ 240000) : Anti s n := by
  intro i j hi hj
  obtain ⟨l0, l1⟩ := (hL i j (by omega) (by omega)).1
  have hsym := (hL i j (by omega) (by omega)).2.1
  obtain ⟨u0, u1⟩ := hA i hi
  obtain ⟨w0, w1⟩ := hA j hj
  obtain ⟨e1, a1, a2⟩ := flow_i (l := s (34 + 6 * i + j)) (a := tmp s i) (b := tmp s j) l0 (by omega) rfl rfl u0 u1 w0 w1
  obtain ⟨e2, a3, a4⟩ := flow_i (l := s (34 + 6 * i + j)) (a := tmp s j) (b := tmp s i) l0 (by omega) rfl rfl w0 w1 u0 u1
  have b1 : (s (34 + 6 * i + j)).toInt * (240000 - (tmp s i).toInt) ≤ 50 * 440000 := Int.mul_le_mul (by omega) (by omega) (by omega) (by omega)
  have b2 : (s (34 + 6 * i + j)).toInt * ((tmp s i).toInt + 200000) ≤ 50 * 440000 := Int.mul_le_mul (by omega) (by omega) (by omega) (by omega)
  unfold flo
  rw [← hsym]
  refine i_ext ?_
  rw [i_neg (by omega), e1, e2, ← Int.neg_tdiv, ← Int.mul_neg]
  congr 2
  omega
