/-! the weather text: both readers -/
theorem bt_1 : ∀ x, x < 256 → ((bt x = 32 ↔ x = 32) ∧ (bt x = 48 ↔ x = 48) ∧ bt x &&& 255 = nI x ∧ (bz (inW (bt x) 48 57) = 0 ↔ ¬ (48 ≤ x ∧ x ≤ 57)) ∧ (bz (inW (nI x) 48 57) = 0 ↔ ¬ (48 ≤ x ∧ x ≤ 57)) ∧ (48 ≤ x → x ≤ 57 → bt x = nI x)) := by
  unfold bt
  decide +kernel
def PC (m : Nat) (X : Nat → Nat) (pos : Nat) (σ : xM) : Prop := σ 155 1 = nI m ∧ σ 155 2 = nI pos ∧ (∀ i, i < m → σ 156 i = nI (X i))
def PM (m : Nat) (X : Nat → Nat) (pos : Nat) (τ : xM) : Prop := τ 0 4 = nI m ∧ τ 0 8 = nI pos ∧ (∀ i, i < m → τ 3 i = bt (X i))
def FC1 (σ σ' : xM) : Prop := (∀ i, i ≠ 155 → σ' i = σ i) ∧ ∀ j, j ≠ 2 → σ' 155 j = σ 155 j
def FM1 (τ τ' : xM) : Prop := (∀ i, i ≠ 0 → τ' i = τ i) ∧ ∀ j, j ≠ 8 → j ≠ 9 → τ' 0 j = τ 0 j
theorem FC1.tr {a b c : xM} (h : FC1 a b) (h' : FC1 b c) : FC1 a c := ⟨fun i hi => (h'.1 i hi).trans (h.1 i hi), fun j hj => (h'.2 j hj).trans (h.2 j hj)⟩
theorem FM1.tr {a b c : xM} (h : FM1 a b) (h' : FM1 b c) : FM1 a c := ⟨fun i hi => (h'.1 i hi).trans (h.1 i hi), fun j hj hk => (h'.2 j hj hk).trans (h.2 j hj hk)⟩
theorem FC1.rf {a : xM} : FC1 a a := ⟨fun _ _ => rfl, fun _ _ => rfl⟩
theorem FM1.rf {a : xM} : FM1 a a := ⟨fun _ _ => rfl, fun _ _ _ => rfl⟩
theorem PC_adv {m pos q : Nat} {X : Nat → Nat} {σ : xM} (h : PC m X pos σ) : PC m X q (xup σ 155 2 (nI q)) ∧ FC1 σ (xup σ 155 2 (nI q)) := by
  obtain ⟨a, b, c⟩ := h
  refine ⟨⟨by rw [xup_same, upd_ne (by omega)]; exact a, by rw [xup_same, upd_same], fun i hi => by rw [xup_ne (by omega)]; exact c i hi⟩, fun i hi => xup_ne hi, fun j hj => by rw [xup_same, upd_ne hj]⟩
theorem PM_adv {m pos q : Nat} {X : Nat → Nat} {τ : xM} (h : PM m X pos τ) : PM m X q (xup τ 0 8 (nI q)) ∧ FM1 τ (xup τ 0 8 (nI q)) := by
  obtain ⟨a, b, c⟩ := h
  refine ⟨⟨by rw [xup_same, upd_ne (by omega)]; exact a, by rw [xup_same, upd_same], fun i hi => by rw [xup_ne (by omega)]; exact c i hi⟩, fun i hi => xup_ne hi, fun j hj _ => by rw [xup_same, upd_ne hj]⟩
def ch (m : Nat) (X : Nat → Nat) (pos : Nat) : Int32 := if pos < m then nI (X pos) else -1
def Skp (m : Nat) (X : Nat → Nat) (pos s : Nat) : Prop := pos ≤ s ∧ s ≤ m ∧ (∀ i, pos ≤ i → i < s → X i = 32) ∧ (s < m → X s ≠ 32)
theorem Skp.u {m pos s s' : Nat} {X : Nat → Nat} (h : Skp m X pos s) (h' : Skp m X pos s') : s = s' := by
  obtain ⟨a, b, c, d⟩ := h
  obtain ⟨a', b', c', d'⟩ := h'
  rcases Nat.lt_trichotomy s s' with z | z | z
  · exact absurd (c' s a z) (d (by omega))
  · exact z
  · exact absurd (c s' a' z) (d' (by omega))
theorem Skp.r {m pos s : Nat} {X : Nat → Nat} (h : Skp m X pos s) : Skp m X s s := ⟨Nat.le_refl _, h.2.1, fun i a b => by omega, h.2.2.2⟩
theorem c_here {m pos : Nat} {X : Nat → Nat} {σ : xM} (h : PC m X pos σ) (hm : m ≤ 100) (hp : pos ≤ m) : F_X5_here 155 σ = some (ch m X pos, σ) := by
  obtain ⟨a, b, c⟩ := h
  unfold F_X5_here ch
  rw [if_neg (show ¬ σ 155 2 < 0 by rw [b]; exact nI_pos (by omega))]
  by_cases e : pos < m
  · rw [if_neg (show ¬ σ 155 1 ≤ σ 155 2 by rw [a, b]; exact nI_ge e (by omega)), if_neg (show ¬ (100 : Int32) ≤ σ 155 2 by rw [b]; exact nI_ge (b := 100) (by omega) (by omega)), if_pos (show inb (σ 155 2) 100 by rw [b]; exact inb_nI (by omega) (by omega)), if_pos e, b, cl_nI (by omega)]
    rw [c pos e]
  · rw [if_pos (show σ 155 1 ≤ σ 155 2 by rw [a, b]; exact nI_le (by omega) (by omega)), if_neg e]
theorem c_skipL {m : Nat} {X : Nat → Nat} (hm : m ≤ 100) (hX : ∀ i, i < m → X i < 256) : ∀ d pos N (σ : xM), pos + d = m → d < N → PC m X pos σ → ∃ s σ', F_X5_skipSpaces_L0 155 N σ = some ((), σ') ∧ Skp m X pos s ∧ PC m X s σ' ∧ FC1 σ σ' := by
  intro d
  induction d with
  | zero =>
    intro pos N σ hd hN h
    obtain ⟨N, rfl⟩ : ∃ M, N = M + 1 := ⟨N - 1, by omega⟩
    obtain rfl : pos = m := by omega
    refine ⟨pos, σ, ?_, ⟨Nat.le_refl _, Nat.le_refl _, fun i a b => by omega, fun z => by omega⟩, h, FC1.rf⟩
    rw [F_X5_skipSpaces_L0, if_pos (show σ 155 1 ≤ σ 155 2 by rw [h.1, h.2.1]; exact nI_le (Nat.le_refl _) (by omega))]
  | succ d ih =>
    intro pos N σ hd hN h
    obtain ⟨N, rfl⟩ : ∃ M, N = M + 1 := ⟨N - 1, by omega⟩
    have hpm : pos < m := by omega
    have hx := hX pos hpm
    rw [F_X5_skipSpaces_L0, if_neg (show ¬ σ 155 1 ≤ σ 155 2 by rw [h.1, h.2.1]; exact nI_ge hpm (by omega)), c_here h hm (by omega), bd_some]
    dsimp only
    unfold ch
    by_cases e : X pos = 32
    · rw [if_pos (show (if pos < m then nI (X pos) else -1) = 32 by rw [if_pos hpm, e]; rfl), nm_eq, h.2.1, nI_1]
      obtain ⟨p1, f1⟩ := PC_adv (q := pos + 1) h
      obtain ⟨s, σ', E, S, P, F⟩ := ih (pos + 1) N _ (by omega) (by omega) p1
      refine ⟨s, σ', E, ⟨by have := S.1; omega, S.2.1, fun i a b => ?_, S.2.2.2⟩, P, f1.tr F⟩
      by_cases q : i = pos
      · rw [q]; exact e
      · exact S.2.2.1 i (by omega) b
    · rw [if_neg (show ¬ (if pos < m then nI (X pos) else -1) = 32 by rw [if_pos hpm]; exact fun z => e ((nI_eq (b := 32) (by omega) (by omega)).mp z))]
      exact ⟨pos, σ, rfl, ⟨Nat.le_refl _, by omega, fun i a b => by omega, fun _ => e⟩, h, FC1.rf⟩
theorem c_skip {m pos : Nat} {X : Nat → Nat} {σ : xM} (hm : m ≤ 100) (hX : ∀ i, i < m → X i < 256) (hp : pos ≤ m) (h : PC m X pos σ) : ∃ s σ', F_X5_skipSpaces 155 σ = some ((), σ') ∧ Skp m X pos s ∧ PC m X s σ' ∧ FC1 σ σ' := by
  have := c_skipL hm hX (m - pos) pos (FU + 1) σ (by omega) (by rw [FU_eq]; omega) h
  obtain ⟨s, σ', E, r⟩ := this
  refine ⟨s, σ', ?_, r⟩
  rw [← E]
  rfl
theorem m_hereJ {m pos : Nat} {X : Nat → Nat} {τ : xM} (h : PM m X pos τ) (hm : m ≤ 100) (hp : pos ≤ m) (hX : ∀ i, i < m → X i < 256) : F_X7_here_J38 0 τ = some (ch m X pos, τ) := by
  obtain ⟨a, b, c⟩ := h
  unfold F_X7_here_J38 ch
  by_cases e : pos < m
  · rw [if_neg (show ¬ τ 0 4 ≤ τ 0 8 by rw [a, b]; exact nI_ge e (by omega)), if_pos (show inb (τ 0 8) 100 by rw [b]; exact inb_nI (by omega) (by omega)), if_pos e, b, cl_nI (by omega), Nat.zero_add, c pos e, (bt_1 (X pos) (hX pos e)).2.2.1]
  · rw [if_pos (show τ 0 4 ≤ τ 0 8 by rw [a, b]; exact nI_le (by omega) (by omega)), if_neg e]
theorem m_hereL {m : Nat} {X : Nat → Nat} (hm : m ≤ 100) (hX : ∀ i, i < m → X i < 256) : ∀ d pos N (τ : xM), pos + d = m → d < N → PM m X pos τ → ∃ s τ', F_X7_here_L0 0 N τ = some (ch m X s, τ') ∧ Skp m X pos s ∧ PM m X s τ' ∧ FM1 τ τ' := by
  intro d
  induction d with
  | zero =>
    intro pos N τ hd hN h
    obtain ⟨N, rfl⟩ : ∃ M, N = M + 1 := ⟨N - 1, by omega⟩
    obtain rfl : pos = m := by omega
    refine ⟨pos, τ, ?_, ⟨Nat.le_refl _, Nat.le_refl _, fun i a b => by omega, fun z => by omega⟩, h, FM1.rf⟩
    rw [F_X7_here_L0, if_pos (show τ 0 4 ≤ τ 0 8 by rw [h.1, h.2.1]; exact nI_le (Nat.le_refl _) (by omega)), m_hereJ h hm (Nat.le_refl _) hX]
  | succ d ih =>
    intro pos N τ hd hN h
    obtain ⟨N, rfl⟩ : ∃ M, N = M + 1 := ⟨N - 1, by omega⟩
    have hpm : pos < m := by omega
    have hx := hX pos hpm
    have hc : τ (0 + 3) (Int32.toNatClampNeg (τ 0 8)) = bt (X pos) := by rw [h.2.1, cl_nI (by omega), Nat.zero_add, h.2.2 pos hpm]
    rw [F_X7_here_L0, if_neg (show ¬ τ 0 4 ≤ τ 0 8 by rw [h.1, h.2.1]; exact nI_ge hpm (by omega)), if_pos (show inb (τ 0 8) 100 by rw [h.2.1]; exact inb_nI (by omega) (by omega))]
    by_cases e : X pos = 32
    · rw [if_pos (show τ (0 + 3) (Int32.toNatClampNeg (τ 0 8)) = 32 by rw [hc]; exact (bt_1 _ hx).1.mpr e), nm_eq, h.2.1, nI_1]
      obtain ⟨p1, f1⟩ := PM_adv (q := pos + 1) h
      obtain ⟨s, τ', E, S, P, F⟩ := ih (pos + 1) N _ (by omega) (by omega) p1
      refine ⟨s, τ', E, ⟨by have := S.1; omega, S.2.1, fun i a b => ?_, S.2.2.2⟩, P, f1.tr F⟩
      by_cases q : i = pos
      · rw [q]; exact e
      · exact S.2.2.1 i (by omega) b
    · rw [if_neg (show ¬ τ (0 + 3) (Int32.toNatClampNeg (τ 0 8)) = 32 by rw [hc]; exact fun z => e ((bt_1 _ hx).1.mp z)), m_hereJ h hm (by omega) hX]
      exact ⟨pos, τ, rfl, ⟨Nat.le_refl _, by omega, fun i a b => by omega, fun _ => e⟩, h, FM1.rf⟩
theorem m_here {m pos : Nat} {X : Nat → Nat} {τ : xM} (hm : m ≤ 100) (hX : ∀ i, i < m → X i < 256) (hp : pos ≤ m) (h : PM m X pos τ) : ∃ s τ', F_X7_here 0 τ = some (ch m X s, τ') ∧ Skp m X pos s ∧ PM m X s τ' ∧ FM1 τ τ' := by
  obtain ⟨s, τ', E, r⟩ := m_hereL hm hX (m - pos) pos (FU + 1) τ (by omega) (by rw [FU_eq]; omega) h
  refine ⟨s, τ', ?_, r⟩
  rw [← E]
  rfl
theorem m_here2 {m pos : Nat} {X : Nat → Nat} {τ : xM} (hm : m ≤ 100) (hX : ∀ i, i < m → X i < 256) (hs : Skp m X pos pos) (h : PM m X pos τ) : F_X7_here 0 τ = some (ch m X pos, τ) := by
  unfold F_X7_here
  have hp := hs.2.1
  by_cases e : pos < m
  · have hx := hX pos e
    have hc : τ (0 + 3) (Int32.toNatClampNeg (τ 0 8)) = bt (X pos) := by rw [h.2.1, cl_nI (by omega), Nat.zero_add, h.2.2 pos e]
    rw [if_neg (show ¬ τ 0 4 ≤ τ 0 8 by rw [h.1, h.2.1]; exact nI_ge e (by omega)), if_pos (show inb (τ 0 8) 100 by rw [h.2.1]; exact inb_nI (by omega) (by omega)), if_neg (show ¬ τ (0 + 3) (Int32.toNatClampNeg (τ 0 8)) = 32 by rw [hc]; exact fun z => hs.2.2.2 e ((bt_1 _ hx).1.mp z)), m_hereJ h hm hp hX]
  · rw [if_pos (show τ 0 4 ≤ τ 0 8 by rw [h.1, h.2.1]; exact nI_le (by omega) (by omega)), m_hereJ h hm hp hX]
