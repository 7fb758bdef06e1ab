/-! the reference's number, in range or not -/
theorem PM_9 {m pos : Nat} {X : Nat → Nat} {τ : xM} {x : Int32} (h : PM m X pos τ) : PM m X pos (xup τ 0 9 x) ∧ FM1 τ (xup τ 0 9 x) := by
  obtain ⟨a, b, c⟩ := h
  exact ⟨⟨by rw [xup_same, upd_ne (by omega)]; exact a, by rw [xup_same, upd_ne (by omega)]; exact b, fun i hi => by rw [xup_ne (by omega)]; exact c i hi⟩, fun i hi => xup_ne hi, fun j _ hj => by rw [xup_same, upd_ne hj]⟩
/-- after the digits -/
theorem m_J133 {m e q s g : Nat} {X : Nat → Nat} {τ : xM} {lo hi r : Int32} (hm : m ≤ 100) (hX : ∀ i, i < m → X i < 256) (hg : g ≤ 1) (h : PM m X e τ) (hq : q < m) (he : q < e) (hem : e ≤ m) :
    ∃ τ', PM m X (if (X q = 48 ∧ e ≠ q + 1) ∨ bz (inW (if g = 0 then r else -r) lo hi) = 0 then s else e) τ' ∧ FM1 τ τ' ∧
      F_X7_reads_J133 0 lo hi (nI s) (nI g) (nI q) r τ = some (if (X q = 48 ∧ e ≠ q + 1) ∨ bz (inW (if g = 0 then r else -r) lo hi) = 0 then 0 else 1, τ') ∧ τ' 0 9 = (if g = 0 then r else -r) := by
  generalize hv : (if g = 0 then r else -r) = val
  obtain ⟨P1, F1⟩ := PM_9 (x := val) h
  have hx := hX q hq
  have e1 : F_X7_reads_J133 0 lo hi (nI s) (nI g) (nI q) r τ = F_X7_reads_J158 0 lo hi (nI s) (nI q) val τ := by
    unfold F_X7_reads_J133
    rw [if_neg (show ¬ τ 0 8 = nI q by rw [h.2.1]; exact fun z => by have := (nI_eq (show e < 2 ^ 31 by omega) (by omega)).mp z; omega)]
    by_cases g0 : g = 0
    · rw [if_pos (show nI g = 0 by rw [g0]; rfl), ← hv, if_pos g0]
    · rw [if_neg g0] at hv
      rw [if_neg (nI_ne0 (by omega) (by omega)), ← hv]
  have i9 : (xup τ 0 9 val) 0 9 = val := by rw [xup_same, upd_same]
  have bad : ∃ τ', PM m X s τ' ∧ FM1 τ τ' ∧ F_X7_reads_J200 0 (nI s) (xup τ 0 9 val) = some (0, τ') ∧ τ' 0 9 = val := by
    obtain ⟨P2, F2⟩ := PM_adv (q := s) P1
    refine ⟨_, P2, F1.tr F2, ?_, by rw [xup_same, upd_ne (by omega)]; exact i9⟩
    unfold F_X7_reads_J200 F_X7_reads_J201 F_X7_reads_J218
    rw [if_pos bz_0, nm_eq]
  have good : ¬ bz (inW val lo hi) = 0 → ∃ τ', PM m X e τ' ∧ FM1 τ τ' ∧ F_X7_reads_J184 0 lo hi (nI s) (xup τ 0 9 val) = some (1, τ') ∧ τ' 0 9 = val := by
    intro hz
    obtain ⟨P2, F2⟩ := PM_adv (q := e) P1
    refine ⟨_, P2, F1.tr F2, ?_, by rw [xup_same, upd_ne (by omega)]; exact i9⟩
    unfold F_X7_reads_J184 F_X7_reads_J201 F_X7_reads_J218
    rw [i9, m_in, bd_some]
    dsimp only
    rw [if_neg hz, if_neg bz1n, nm_eq, P1.2.1]
  have bad2 : bz (inW val lo hi) = 0 → F_X7_reads_J184 0 lo hi (nI s) (xup τ 0 9 val) = F_X7_reads_J200 0 (nI s) (xup τ 0 9 val) := by
    intro hz
    unfold F_X7_reads_J184
    rw [i9, m_in, bd_some]
    dsimp only
    rw [if_pos hz]
  rw [e1]
  unfold F_X7_reads_J158
  rw [nm_eq, if_pos (inb_nI (by omega) (by omega))]
  have hc : (xup τ 0 9 val) (0 + 3) (Int32.toNatClampNeg (nI q)) = bt (X q) := by rw [cl_nI (by omega), Nat.zero_add, P1.2.2 q hq]
  have fin : (¬ (X q = 48 ∧ e ≠ q + 1)) → ∃ τ', PM m X (if (X q = 48 ∧ e ≠ q + 1) ∨ bz (inW val lo hi) = 0 then s else e) τ' ∧ FM1 τ τ' ∧ F_X7_reads_J184 0 lo hi (nI s) (xup τ 0 9 val) = some (if (X q = 48 ∧ e ≠ q + 1) ∨ bz (inW val lo hi) = 0 then 0 else 1, τ') ∧ τ' 0 9 = val := by
    intro nb
    by_cases hz : bz (inW val lo hi) = 0
    · obtain ⟨τ', a, b, c, d⟩ := bad
      exact ⟨τ', by rw [if_pos (Or.inr hz)]; exact a, b, by rw [bad2 hz, if_pos (Or.inr hz)]; exact c, d⟩
    · obtain ⟨τ', a, b, c, d⟩ := good hz
      exact ⟨τ', by rw [if_neg (fun z => z.elim nb hz)]; exact a, b, by rw [if_neg (fun z => z.elim nb hz)]; exact c, d⟩
  by_cases c1 : X q = 48
  · rw [if_pos (show (xup τ 0 9 val) (0 + 3) (Int32.toNatClampNeg (nI q)) = 48 by rw [hc]; exact (bt_1 _ hx).2.1.mpr c1)]
    by_cases c2 : e = q + 1
    · rw [if_pos (show (xup τ 0 9 val) 0 8 = nI q + 1 by rw [P1.2.1, nI_1, c2])]
      exact fin (fun z => z.2 c2)
    · rw [if_neg (show ¬ (xup τ 0 9 val) 0 8 = nI q + 1 by rw [P1.2.1, nI_1]; exact fun z => c2 ((nI_eq (by omega) (by omega)).mp z))]
      obtain ⟨τ', a, b, c, d⟩ := bad
      exact ⟨τ', by rw [if_pos (Or.inl ⟨c1, c2⟩)]; exact a, b, by rw [if_pos (Or.inl ⟨c1, c2⟩)]; exact c, d⟩
  · rw [if_neg (show ¬ (xup τ 0 9 val) (0 + 3) (Int32.toNatClampNeg (nI q)) = 48 by rw [hc]; exact fun z => c1 ((bt_1 _ hx).2.1.mp z))]
    exact fin (fun z => c1 z.1)
/-- the reference's reads, up to its loop -/
theorem m_reads {m pos : Nat} {X : Nat → Nat} {τ : xM} {sg : Int32} (hm : m ≤ 100) (hX : ∀ i, i < m → X i < 256) (h : PM m X pos τ) (hp : pos ≤ m) : ∃ s g τ', Skp m X pos s ∧ (g = if sg = 0 then 0 else if s < m ∧ X s = 45 then 1 else 0) ∧ PM m X (s + g) τ' ∧ FM1 τ τ' ∧
    ∀ lo hi, F_X7_reads 0 lo hi sg τ = F_X7_reads_L58 0 FU lo hi (nI s) (nI g) (nI (s + g)) 0 τ' := by
  obtain ⟨s, τ1, E, S, P, F⟩ := m_here hm hX hp h
  have hs := S.2.1
  have key : ∀ g : Nat, g ≤ 1 → ∃ τ', PM m X (s + g) τ' ∧ FM1 τ τ' ∧ ∀ lo hi, F_X7_reads_J28 0 lo hi (nI s) (nI g) τ1 = F_X7_reads_L58 0 FU lo hi (nI s) (nI g) (nI (s + g)) 0 τ' := by
    intro g hg
    obtain ⟨P2, F2⟩ := PM_adv (q := s + g) P
    refine ⟨_, P2, F.tr F2, fun lo hi => ?_⟩
    have j45 : ∀ y : Int32, F_X7_reads_J45 0 lo hi (nI s) (nI g) (nI g) y τ1 = F_X7_reads_J45 0 lo hi (nI s) (nI g) (nI g) y τ1 := fun _ => rfl
    unfold F_X7_reads_J28
    have e : F_X7_reads_J45 0 lo hi (nI s) (nI g) (nI g) (τ1 0 8) τ1 = F_X7_reads_L58 0 FU lo hi (nI s) (nI g) (nI (s + g)) 0 (xup τ1 0 8 (nI (s + g))) := by
      unfold F_X7_reads_J45
      rw [P.2.1, nI_add, nm_eq, nm_eq, P2.2.1]
    by_cases g0 : g = 0
    · subst g0
      rw [if_pos (show nI 0 = 0 from rfl)]
      exact e
    · obtain rfl : g = 1 := by omega
      rw [if_neg (show ¬ nI 1 = 0 by decide)]
      exact e
  have pre : ∀ lo hi, F_X7_reads 0 lo hi sg τ = F_X7_reads_J28 0 lo hi (nI s) (nI (if sg = 0 then 0 else if s < m ∧ X s = 45 then 1 else 0)) τ1 := by
    intro lo hi
    unfold F_X7_reads
    rw [E, bd_some]
    dsimp only
    rw [nm_eq, P.2.1]
    by_cases z : sg = 0
    · rw [if_pos z, if_pos z]; rfl
    · rw [if_neg z, if_neg z]
      unfold ch
      by_cases y : s < m ∧ X s = 45
      · rw [if_pos (show (if s < m then nI (X s) else -1) = 45 by rw [if_pos y.1, y.2]; rfl), if_pos y]; rfl
      · rw [if_neg (show ¬ (if s < m then nI (X s) else -1) = 45 by
          by_cases w : s < m
          · have hx := hX s w
            rw [if_pos w]; exact fun z => y ⟨w, (nI_eq (b := 45) (by omega) (by omega)).mp z⟩
          · rw [if_neg w]; decide), if_neg y]; rfl
  obtain ⟨τ', a, b, c⟩ := key (if sg = 0 then 0 else if s < m ∧ X s = 45 then 1 else 0) (by split; omega; split <;> omega)
  exact ⟨s, _, τ', S, rfl, a, b, fun lo hi => by rw [pre, c]⟩
/-- no digit: the reference stops where it stands -/
theorem m_nodig {m q s g : Nat} {X : Nat → Nat} {τ : xM} {lo hi : Int32} (hm : m ≤ 100) (hX : ∀ i, i < m → X i < 256) (h : PM m X q τ) (hq : q ≤ m) (hd : ¬ dig m X q) : ∃ τ', F_X7_reads_L58 0 FU lo hi (nI s) (nI g) (nI q) 0 τ = some (0, τ') ∧ PM m X q τ' ∧ FM1 τ τ' := by
  obtain ⟨FN, hFN⟩ : ∃ M, FU = M + 1 := ⟨1299, FU_eq⟩
  refine ⟨τ, ?_, h, FM1.rf⟩
  have j : F_X7_reads_J133 0 lo hi (nI s) (nI g) (nI q) 0 τ = some (0, τ) := by
    unfold F_X7_reads_J133
    rw [if_pos h.2.1]
  rw [hFN, F_X7_reads_L58]
  by_cases e : q < m
  · have hx := hX q e
    have hc : τ (0 + 3) (Int32.toNatClampNeg (τ 0 8)) = bt (X q) := by rw [h.2.1, cl_nI (by omega), Nat.zero_add, h.2.2 q e]
    rw [if_neg (show ¬ τ 0 4 ≤ τ 0 8 by rw [h.1, h.2.1]; exact nI_ge e (by omega)), if_pos (show inb (τ 0 8) 100 by rw [h.2.1]; exact inb_nI (by omega) (by omega)), hc, m_in, bd_some]
    dsimp only
    rw [if_pos ((bt_1 _ hx).2.2.2.1.mpr (fun y => hd ⟨e, y⟩)), j]
  · rw [if_pos (show τ 0 4 ≤ τ 0 8 by rw [h.1, h.2.1]; exact nI_le (by omega) (by omega)), j]
