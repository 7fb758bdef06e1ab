/-! a minute of the class -/
def Frm (k n : Nat) (σ σ' : xM) : Prop := ∀ i, (∀ r, r < n → i ≠ k + 7 + 2 * r ∧ i ≠ k + 7 + 2 * r + 1) → σ' i = σ i
theorem Frm.rf {k n : Nat} {σ : xM} : Frm k n σ σ := fun _ _ => rfl
theorem Frm.tr {k n : Nat} {σ σ' σ'' : xM} (h : Frm k n σ σ') (h' : Frm k n σ' σ'') : Frm k n σ σ'' := fun i hi => (h' i hi).trans (h i hi)
theorem Frm.room {k n r : Nat} {σ : xM} {g b : Nat → Int32} (hr : r < n) : Frm k n σ (upc (upc σ (k + 7 + 2 * r) g) (k + 7 + 2 * r + 1) b) := by
  intro i hi
  obtain ⟨h1, h2⟩ := hi r hr
  rw [upc_ne h2, upc_ne h1]
theorem Frm.one {k n r : Nat} {σ : xM} {g : Nat → Int32} (hr : r < n) : Frm k n σ (upc σ (k + 7 + 2 * r) g) := by
  intro i hi
  exact upc_ne (hi r hr).1
theorem Frm.lo {k n j : Nat} {σ σ' : xM} (h : Frm k n σ σ') (hj : j < 7) : σ' (k + j) = σ (k + j) := h (k + j) (fun r _ => ⟨by omega, by omega⟩)
theorem Frm.k0 {k n : Nat} {σ σ' : xM} (h : Frm k n σ σ') : σ' k = σ k := h.lo (j := 0) (by omega)
theorem room2 {k r : Nat} {σ : xM} {g b : Nat → Int32} : upc (upc σ (k + 7 + 2 * r) g) (k + 7 + 2 * r + 1) b (k + 7 + 2 * r) = g ∧ upc (upc σ (k + 7 + 2 * r) g) (k + 7 + 2 * r + 1) b (k + 7 + 2 * r + 1) = b :=
  ⟨by rw [upc_ne (by omega), upc_same], upc_same⟩
theorem room2o {k r q : Nat} {σ : xM} {g b : Nat → Int32} (h : q ≠ r) : upc (upc σ (k + 7 + 2 * r) g) (k + 7 + 2 * r + 1) b (k + 7 + 2 * q) = σ (k + 7 + 2 * q) ∧ upc (upc σ (k + 7 + 2 * r) g) (k + 7 + 2 * r + 1) b (k + 7 + 2 * q + 1) = σ (k + 7 + 2 * q + 1) :=
  ⟨by rw [upc_ne (by omega), upc_ne (by omega)], by rw [upc_ne (by omega), upc_ne (by omega)]⟩
/-- a room in the middle of a minute: S is what it gave to others so far -/
def HR (s : Nat → Int32) (A : Int32) (S : Nat → Int32) (k r : Nat) (σ : xM) : Prop :=
  RR (σ (k + 7 + 2 * r)) (σ (k + 7 + 2 * r + 1)) (flowV (vw s r) (hea (vw s r)) (lkg (vw s r) (tmp s r) A) (S r)) ∧ σ (k + 7 + 2 * r) 17 = tmp s r
theorem c_heatL {k n : Nat} {s : Nat → Int32} {A : Int32} {σ : xM} (hk : kd k = 1) (hn : n ≤ 6) (h4 : σ k 4 = nI n) (hRR : ∀ r, r < n → RR (σ (k + 7 + 2 * r)) (σ (k + 7 + 2 * r + 1)) (vw s r)) (hC : ∀ r, r < n → 0 < vw s r 0) :
    ∀ d i N σ1, i + d = n → d < N → Frm k n σ σ1 → (∀ r, r < i → HR s A (fun _ => 0) k r σ1) → (∀ r, i ≤ r → r < n → σ1 (k + 7 + 2 * r) = σ (k + 7 + 2 * r) ∧ σ1 (k + 7 + 2 * r + 1) = σ (k + 7 + 2 * r + 1)) →
      ∃ σ2, F_X1_heatRooms_L14 k N A (nI i) σ1 = some ((), σ2) ∧ Frm k n σ σ2 ∧ ∀ r, r < n → HR s A (fun _ => 0) k r σ2 := by
  intro d
  induction d with
  | zero =>
    intro i N σ1 hi hN hF hD hO
    obtain ⟨N, rfl⟩ : ∃ M, N = M + 1 := ⟨N - 1, by omega⟩
    obtain rfl : i = n := by omega
    refine ⟨σ1, ?_, hF, hD⟩
    rw [F_X1_heatRooms_L14, hF.k0, h4, if_pos (nI_le (Nat.le_refl i) (by omega))]
  | succ d ih =>
    intro i N σ1 hi hN hF hD hO
    obtain ⟨N, rfl⟩ : ∃ M, N = M + 1 := ⟨N - 1, by omega⟩
    have e4 : σ1 k 4 = nI n := by have := hF.lo (j := 0) (by omega); rw [Nat.add_zero] at this; rw [this]; exact h4
    have hri : i < n := by omega
    obtain ⟨o1, o2⟩ := hO i (Nat.le_refl i) hri
    obtain ⟨g, b, e, hR, h17⟩ := c_begin (c := k + 7 + 2 * i) (A := A) (σ := σ1) (v := vw s i) (by rw [o1, o2]; exact hRR i hri) (hC i hri)
    obtain ⟨σ2, E, F, D⟩ := ih (i + 1) N (upc (upc σ1 (k + 7 + 2 * i) g) (k + 7 + 2 * i + 1) b) (by omega) (by omega) (hF.tr (Frm.room hri)) (fun r hr => by
        by_cases hrr : r = i
        · subst hrr
          unfold HR
          rw [room2.1, room2.2]
          exact ⟨hR, h17⟩
        · unfold HR
          rw [(room2o hrr).1, (room2o hrr).2]
          exact hD r (by omega)) (fun r h1 h2 => by
        have hrr : r ≠ i := by omega
        rw [(room2o hrr).1, (room2o hrr).2]
        exact hO r (by omega) h2)
    refine ⟨σ2, ?_, F, D⟩
    rw [F_X1_heatRooms_L14, e4, if_neg (nI_ge hri (by omega)), c_room e4 hri hn, bd_some, oc_some, if_pos (kd_room hk (by omega)), e, bd_some, nI_1]
    exact E
/-! what two rooms exchange -/
def flo (s : Nat → Int32) (i j : Nat) : Int32 := (s (34 + 6 * i + j) * (tmp s i - tmp s j)) / 1000
def exI (s : Nat → Int32) (i j : Nat) (S : Nat → Int32) : Nat → Int32 := fun r => if r = i then S r + flo s i j else if r = j then S r + (-(flo s i j)) else S r
def exO (s : Nat → Int32) (n i : Nat) (S : Nat → Int32) : Nat → Int32 := itr (exI s i) (n - (i + 1)) (i + 1) S
theorem c_link {k i j : Nat} {σ : xM} (hi : i < 6) (hj : j < 6) : F_X1_linkOf k (nI i) (nI j) σ = some (σ (k + 3) (6 * i + j), σ) := by
  have e : nI i * 6 + nI j = nI (6 * i + j) := by
    show nI i * nI 6 + nI j = _
    rw [pk_mul, nI_add]
    congr 1; omega
  unfold F_X1_linkOf F_X1_linkPlace
  rw [e, bd_some]
  show (if nI (6 * i + j) < 0 then some (0, σ) else if 36 ≤ nI (6 * i + j) then some (0, σ) else if inb (nI (6 * i + j)) 36 then some (σ (k + 3) (Int32.toNatClampNeg (nI (6 * i + j))), σ) else none) = _
  rw [if_neg (nI_pos (by omega)), if_neg (show ¬ (36 : Int32) ≤ nI (6 * i + j) from nI_ge (b := 36) (by omega) (by omega)), if_pos (inb_nI (by omega) (by omega)), cl_nI (by omega)]
theorem c_exch1 {k n i j N : Nat} {s S : Nat → Int32} {A : Int32} {σ : xM} (hk : kd k = 1) (hn : n ≤ 6) (h4 : σ k 4 = nI n) (hL : ∀ i, i < 36 → σ (k + 3) i = s (34 + i)) (hi : i < n) (hj : j < n) (hij : i < j) (hH : ∀ r, r < n → HR s A S k r σ) :
    ∃ σ2, F_X1_exchangeHeat_LL k (N + 1) 14 (nI i) (nI j) σ = F_X1_exchangeHeat_LL k N 14 (nI i) (nI (j + 1)) σ2 ∧ Frm k n σ σ2 ∧ ∀ r, r < n → HR s A (exI s i j S) k r σ2 := by
  obtain ⟨r1, t1⟩ := hH i hi
  obtain ⟨r2, t2⟩ := hH j hj
  have hne : j ≠ i := by omega
  -- the first room gives
  have g1 := RR_give (x := flo s i j) r1
  have g2 := RR_give (x := -(flo s i j)) r2
  refine ⟨upc (upc (upc (upc σ (k + 7 + 2 * i) (upd (σ (k + 7 + 2 * i)) 4 (σ (k + 7 + 2 * i) 4 - flo s i j))) (k + 7 + 2 * i + 1) (upd (σ (k + 7 + 2 * i + 1)) 3 (σ (k + 7 + 2 * i + 1) 3 + flo s i j))) (k + 7 + 2 * j) (upd (σ (k + 7 + 2 * j)) 4 (σ (k + 7 + 2 * j) 4 - (-(flo s i j))))) (k + 7 + 2 * j + 1) (upd (σ (k + 7 + 2 * j + 1)) 3 (σ (k + 7 + 2 * j + 1) 3 + (-(flo s i j)))), ?_, (Frm.room hi).tr (Frm.room hj), fun r hr => ?_⟩
  · rw [F_X1_exchangeHeat_LL, if_neg (by decide), h4, if_neg (nI_ge hj (by omega)), c_room h4 hi hn, bd_some, oc_some, if_pos (kd_room hk (by omega)), c_room h4 hj hn, bd_some, oc_some, if_pos (kd_room hk (by omega)), nm_eq, c_link (by omega) (by omega), bd_some, nm_eq]
    have ef : (σ (k + 3) (6 * i + j) * (σ (k + 7 + 2 * i) 17 - σ (k + 7 + 2 * j) 17)) / 1000 = flo s i j := by
      rw [t1, t2, hL _ (by omega)]
      unfold flo
      rw [show 34 + (6 * i + j) = 34 + 6 * i + j by omega]
    show (F_X3_giveToOthers (k + 7 + 2 * i) ((σ (k + 3) (6 * i + j) * (σ (k + 7 + 2 * i) 17 - σ (k + 7 + 2 * j) 17)) / 1000) σ).bind (fun q13 => (F_X3_giveToOthers (k + 7 + 2 * j) (-((σ (k + 3) (6 * i + j) * (σ (k + 7 + 2 * i) 17 - σ (k + 7 + 2 * j) 17)) / 1000)) q13.2).bind (fun q14 => F_X1_exchangeHeat_LL k N 14 (nI i) (nI j + 1) q14.2)) = _
    rw [ef, c_give, bd_some, c_give, bd_some, nI_1]
    dsimp only
    rw [(room2o hne).1, (room2o hne).2]
  · unfold HR
    by_cases h1 : r = j
    · subst h1
      rw [room2.1, room2.2]
      refine ⟨?_, by rw [upd_ne (by omega)]; exact t2⟩
      have : exI s i r S r = S r + (-(flo s i r)) := by unfold exI; rw [if_neg hne, if_pos rfl]
      rw [this]
      exact g2
    · rw [(room2o h1).1, (room2o h1).2]
      by_cases h2 : r = i
      · subst h2
        rw [room2.1, room2.2]
        refine ⟨?_, by rw [upd_ne (by omega)]; exact t1⟩
        have : exI s r j S r = S r + flo s r j := by unfold exI; rw [if_pos rfl]
        rw [this]
        exact g1
      · rw [(room2o h2).1, (room2o h2).2]
        have : exI s i j S r = S r := by unfold exI; rw [if_neg h2, if_neg h1]
        rw [this]
        exact hH r hr
theorem c_exchI {k n i : Nat} {s : Nat → Int32} {A : Int32} (hk : kd k = 1) (hn : n ≤ 6) (hi : i < n) :
    ∀ d j N S (σ : xM), j + d = n → i < j → σ k 4 = nI n → (∀ i, i < 36 → σ (k + 3) i = s (34 + i)) → (∀ r, r < n → HR s A S k r σ) →
      ∃ σ2, F_X1_exchangeHeat_LL k (N + d + 1) 14 (nI i) (nI j) σ = F_X1_exchangeHeat_LL k N 2 (nI (i + 1)) 0 σ2 ∧ Frm k n σ σ2 ∧ ∀ r, r < n → HR s A (itr (exI s i) d j S) k r σ2 := by
  intro d
  induction d with
  | zero =>
    intro j N S σ hj hij h4 hL hH
    obtain rfl : j = n := by omega
    refine ⟨σ, ?_, Frm.rf, hH⟩
    rw [F_X1_exchangeHeat_LL, if_neg (by decide), h4, if_pos (nI_le (Nat.le_refl j) (by omega)), nI_1]
  | succ d ih =>
    intro j N S σ hj hij h4 hL hH
    obtain ⟨σ1, e1, f1, h1⟩ := c_exch1 (N := N + d + 1) hk hn h4 hL hi (by omega : j < n) hij hH
    have e4 : σ1 k 4 = nI n := by have := f1.lo (j := 0) (by omega); rw [Nat.add_zero] at this; rw [this]; exact h4
    obtain ⟨σ2, e2, f2, h2⟩ := ih (j + 1) N (exI s i j S) σ1 (by omega) (by omega) e4 (fun i hi => by rw [f1.lo (by omega)]; exact hL i hi) h1
    refine ⟨σ2, ?_, f1.tr f2, h2⟩
    rw [show N + (d + 1) + 1 = N + d + 1 + 1 by omega, e1, e2]
theorem c_exchO {k n : Nat} {s : Nat → Int32} {A : Int32} (hk : kd k = 1) (hn : n ≤ 6) :
    ∀ d i N S (σ : xM), i + d = n → 50 ≤ N → σ k 4 = nI n → (∀ i, i < 36 → σ (k + 3) i = s (34 + i)) → (∀ r, r < n → HR s A S k r σ) →
      ∃ σ2, F_X1_exchangeHeat_LL k (N + 8 * d) 2 (nI i) 0 σ = some ((), σ2) ∧ Frm k n σ σ2 ∧ ∀ r, r < n → HR s A (itr (exO s n) d i S) k r σ2 := by
  intro d
  induction d with
  | zero =>
    intro i N S σ hi hN h4 hL hH
    obtain ⟨N, rfl⟩ : ∃ M, N = M + 1 := ⟨N - 1, by omega⟩
    obtain rfl : i = n := by omega
    refine ⟨σ, ?_, Frm.rf, hH⟩
    rw [show N + 1 + 8 * 0 = N + 1 by omega, F_X1_exchangeHeat_LL, if_pos rfl, h4, if_pos (nI_le (Nat.le_refl i) (by omega))]
  | succ d ih =>
    intro i N S σ hi hN h4 hL hH
    obtain ⟨σ1, e1, f1, h1⟩ := c_exchI (A := A) hk hn (show i < n by omega) (n - (i + 1)) (i + 1) (N + 8 * (d + 1) - 2 - (n - (i + 1))) S σ (by omega) (by omega) h4 hL hH
    have e4 : σ1 k 4 = nI n := by have := f1.lo (j := 0) (by omega); rw [Nat.add_zero] at this; rw [this]; exact h4
    obtain ⟨σ2, e2, f2, h2⟩ := ih (i + 1) (N + 6 - (n - (i + 1))) (exO s n i S) σ1 (by omega) (by omega) e4 (fun i hi => by rw [f1.lo (by omega)]; exact hL i hi) h1
    refine ⟨σ2, ?_, f1.tr f2, h2⟩
    have e3 : F_X1_exchangeHeat_LL k (N + 8 * (d + 1)) 2 (nI i) 0 σ = F_X1_exchangeHeat_LL k (N + 8 * (d + 1) - 1) 14 (nI i) (nI (i + 1)) σ := by
      rw [show N + 8 * (d + 1) = N + 8 * (d + 1) - 1 + 1 by omega, F_X1_exchangeHeat_LL, if_pos rfl, h4, if_neg (nI_ge (show i < n by omega) (by omega)), nm_eq, nI_1]
      rfl
    rw [e3, show N + 8 * (d + 1) - 1 = N + 8 * (d + 1) - 2 - (n - (i + 1)) + (n - (i + 1)) + 1 by omega, e1, show N + 8 * (d + 1) - 2 - (n - (i + 1)) = N + 6 - (n - (i + 1)) + 8 * d by omega, e2]
