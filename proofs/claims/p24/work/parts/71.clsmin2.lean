theorem itr_snoc {S : Type} {f : Nat → S → S} : ∀ (d i : Nat) (s : S), itr f (d + 1) i s = f (i + d) (itr f d i s) := by
  intro d
  induction d with
  | zero => intro i s; rfl
  | succ d ih =>
    intro i s
    rw [itr, ih (i + 1) (f i s), show i + 1 + d = i + (d + 1) by omega]
    rfl
/-- what a room gives to all others, by its own reckoning -/
def gp (s : Nat → Int32) (r m : Nat) : Int32 := itr (gonS s (tmp s) r) m 0 0
theorem gp_s {s : Nat → Int32} {r m : Nat} : gp s r (m + 1) = gp s r m + flo s r m := by
  unfold gp
  rw [itr_snoc, Nat.zero_add]
  rfl
theorem flo_rr {s : Nat → Int32} {r : Nat} : flo s r r = 0 := by
  unfold flo
  rw [Int32.sub_self, Int32.mul_zero]
  rfl
def Anti (s : Nat → Int32) (n : Nat) : Prop := ∀ i j, i < n → j < n → flo s j i = -(flo s i j)
theorem exO_sum {s : Nat → Int32} {n : Nat} (hA : Anti s n) : ∀ r, r < n → itr (exO s n) n 0 (fun _ => 0) r = gon s (tmp s) n r := by
  have inner : ∀ i, i < n → ∀ S : Nat → Int32, (∀ r, r < n → S r = if r < i then gp s r n else gp s r i) →
      ∀ r, r < n → exO s n i S r = if r < i + 1 then gp s r n else gp s r (i + 1) := by
    intro i hi S hS
    have := itr_inv (f := exI s i) (fun J (S' : Nat → Int32) => ∀ r, r < n → S' r = if r < i then gp s r n else if r = i then gp s i J else if r < J then gp s r (i + 1) else gp s r i) (n - (i + 1)) (i + 1) S ?_ ?_
    · intro r hr
      have h1 := this r hr
      rw [show i + 1 + (n - (i + 1)) = n by omega] at h1
      unfold exO
      rw [h1]
      by_cases c1 : r < i
      · rw [if_pos c1, if_pos (by omega)]
      · rw [if_neg c1]
        by_cases c2 : r = i
        · rw [if_pos c2, if_pos (by omega), c2]
        · rw [if_neg c2, if_pos hr, if_neg (by omega)]
    · intro r hr
      rw [hS r hr]
      by_cases c1 : r < i
      · rw [if_pos c1, if_pos c1]
      · rw [if_neg c1, if_neg c1]
        by_cases c2 : r = i
        · rw [if_pos c2, c2, gp_s, flo_rr, Int32.add_zero]
        · rw [if_neg c2, if_neg (by omega)]
    · intro J S' hJ1 hJ2 h r hr
      unfold exI
      have hr' := h r hr
      by_cases c2 : r = i
      · rw [if_pos c2, hr', if_neg (by omega), if_pos c2, if_neg (by omega), if_pos c2, gp_s]
      · rw [if_neg c2]
        by_cases c3 : r = J
        · rw [if_pos c3, hr', if_neg (by omega), if_neg c2, if_neg (by omega), if_neg (by omega), if_neg c2, if_pos (by omega), gp_s, c3, hA i J hi (by omega)]
        · rw [if_neg c3, hr']
          by_cases c1 : r < i
          · rw [if_pos c1, if_pos c1]
          · rw [if_neg c1, if_neg c1, if_neg c2, if_neg c2]
            by_cases c4 : r < J
            · rw [if_pos c4, if_pos (by omega)]
            · rw [if_neg c4, if_neg (by omega)]
  have outer := itr_inv (f := exO s n) (fun i (S : Nat → Int32) => ∀ r, r < n → S r = if r < i then gp s r n else gp s r i) n 0 (fun _ => 0) (fun r hr => by rw [if_neg (by omega)]; rfl) (fun i S _ hi h => inner i (by omega) S h)
  intro r hr
  rw [outer r hr, if_pos (by omega)]
  rfl
theorem RR_v {g b v v' : Nat → Int32} (h : RR g b v) (e : ∀ f, f < 21 → v f = v' f) : RR g b v' := by
  unfold RR at h ⊢
  rw [← e 0 (by omega), ← e 1 (by omega), ← e 2 (by omega), ← e 3 (by omega), ← e 4 (by omega), ← e 5 (by omega), ← e 6 (by omega), ← e 7 (by omega), ← e 8 (by omega), ← e 9 (by omega), ← e 10 (by omega), ← e 11 (by omega), ← e 12 (by omega), ← e 13 (by omega), ← e 14 (by omega), ← e 15 (by omega), ← e 16 (by omega), ← e 17 (by omega), ← e 18 (by omega), ← e 19 (by omega), ← e 20 (by omega)]
  exact h
theorem turnV_0 {N v : Nat → Int32} {t : Int32} : (turnV N t v).2 0 = v 0 := by
  unfold turnV stkV tnB
  simp only
  split
  · simp [clsV, tnA, upd]
  · split
    · unfold opnV
      split
      · split <;> simp [tnA, upd]
      · simp [tnA, upd]
    · simp [tnA, upd]
theorem turnV_01 {N v : Nat → Int32} {t : Int32} : (turnV N t v).1 = 0 ∨ (turnV N t v).1 = 1 := by
  unfold turnV tnB
  simp only
  split
  · exact Or.inr rfl
  · split
    · unfold opnV
      split
      · split
        · exact Or.inr rfl
        · exact Or.inl rfl
      · exact Or.inr rfl
    · exact Or.inl rfl
def Lat (s : Nat → Int32) (r : Nat) : Prop := vw s r 11 ≤ 0 ↔ vw s r 15 = -1000009
theorem c_turnL {k n : Nat} (hk : kd k = 1) (hn : n ≤ 6) :
    ∀ d i N (cnt : Int32) (u : Nat → Int32) (σ : xM), i + d = n → d < N → σ k 4 = nI n → (∀ j, j < 7 → σ (k + 1) j = u j) → σ k 5 = u 8 → (∀ r, r < n → RR (σ (k + 7 + 2 * r)) (σ (k + 7 + 2 * r + 1)) (vw u r)) → (∀ r, r < n → 0 < vw u r 0) → (∀ r, i ≤ r → r < n → Lat u r) →
      ∃ σ2, F_X1_passMinute_L12 k N cnt (nI i) σ = some ((itr tuS d i (cnt, u)).1, xup σ2 k 5 (σ2 k 5 + 1)) ∧ Frm k n σ σ2 ∧ ∀ r, r < n → RR (σ2 (k + 7 + 2 * r)) (σ2 (k + 7 + 2 * r + 1)) (vw (itr tuS d i (cnt, u)).2 r) := by
  intro d
  induction d with
  | zero =>
    intro i N cnt u σ hi hN h4 hN7 h5 hR hC hL
    obtain ⟨N, rfl⟩ : ∃ M, N = M + 1 := ⟨N - 1, by omega⟩
    obtain rfl : i = n := by omega
    refine ⟨σ, ?_, Frm.rf, hR⟩
    rw [F_X1_passMinute_L12, h4, if_pos (nI_le (Nat.le_refl i) (by omega)), nm_eq]
    rfl
  | succ d ih =>
    intro i N cnt u σ hi hN h4 hN7 h5 hR hC hL
    obtain ⟨N, rfl⟩ : ∃ M, N = M + 1 := ⟨N - 1, by omega⟩
    have hin : i < n := by omega
    have ri := hR i hin
    have hc1 : 0 < σ (k + 7 + 2 * i) 1 := by rw [ri.1.1]; exact hC i hin
    have hLi : σ (k + 7 + 2 * i) 13 ≤ 0 ↔ vw u i 15 = -1000009 := by
      have e := ri.2.1.2.2.2.2.1
      rw [e]
      exact hL i (Nat.le_refl i) hin
    obtain ⟨q1, q2⟩ := RR_set (N := σ (k + 1)) (t := σ k 5) ri hLi
    rw [turnV_congr hN7, h5] at q1 q2
    have eset := c_settle0 (k := k) (c := k + 7 + 2 * i) (σ := σ) (by omega) (by omega) hc1
    rw [h5, q2] at eset
    have q1' : RR (stkG (setG (σ (k + 1)) (u 8) (σ (k + 7 + 2 * i)))) (σ (k + 7 + 2 * i + 1)) (vw (wrv u i (turnV u (u 8) (vw u i)).2) i) := RR_v q1 (fun f hf => (vw_wrv hf).symm)
    have step : ∀ cnt2 : Int32, cnt2 = cnt + (turnV u (u 8) (vw u i)).1 → ∃ σ2, F_X1_passMinute_L12 k N cnt2 (nI (i + 1)) (upc σ (k + 7 + 2 * i) (stkG (setG (σ (k + 1)) (u 8) (σ (k + 7 + 2 * i))))) = some ((itr tuS (d + 1) i (cnt, u)).1, xup σ2 k 5 (σ2 k 5 + 1)) ∧ Frm k n σ σ2 ∧ ∀ r, r < n → RR (σ2 (k + 7 + 2 * r)) (σ2 (k + 7 + 2 * r + 1)) (vw (itr tuS (d + 1) i (cnt, u)).2 r) := by
      intro cnt2 hcnt
      subst hcnt
      have fr : Frm k n σ (upc σ (k + 7 + 2 * i) (stkG (setG (σ (k + 1)) (u 8) (σ (k + 7 + 2 * i))))) := Frm.one hin
      obtain ⟨σ2, E, F, D⟩ := ih (i + 1) N (cnt + (turnV u (u 8) (vw u i)).1) (wrv u i (turnV u (u 8) (vw u i)).2) (upc σ (k + 7 + 2 * i) (stkG (setG (σ (k + 1)) (u 8) (σ (k + 7 + 2 * i))))) (by omega) (by omega) (by rw [fr.k0]; exact h4) (fun j hj => by rw [fr.lo (j := 1) (by omega), wrv_lo (by omega)]; exact hN7 j hj) (by rw [fr.k0, wrv_lo (by omega)]; exact h5) (fun r hr => by
          by_cases hri : r = i
          · subst hri
            rw [upc_same, upc_ne (by omega)]
            exact q1'
          · rw [upc_ne (by omega), upc_ne (by omega)]
            exact RR_v (hR r hr) (fun f hf => (vw_ot hf hri).symm)) (fun r hr => by
          by_cases hri : r = i
          · subst hri
            rw [vw_wrv (by omega), turnV_0]; exact hC r hr
          · rw [vw_ot (by omega) hri]; exact hC r hr) (fun r h1 h2 => by
          unfold Lat
          rw [vw_ot (by omega) (by omega), vw_ot (by omega) (by omega)]
          exact hL r (by omega) h2)
      exact ⟨σ2, E, fr.tr F, D⟩
    rw [F_X1_passMinute_L12, h4, if_neg (nI_ge hin (by omega)), c_room h4 hin hn, bd_some, oc_some, if_pos (kd_room hk (by omega)), eset, bd_some, nI_1]
    rcases turnV_01 (N := u) (v := vw u i) (t := u 8) with z | z
    · rw [if_pos (by rw [z]; rfl)]
      exact step cnt (by rw [z, Int32.add_zero])
    · rw [if_neg (by rw [z]; decide)]
      exact step (cnt + 1) (by rw [z])
