/-! the law's function answers 1 -/
def G1 (x : Option (Int32 × xM)) : Prop := ∃ q, x = some q ∧ q.1 = 1
theorem sb {A : Option (Int32 × xM)} {K : Int32 × xM → Option (Int32 × xM)} {z : Int32} {σ' : xM} (e : A = some (z, σ')) (h : G1 (K (z, σ'))) : G1 (A.bind K) := by rw [e]; exact h
theorem sbL {A : Option (Int64 × xM)} {K : Int64 × xM → Option (Int32 × xM)} {z : Int64} {σ' : xM} (e : A = some (z, σ')) (h : G1 (K (z, σ'))) : G1 (A.bind K) := by rw [e]; exact h
theorem si {c : Prop} {_ : Decidable c} {a b : Option (Int32 × xM)} (h1 : c → G1 a) (h2 : ¬ c → G1 b) : G1 (if c then a else b) := by
  by_cases h : c
  · rw [if_pos h]; exact h1 h
  · rw [if_neg h]; exact h2 h
theorem s_n {α : Type} {x : α} {K : α → Option (Int32 × xM)} (h : G1 (K x)) : G1 (nm x K) := h
section STEPS
variable {σ τ : xM} {n p t i : Nat} {K : Int32 × xM → Option (Int32 × xM)} {KL : Int64 × xM → Option (Int32 × xM)}
theorem s_room (hG : GG σ τ) (I : Inv (τ 1) n p t) (hi : i < n) {w : Nat} (hw : w < 14) {x : Int32} (hx : x = nI w) (h : ∀ σ', GG σ' τ → G1 (K (rV (vw (τ 1) i) w, σ'))) : G1 ((F_X6_room 0 (nI i) x σ).bind K) := by
  subst hx
  obtain ⟨σ', e, h'⟩ := r_room hG I hi hw
  exact sb e (h σ' h')
theorem s_book (hG : GG σ τ) (I : Inv (τ 1) n p t) (hi : i < n) {w : Nat} (hw : w < 5) {x : Int32} (hx : x = nI w) (h : ∀ σ', GG σ' τ → G1 (K (vw (τ 1) i (16 + w), σ'))) : G1 ((F_X6_book 0 (nI i) x σ).bind K) := by
  subst hx
  obtain ⟨σ', e, h'⟩ := r_book hG I hi hw
  exact sb e (h σ' h')
theorem s_count (hG : GG σ τ) (I : Inv (τ 1) n p t) {k : Nat} (hk : k < 12) {x : Int32} (hx : x = nI k) (h : ∀ σ', GG σ' τ → G1 (K (cV (τ 1) n k, σ'))) : G1 ((F_X6_count 0 x σ).bind K) := by
  subst hx
  obtain ⟨σ', e, h'⟩ := r_count hG I hk
  exact sb e (h σ' h')
theorem s_c7 (hG : GG σ τ) (I : Inv (τ 1) n p t) (h : ∀ σ', GG σ' τ → G1 (K (nI n, σ'))) : G1 ((F_X6_count 0 7 σ).bind K) := by
  obtain ⟨σ', e, h'⟩ := r_count7 hG I
  exact sb e (h σ' h')
theorem s_c13 (hG : GG σ τ) {c : Nat} (J : JJ τ c) (h : ∀ σ', GG σ' τ → G1 (K (nI c, σ'))) : G1 ((F_X6_count 0 13 σ).bind K) := by
  obtain ⟨σ', e, h'⟩ := r_count13 hG
  rw [J.2.1] at e
  exact sb e (h σ' h')
theorem s_tale (hG : GG σ τ) (I : Inv (τ 1) n p t) (h : ∀ σ', GG σ' τ → G1 (KL (TL (τ 1) n, σ'))) : G1 ((F_L_tale 0 σ).bind KL) := by
  obtain ⟨σ', e, h'⟩ := r_tale hG I
  exact sbL e (h σ' h')
end STEPS
theorem GG_inv {σ τ : xM} (hG : GG σ τ) : ∃ n p t, t ≤ 20000 ∧ Inv (τ 1) n p t := by
  obtain ⟨⟨n, p, t, hC⟩, -, -⟩ := hG
  exact ⟨n, p, t, hC.1, hC.2.2⟩
theorem cmp_eq {x : Int64} : lg_cmp x x = 0 := (lg_cmp_eq x x).mpr rfl
theorem law_in {LX : Nat × (Nat → Int32)} {N c : Nat} {v9 v3 : Int32} (K : ∀ M, N ≤ M → ∀ σ' τ', GG σ' τ' → JJ τ' c → G1 (F_L_law_LL LX M 12 (nI c) (v3 + 1) 0 0 0 0 0 σ')) {σ τ : xM} (hG : GG σ τ) (J : JJ τ c) (h9 : v9 = 0 ∨ ∀ n, n ≤ 6 → τ 1 7 = nI n → SC (τ 1) n) : G1 (F_L_law_LL LX (N + 7) 190 (nI c) v3 v9 0 0 0 0 σ) := by
  obtain ⟨n, p, t, ht, I⟩ := GG_inv hG
  have hn := I.1
  obtain ⟨j1, j2, j3⟩ := J.2.2.1 n hn I.2.2.1
  have main : ∀ d i M v10 v11 v12 σ, N ≤ M → i + d = n → GG σ τ → v10 = sm (fun r => vw (τ 1) r 19) i → v11 = sm (susV (τ 1)) i → v12 = sm (fun r => vw (τ 1) r 12) i → G1 (F_L_law_LL LX (M + d + 1) 190 (nI c) v3 v9 v10 v11 v12 (nI i) σ) := by
    intro d
    induction d with
    | zero =>
      intro i M v10 v11 v12 σ hM hi hG h10 h11 h12
      obtain rfl : i = n := by omega
      rw [Nat.add_zero, F_L_law_LL]
      refine si (fun z => absurd z (by decide)) (fun _ => ?_)
      refine s_c7 hG I (fun σ1 hG1 => ?_)
      refine si (fun _ => ?_) (fun z => absurd (nI_le (Nat.le_refl i) (by omega)) z)
      refine si (fun _ => ?_) (fun z => absurd (h10.trans j2) z)
      refine s_count hG1 I (k := 10) (by omega) rfl (fun σ2 hG2 => ?_)
      refine si (fun _ => ?_) (fun z => absurd h11 z)
      refine s_count hG2 I (k := 11) (by omega) rfl (fun σ3 hG3 => ?_)
      refine si (fun _ => ?_) (fun z => absurd h12 z)
      refine s_tale hG3 I (fun σ4 hG4 => ?_)
      obtain ⟨r5, σ5, τ5, e5, hG5, hr5, f5⟩ := f_heatIn hG4 J
      refine sb e5 ?_
      obtain ⟨r6, σ6, τ6, e6, hG6, hr6, f6⟩ := f_soon hG5
      refine sb e6 ?_
      refine si (fun z => absurd z hr5) (fun _ => ?_)
      refine si (fun z => absurd z hr6) (fun _ => ?_)
      obtain ⟨n6, p6, t6, ht6, I6⟩ := GG_inv hG6
      have e16 : ∀ j, j < 196 → τ6 1 j = τ 1 j := fun j hj => (f6.2.2 j hj).trans (f5.2.2 j hj)
      have en : n6 = i := (nI_eq (by have := I6.1; omega) (by omega)).mp (I6.2.2.1.symm.trans ((e16 7 (by omega)).trans I.2.2.1))
      subst en
      refine s_tale hG6 I6 (fun σ7 hG7 => ?_)
      refine si (fun _ => ?_) (fun z => absurd (show lg_cmp (TL (τ6 1) n6) (TL (τ 1) n6) = 0 by rw [TL_c hn e16]; exact cmp_eq) z)
      exact K M hM σ7 τ6 hG7 (JJ_fc (JJ_fc J f5) f6)
    | succ d ih =>
      intro i M v10 v11 v12 σ hM hin hG h10 h11 h12
      have hi : i < n := by omega
      have rv := j1 i hi
      have e6 : ∀ (x11 : Int32) (σ' : xM), x11 = sm (susV (τ 1)) (i + 1) → GG σ' τ → G1 ((F_X6_room 0 (nI i) 6 σ').bind (fun q => if q.1 < 50 then F_L_law_LL LX (M + d + 1) 190 (nI c) v3 v9 (v10 + vw (τ 1) i (16 + 3)) x11 (v12 + rV (vw (τ 1) i) 8) (nI i + 1) q.2 else some (0, q.2))) := by
        intro x11 σ' hx hG'
        refine s_room hG' I hi (w := 6) (by omega) rfl (fun σ1 hG1 => ?_)
        refine si (fun _ => ?_) (fun z => ?_)
        · rw [nI_1]
          exact ih (i + 1) M _ _ _ σ1 hM (by omega) hG1 (by rw [sm, h10]) hx (by rw [sm, h12]; rfl)
        · exfalso
          apply z
          show vw (τ 1) i 10 < 50
          rw [i_lt, show (50 : Int32).toInt = 50 by decide]
          exact rv.2.2.2.1.2
      have e9 : ∀ (x11 : Int32) (σ' : xM), x11 = sm (susV (τ 1)) (i + 1) → GG σ' τ → G1 (if v9 = 0 then (F_X6_room 0 (nI i) 6 σ').bind (fun q => if q.1 < 50 then F_L_law_LL LX (M + d + 1) 190 (nI c) v3 v9 (v10 + vw (τ 1) i (16 + 3)) x11 (v12 + rV (vw (τ 1) i) 8) (nI i + 1) q.2 else some (0, q.2)) else (F_X6_room 0 (nI i) 9 σ').bind (fun q => if q.1 ≤ 0 then (F_X6_room 0 (nI i) 6 q.2).bind (fun q => if q.1 < 50 then F_L_law_LL LX (M + d + 1) 190 (nI c) v3 v9 (v10 + vw (τ 1) i (16 + 3)) x11 (v12 + rV (vw (τ 1) i) 8) (nI i + 1) q.2 else some (0, q.2)) else (F_X6_room 0 (nI i) 3 q.2).bind (fun q => if q.1 = 0 then some (0, q.2) else (F_X6_room 0 (nI i) 6 q.2).bind (fun q => if q.1 < 50 then F_L_law_LL LX (M + d + 1) 190 (nI c) v3 v9 (v10 + vw (τ 1) i (16 + 3)) x11 (v12 + rV (vw (τ 1) i) 8) (nI i + 1) q.2 else some (0, q.2))))) := by
        intro x11 σ' hx hG'
        refine si (fun _ => e6 x11 σ' hx hG') (fun z9 => ?_)
        have hSC := (h9.resolve_left z9) n hn I.2.2.1 i hi
        refine s_room hG' I hi (w := 9) (by omega) rfl (fun σ1 hG1 => ?_)
        refine si (fun _ => e6 x11 σ1 hx hG1) (fun z => ?_)
        refine s_room hG1 I hi (w := 3) (by omega) rfl (fun σ2 hG2 => ?_)
        refine si (fun z7 => ?_) (fun _ => e6 x11 σ2 hx hG2)
        exfalso
        have z' : ¬ vw (τ 1) i 13 ≤ 0 := z
        have z7' : vw (τ 1) i 7 = 0 := z7
        rcases hSC with q | q
        · rw [q] at z'; exact z' (by decide)
        · rw [q] at z7'; exact absurd z7' (by decide)
      rw [show M + (d + 1) + 1 = (M + d + 1) + 1 by omega, F_L_law_LL]
      refine si (fun z => absurd z (by decide)) (fun _ => ?_)
      refine s_c7 hG I (fun σ1 hG1 => ?_)
      refine si (fun z => absurd (show nI n ≤ nI i from z) (nI_ge hi (by omega))) (fun _ => ?_)
      refine s_book hG1 I hi (w := 3) (by omega) rfl (fun σ2 hG2 => ?_)
      refine s_n ?_
      refine s_room hG2 I hi (w := 8) (by omega) rfl (fun σ3 hG3 => ?_)
      refine s_n ?_
      refine s_room hG3 I hi (w := 9) (by omega) rfl (fun σ4 hG4 => ?_)
      refine s_count hG4 I (k := 6) (by omega) rfl (fun σ5 hG5 => ?_)
      refine si (fun c6 => ?_) (fun c6 => ?_)
      · have hx : v11 + 0 = sm (susV (τ 1)) (i + 1) := by
          have c6' : vw (τ 1) i 13 < τ 1 6 := c6
          rw [sm, h11, susV, if_pos c6']
        refine s_n ?_
        refine s_room hG5 I hi (w := 1) (by omega) rfl (fun σ6 hG6 => ?_)
        refine s_book hG6 I hi (w := 0) (by omega) rfl (fun σ7 hG7 => ?_)
        refine s_book hG7 I hi (w := 1) (by omega) rfl (fun σ8 hG8 => ?_)
        refine s_book hG8 I hi (w := 2) (by omega) rfl (fun σ9 hG9 => ?_)
        refine s_book hG9 I hi (w := 3) (by omega) rfl (fun σ10 hG10 => ?_)
        refine s_book hG10 I hi (w := 4) (by omega) rfl (fun σ11 hG11 => ?_)
        refine si (fun _ => ?_) (fun z => absurd (show vw (τ 1) i 1 = vw (τ 1) i 16 + vw (τ 1) i 17 - vw (τ 1) i 18 - vw (τ 1) i 19 + vw (τ 1) i 20 from rv.1) z)
        have F6 := fun σ' (hG' : GG σ' τ) => e6 _ σ' hx hG'
        have P9 := fun σ' (hG' : GG σ' τ) => e9 _ σ' hx hG'
        refine s_room hG11 I hi (w := 4) (by omega) rfl (fun σ12 hG12 => ?_)
        refine si (fun c8 => ?_) (fun _ => P9 σ12 hG12)
        refine s_room hG12 I hi (w := 3) (by omega) rfl (fun σ13 hG13 => ?_)
        refine si (fun z => ?_) (fun _ => P9 σ13 hG13)
        have h7 := rv.2.2.1 c8
        have z' : vw (τ 1) i 7 = 0 := z
        rw [h7] at z'
        exact absurd z' (by decide)
      · have hx : v11 + 1 = sm (susV (τ 1)) (i + 1) := by
          have c6' : ¬ vw (τ 1) i 13 < τ 1 6 := c6
          rw [sm, h11, susV, if_neg c6']
        refine s_n ?_
        refine s_room hG5 I hi (w := 1) (by omega) rfl (fun σ6 hG6 => ?_)
        refine s_book hG6 I hi (w := 0) (by omega) rfl (fun σ7 hG7 => ?_)
        refine s_book hG7 I hi (w := 1) (by omega) rfl (fun σ8 hG8 => ?_)
        refine s_book hG8 I hi (w := 2) (by omega) rfl (fun σ9 hG9 => ?_)
        refine s_book hG9 I hi (w := 3) (by omega) rfl (fun σ10 hG10 => ?_)
        refine s_book hG10 I hi (w := 4) (by omega) rfl (fun σ11 hG11 => ?_)
        refine si (fun _ => ?_) (fun z => absurd (show vw (τ 1) i 1 = vw (τ 1) i 16 + vw (τ 1) i 17 - vw (τ 1) i 18 - vw (τ 1) i 19 + vw (τ 1) i 20 from rv.1) z)
        have F6 := fun σ' (hG' : GG σ' τ) => e6 _ σ' hx hG'
        have P9 := fun σ' (hG' : GG σ' τ) => e9 _ σ' hx hG'
        refine s_room hG11 I hi (w := 4) (by omega) rfl (fun σ12 hG12 => ?_)
        refine si (fun c8 => ?_) (fun _ => P9 σ12 hG12)
        refine s_room hG12 I hi (w := 3) (by omega) rfl (fun σ13 hG13 => ?_)
        refine si (fun z => ?_) (fun _ => P9 σ13 hG13)
        have h7 := rv.2.2.1 c8
        have z' : vw (τ 1) i 7 = 0 := z
        rw [h7] at z'
        exact absurd z' (by decide)
  have := main n 0 (N + 6 - n) 0 0 0 σ (by omega) (by omega) hG rfl rfl rfl
  rw [show N + 6 - n + n + 1 = N + 7 by omega, nI_0] at this
  exact this
theorem le_neg {r : Int32} (h : r ≤ -1000000) : ¬ -1000000 < r := by
  rw [i_le] at h
  rw [i_lt]
  omega
theorem law_out {LX : Nat × (Nat → Int32)} : ∀ d i N c (σ τ : xM), i + d = 40 → GG σ τ → JJ τ c → G1 (F_L_law_LL LX (N + 8 * d + 1) 12 (nI c) (nI i) 0 0 0 0 0 σ) := by
  intro d
  induction d with
  | zero =>
    intro i N c σ τ hi hG J
    obtain rfl : i = 40 := by omega
    rw [F_L_law_LL]
    refine si (fun _ => ?_) (fun z => absurd rfl z)
    refine si (fun _ => ?_) (fun z => absurd (show (40 : Int32) ≤ nI 40 by decide) z)
    by_cases h0 : c = 0
    · subst h0
      obtain ⟨σ', e⟩ := u_none hG J
      refine sb e ?_
      refine si (fun _ => ?_) (fun z => absurd nI_0 z)
      exact si (fun _ => ⟨_, rfl, rfl⟩) (fun z => absurd rfl z)
    · obtain ⟨k, rfl⟩ : ∃ k, c = k + 1 := ⟨c - 1, by omega⟩
      have hc := J.1
      obtain ⟨σ', τ', e, -⟩ := u_ok hG J
      refine sb e ?_
      refine si (fun z => absurd z (nI_ne0 (by omega) (by omega))) (fun _ => ?_)
      exact si (fun _ => ⟨_, rfl, rfl⟩) (fun z => absurd (show nI k = nI (k + 1) - 1 from (nI_pred k).symm) z)
  | succ d ih =>
    intro i N c σ τ hi hG J
    have hc := J.1
    have K : ∀ c' M, N + 8 * d + 1 ≤ M → ∀ σ' τ', GG σ' τ' → JJ τ' c' → G1 (F_L_law_LL LX M 12 (nI c') (nI i + 1) 0 0 0 0 0 σ') := by
      intro c' M hM σ' τ' hG' J'
      have := ih (i + 1) (M - 8 * d - 1) c' σ' τ' (by omega) hG' J'
      rw [show M - 8 * d - 1 + 8 * d + 1 = M by omega, ← nI_1] at this
      exact this
    have inn : ∀ (c' : Nat) (v2 v9 : Int32) (σ' τ' : xM), v2 = nI c' → GG σ' τ' → JJ τ' c' → (v9 = 0 ∨ ∀ n, n ≤ 6 → τ' 1 7 = nI n → SC (τ' 1) n) → G1 (F_L_law_LL LX (N + 8 * d + 8) 190 v2 (nI i) v9 0 0 0 0 σ') := by
      intro c' v2 v9 σ' τ' hv hG' J' h9
      subst hv
      exact law_in (N := N + 8 * d + 1) (K c') hG' J' h9
    rw [show N + 8 * (d + 1) + 1 = (N + 8 * d + 8) + 1 by omega, F_L_law_LL]
    refine si (fun _ => ?_) (fun z => absurd rfl z)
    refine si (fun z => absurd (show (40 : Int32) ≤ nI i from z) (nI_ge (b := 40) (by omega) (by omega))) (fun _ => ?_)
    refine si (fun z => absurd z (nI_pos (by omega))) (fun _ => ?_)
    refine s_n ?_
    generalize cellV LX (nI i) = v
    obtain ⟨n, p, t, ht, I⟩ := GG_inv hG
    have hn := I.1
    refine s_tale hG I (fun σ1 hG1 => ?_)
    obtain ⟨r, σ2, τ2, e2, hG2, hD⟩ := does_ok (v := v) hG1 J
    refine sb e2 ?_
    refine si (fun cr => ?_) (fun cr => ?_)
    · -- refused
      have hr := le_neg (show r ≤ -1000000 from cr)
      obtain ⟨-, rfl⟩ : ¬ -1000000 < r ∧ τ2 = τ := hD.resolve_right (fun z => hr z.1)
      refine s_tale hG2 I (fun σ3 hG3 => ?_)
      refine si (fun _ => ?_) (fun z => absurd cmp_eq z)
      refine s_c13 hG3 J (fun σ4 hG4 => ?_)
      refine si (fun _ => ?_) (fun z => absurd rfl z)
      exact inn c _ 0 σ4 τ2 rfl hG4 J (Or.inl rfl)
    · -- done
      have hr : -1000000 < r := by
        have cr' : ¬ r ≤ -1000000 := cr
        rw [i_le] at cr'
        rw [i_lt]
        omega
      obtain ⟨-, hS, J2, hSC⟩ : -1000000 < r ∧ SV τ τ2 c ∧ JJ τ2 (min (c + 1) 6) ∧ (¬ (v &&& 15) ≤ 8 → ∀ n, n ≤ 6 → τ2 1 7 = nI n → SC (τ2 1) n) := hD.resolve_left (fun z => z.1 hr)
      -- undone: the tale is the one before
      have und : ∀ (σ5 τ5 : xM), GG σ5 τ5 → (∀ j, j < 196 → τ5 1 j = τ 1 j) → ∀ KL : Int64 × xM → Option (Int32 × xM), (∀ σ6, GG σ6 τ5 → G1 (KL (TL (τ 1) n, σ6))) → G1 ((F_L_tale 0 σ5).bind KL) := by
        intro σ5 τ5 hG5 hrow KL hK
        obtain ⟨n5, p5, t5, ht5, I5⟩ := GG_inv hG5
        have en : n5 = n := (nI_eq (by have := I5.1; omega) (by omega)).mp (I5.2.2.1.symm.trans ((hrow 7 (by omega)).trans I.2.2.1))
        subst en
        refine s_tale hG5 I5 (fun σ6 hG6 => ?_)
        rw [TL_c hn hrow]
        exact hK σ6 hG6
      refine si (fun c6 => ?_) (fun c6 => ?_)
      · -- six are saved
        have hc6 : c = 6 := by
          have c6' : (6 : Int32) ≤ nI c := c6
          rcases Nat.lt_or_ge c 6 with q | q
          · exact absurd c6' (nI_ge (b := 6) q (by omega))
          · omega
        subst hc6
        refine si (fun cu => ?_) (fun cu => ?_)
        · obtain ⟨σ5, τ5, e5, hG5, J5, hrow⟩ := u_back hc hG2 hS J2
          refine sb e5 ?_
          refine si (fun _ => ?_) (fun z => absurd (show nI (min (6 + 1) 6 - 1) = 6 - 1 by decide) z)
          refine und σ5 τ5 hG5 hrow _ (fun σ6 hG6 => ?_)
          refine si (fun _ => ?_) (fun z => absurd cmp_eq z)
          refine s_c13 hG6 J5 (fun σ7 hG7 => ?_)
          refine si (fun _ => ?_) (fun z => absurd (show nI (min (6 + 1) 6 - 1) = 6 + (-1) by decide) z)
          refine si (fun _ => inn _ _ 0 σ7 τ5 (by decide) hG7 J5 (Or.inl rfl)) (fun _ => ?_)
          exact si (fun _ => inn _ _ 0 σ7 τ5 (by decide) hG7 J5 (Or.inl rfl)) (fun z => absurd cu z)
        · refine s_c13 hG2 J2 (fun σ5 hG5 => ?_)
          refine si (fun _ => ?_) (fun z => absurd (show nI (min (6 + 1) 6) = 6 by decide) z)
          refine si (fun _ => inn _ _ 0 σ5 τ2 (by decide) hG5 J2 (Or.inl rfl)) (fun cp => ?_)
          exact si (fun z => absurd z cu) (fun _ => inn _ _ 1 σ5 τ2 (by decide) hG5 J2 (Or.inr (hSC cp)))
      · have hc6 : c < 6 := by
          rcases Nat.lt_or_ge c 6 with q | q
          · exact q
          · exact absurd (show (6 : Int32) ≤ nI c from nI_le (a := 6) q (by omega)) c6
        have hm : min (c + 1) 6 = c + 1 := by omega
        refine s_n ?_
        refine si (fun cu => ?_) (fun cu => ?_)
        · obtain ⟨σ5, τ5, e5, hG5, J5, hrow⟩ := u_back hc hG2 hS J2
          rw [hm, Nat.add_sub_cancel] at e5 J5
          refine sb e5 ?_
          refine si (fun _ => ?_) (fun z => absurd (show nI c = nI c + 1 - 1 by rw [nI_1]; exact (nI_pred c).symm) z)
          refine und σ5 τ5 hG5 hrow _ (fun σ6 hG6 => ?_)
          refine si (fun _ => ?_) (fun z => absurd cmp_eq z)
          refine s_c13 hG6 J5 (fun σ7 hG7 => ?_)
          have ec : nI c + 1 + (-1) = nI c := by grind
          refine si (fun _ => ?_) (fun z => absurd ec.symm z)
          refine si (fun _ => inn _ _ 0 σ7 τ5 ec hG7 J5 (Or.inl rfl)) (fun _ => ?_)
          exact si (fun _ => inn _ _ 0 σ7 τ5 ec hG7 J5 (Or.inl rfl)) (fun z => absurd cu z)
        · rw [hm] at J2
          refine s_c13 hG2 J2 (fun σ5 hG5 => ?_)
          refine si (fun _ => ?_) (fun z => absurd (show nI (c + 1) = nI c + 1 from (nI_1 c).symm) z)
          refine si (fun _ => inn _ _ 0 σ5 τ2 (nI_1 c) hG5 J2 (Or.inl rfl)) (fun cp => ?_)
          exact si (fun z => absurd z cu) (fun _ => inn _ _ 1 σ5 τ2 (nI_1 c) hG5 J2 (Or.inr (hSC cp)))
theorem law_1 (LX : Nat × (Nat → Int32)) : ∃ q, F_L_law LX zF = some q ∧ q.1 = 1 := by
  have := law_out (LX := LX) 40 0 (FU - 321) 0 zF zY (by omega) GG_start JJ_start
  rw [show FU - 321 + 8 * 40 + 1 = FU by rw [FU_eq], nI_0] at this
  exact this
