/-! the two sides' states, side by side -/
def CG (σ τ : xM) (n p t : Nat) : Prop := t ≤ 20000 ∧ Rel 1 n p σ (τ 1) ∧ Inv (τ 1) n p t
def HG (σ τ : xM) : Prop := ∃ c x : Nat, c ≤ 6 ∧ x < 6 ∧ τ 0 2 = nI c ∧ σ 39 2 = nI c ∧ σ 39 1 = nI x ∧ ∀ i, i < c → ∃ n p t : Nat, t ≤ 20000 ∧ Rel (41 + 19 * ((x + 6 - c + i) % 6)) n p σ (fun j => τ 2 (196 * i + j)) ∧ Inv (fun j => τ 2 (196 * i + j)) n p t
noncomputable def bt (x : Nat) : Int32 := vp_nar .byte ((nI x).toInt8.toInt32)
def TG (σ τ : xM) : Prop := ∃ m : Nat, m ≤ 100 ∧ τ 0 4 = nI m ∧ σ 155 1 = nI m ∧ ∀ i, i < m → ∃ x : Nat, x < 256 ∧ σ 156 i = nI x ∧ τ 3 i = bt x
def GG (σ τ : xM) : Prop := (∃ n p t, CG σ τ n p t) ∧ HG σ τ ∧ TG σ τ
theorem Inv.p12 {s : Nat → Int32} {n p t : Nat} (h : Inv s n p t) : p ≤ 12 := h.2.2.2.2.2.1.1
theorem HG_c {σ τ σ' τ' : xM} (h : HG σ τ) (hσ : ∀ i, 39 ≤ i → i < 155 → σ' i = σ i) (h2 : ∀ j, τ' 2 j = τ 2 j) (h0 : τ' 0 2 = τ 0 2) : HG σ' τ' := by
  obtain ⟨c, x, hc, hx, a, b, d, H⟩ := h
  refine ⟨c, x, hc, hx, by rw [h0]; exact a, by rw [hσ 39 (by omega) (by omega)]; exact b, by rw [hσ 39 (by omega) (by omega)]; exact d, fun i hi => ?_⟩
  obtain ⟨n, p, t, ht, R, I⟩ := H i hi
  exact ⟨n, p, t, ht, Rel_c I.1 I.p12 R (fun j hj => hσ _ (by omega) (by omega)) (fun j _ => h2 _), Inv_c I (fun j _ => h2 _)⟩
theorem TG_c {σ τ σ' τ' : xM} (h : TG σ τ) (h1 : σ' 155 1 = σ 155 1) (h2 : ∀ j, σ' 156 j = σ 156 j) (h3 : ∀ j, τ' 3 j = τ 3 j) (h0 : τ' 0 4 = τ 0 4) : TG σ' τ' := by
  obtain ⟨m, hm, a, b, H⟩ := h
  refine ⟨m, hm, by rw [h0]; exact a, by rw [h1]; exact b, fun i hi => ?_⟩
  obtain ⟨x, hx, e1, e2⟩ := H i hi
  exact ⟨x, hx, by rw [h2]; exact e1, by rw [h3]; exact e2⟩
theorem CG_c {σ τ σ' τ' : xM} {n p t : Nat} (h : CG σ τ n p t) (hσ : ∀ i, 1 ≤ i → i < 20 → σ' i = σ i) (h1 : ∀ j, j < 196 → τ' 1 j = τ 1 j) : CG σ' τ' n p t := by
  obtain ⟨ht, R, I⟩ := h
  exact ⟨ht, Rel_c I.1 I.p12 R (fun j hj => hσ _ (by omega) (by omega)) h1, Inv_c I h1⟩
theorem c_stateAt {x : Nat} {σ : xM} (hx : x < 6) : F_X2_stateAt 39 (nI x) σ = some (some (41 + 19 * x), σ) := by
  unfold F_X2_stateAt
  rw [if_neg (nI_pos (by omega)), if_neg (show ¬ (6 : Int32) ≤ nI x from nI_ge (b := 6) (by omega) (by omega)), if_pos (inb_nI (by omega) (by omega)), cl_nI (by omega)]
theorem kd_41 {x : Nat} (hx : x < 6) : kd (41 + 19 * x) = 1 := (by decide +kernel : ∀ x, x < 6 → kd (41 + 19 * x) = 1) x hx
theorem nx_eq {x : Nat} (hx : x < 6) : (nI x + 1) - (nI x + 1) / 6 * 6 = nI ((x + 1) % 6) := (by decide +kernel : ∀ x, x < 6 → (nI x + 1) - (nI x + 1) / 6 * 6 = nI ((x + 1) % 6)) x hx
theorem pv_eq {x : Nat} (hx : x < 6) : ((nI x + 6) - 1) - ((nI x + 6) - 1) / 6 * 6 = nI ((x + 5) % 6) := (by decide +kernel : ∀ x, x < 6 → ((nI x + 6) - 1) - ((nI x + 6) - 1) / 6 * 6 = nI ((x + 5) % 6)) x hx
theorem c_min6 {c : Nat} {σ : xM} (hc : c ≤ 6) : F_J9_min_7cf53 (nI c + 1) 6 σ = some (nI (min (c + 1) 6), σ) := by
  unfold F_J9_min_7cf53
  rw [nI_1]
  by_cases h : c = 6
  · subst h; rw [if_pos (by decide)]; rfl
  · rw [if_neg (show ¬ (6 : Int32) < nI (c + 1) from nI_nlt (a := 6) (by omega) (by omega)), show min (c + 1) 6 = c + 1 by omega]
theorem save {σ τ : xM} {n p t : Nat} (hC : CG σ τ n p t) (hH : HG σ τ) : ∃ σ' τ', F_X2_save 39 1 σ = some ((), σ') ∧ F_X7_notes 0 τ = some ((), τ') ∧ HG σ' τ' ∧ (∀ i, (i < 39 ∨ 155 ≤ i) → σ' i = σ i) ∧ (∀ i, i ≠ 0 → i ≠ 2 → τ' i = τ i) ∧ ∀ j, j ≠ 2 → τ' 0 j = τ 0 j := by
  obtain ⟨ht, R, I⟩ := hC
  obtain ⟨c, x, hc, hx, a, b, d, H⟩ := hH
  obtain ⟨σ1, E, R1, F⟩ := c_copy (k := 41 + 19 * x) (c := 1) (kd_41 hx) rfl (by omega) I.1 I.p12 R
  have s1 : σ1 39 = σ 39 := F 39 (by omega)
  refine ⟨xup (xup σ1 39 1 (nI ((x + 1) % 6))) 39 2 (nI (min (c + 1) 6)), _, ?_, m_notes hc a, ?_, ?_, ?_, ?_⟩
  · unfold F_X2_save
    rw [d, c_stateAt hx, bd_some]
    show oc (some (41 + 19 * x)) _ _ = _
    rw [oc_some, if_pos (kd_41 hx), E, bd_some]
    dsimp only
    rw [nm_eq, s1, d, nx_eq hx, xup_same, upd_ne (by omega), s1, b, c_min6 hc, bd_some]
    rfl
  · have m39 : ∀ i, i ≠ 39 → xup (xup σ1 39 1 (nI ((x + 1) % 6))) 39 2 (nI (min (c + 1) 6)) i = σ1 i := fun i hi => by rw [xup_ne hi, xup_ne hi]
    refine ⟨min (c + 1) 6, (x + 1) % 6, by omega, by omega, ?_, ?_, ?_, fun i hi => ?_⟩
    · rw [upc_same, upd_same]
    · rw [xup_same, upd_same]
    · rw [xup_same, upd_ne (by omega), xup_same, upd_same]
    · by_cases hl : i + 1 = min (c + 1) 6
      · have hy : ((x + 1) % 6 + 6 - min (c + 1) 6 + i) % 6 = x := by omega
        have hs : ∀ j, j < 196 → (upc (upc τ 2 (nts (τ 2) (τ 1) c)) 0 (upd (τ 0) 2 (nI (min (c + 1) 6)))) 2 (196 * i + j) = τ 1 j := by
          intro j hj
          rw [upc_ne (by omega), upc_same]
          unfold nts pas
          by_cases h6 : c = 6
          · rw [if_pos h6, if_pos (by omega)]; exact congrArg (τ 1) (by omega)
          · rw [if_neg h6, if_pos (by omega)]; exact congrArg (τ 1) (by omega)
        rw [hy]
        exact ⟨n, p, t, ht, Rel_c I.1 I.p12 R1 (fun j hj => m39 _ (by omega)) hs, Inv_c I hs⟩
      · -- an older one
        obtain ⟨i', hi', e1, e2⟩ : ∃ i', i' < c ∧ ((x + 1) % 6 + 6 - min (c + 1) 6 + i) % 6 = (x + 6 - c + i') % 6 ∧ i' = (if c = 6 then i + 1 else i) := by
          by_cases h6 : c = 6
          · exact ⟨i + 1, by omega, by omega, by rw [if_pos h6]⟩
          · exact ⟨i, by omega, by omega, by rw [if_neg h6]⟩
        obtain ⟨n', p', t', ht', R', I'⟩ := H i' hi'
        have hne : (x + 6 - c + i') % 6 ≠ x := by
          by_cases h6 : c = 6
          · rw [if_pos h6] at e2; omega
          · omega
        have hs : ∀ j, j < 196 → (upc (upc τ 2 (nts (τ 2) (τ 1) c)) 0 (upd (τ 0) 2 (nI (min (c + 1) 6)))) 2 (196 * i + j) = τ 2 (196 * i' + j) := by
          intro j hj
          rw [upc_ne (by omega), upc_same]
          unfold nts pas shf
          by_cases h6 : c = 6
          · rw [if_pos h6] at e2
            rw [if_pos h6]; rw [if_neg (by omega), if_pos (by omega)]; exact congrArg (τ 2) (by omega)
          · rw [if_neg h6] at e2
            rw [if_neg h6]; rw [if_neg (by omega), e2]
        rw [e1]
        exact ⟨n', p', t', ht', Rel_c I'.1 I'.p12 R' (fun j hj => by rw [m39 _ (by omega), F _ (by omega)]) hs, Inv_c I' hs⟩
  · intro i hi
    rw [xup_ne (by omega), xup_ne (by omega), F i (by omega)]
  · intro i h0 h2
    rw [upc_ne h0, upc_ne h2]
  · intro j hj
    rw [upc_same, upd_ne hj]
