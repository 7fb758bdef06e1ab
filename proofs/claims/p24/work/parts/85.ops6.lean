/-! addRoom -/
theorem deg_mul {a d : Int32} (ha : 10 ≤ a.toInt ∧ a.toInt ≤ 500) (hd : -40 ≤ d.toInt ∧ d.toInt ≤ 40) : (a * d).toInt = a.toInt * d.toInt ∧ degI (a * d) a = 1000 * d := by
  have m1 : a.toInt * d.toInt ≤ a.toInt * 40 := Int.mul_le_mul_of_nonneg_left hd.2 (by omega)
  have m2 : a.toInt * (-40) ≤ a.toInt * d.toInt := Int.mul_le_mul_of_nonneg_left hd.1 (by omega)
  have e : (a * d).toInt = a.toInt * d.toInt := i_mul (by omega) (by omega)
  refine ⟨e, i_ext ?_⟩
  rw [fdiv_i (by omega) (by rw [e]; omega) (by rw [e]; omega), e, i_mul (by rw [l1000]; omega) (by rw [l1000]; omega), l1000]
  rw [show 1000 * (a.toInt * d.toInt) = a.toInt * (1000 * d.toInt) by rw [← Int.mul_assoc, Int.mul_comm 1000 a.toInt, Int.mul_assoc]]
  exact Int.mul_ediv_cancel_left _ (by omega)
theorem c_begR {c : Nat} {σ : xM} {a b l d : Int32} {v0 : Nat → Int32} (ha : 0 < a) (hT : degI (a * d) a = 1000 * d) (h0 : ∀ f, f < 21 → v0 f = 0) :
    ∃ G B, F_X3_begin c a b l d σ = some ((), upc (upc σ c G) (c + 1) B) ∧ RR G B (upd (upd (upd (upd (upd (upd (upd (upd (upd v0 0 a) 1 (a * d)) 2 b) 3 l) 4 20000) 5 1000) 6 (1000 * d)) 15 (-1000009)) 16 (a * d)) := by
  have hz : bz 0 = 0 := rfl
  unfold F_X3_begin
  simp only [nm_eq, xup_upc, upc_same, upc_upc]
  rw [c_temp0 (by rw [upc_same]; exact ha), bd_some]
  dsimp only
  simp only [upc_same, upc_upc, F_X0_begin, nm_eq, xup_upc, bd_some]
  refine ⟨_, _, rfl, ?_⟩
  refine ⟨⟨rfl, rfl, rfl, rfl, rfl, rfl, hT⟩, ⟨?_, ?_, ?_, ?_, ?_, ?_, ?_⟩, ⟨?_, rfl, rfl, ?_, ?_, ?_, ?_⟩⟩
  · exact (h0 7 (by omega)).symm
  · exact (h0 8 (by omega)).symm
  · exact (h0 9 (by omega)).symm
  · exact (h0 10 (by omega)).symm
  · exact (h0 11 (by omega)).symm
  · exact (h0 12 (by omega)).symm
  · exact (h0 13 (by omega)).symm
  · exact (h0 14 (by omega)).symm
  · exact (h0 17 (by omega)).symm
  · exact (h0 18 (by omega)).symm
  · exact (h0 19 (by omega)).symm
  · exact (h0 20 (by omega)).symm
theorem sl_0 {s : Nat → Int32} {r : Nat} (h : ∀ b, b < 6 → s (34 + 6 * r + b) = 0) : ∀ m, m ≤ 6 → sl s r m = 0 := by
  intro m
  induction m with
  | zero => intro _; rfl
  | succ m ih =>
    intro hm
    rw [sl, ih (by omega), h m (by omega)]
    rfl
theorem half_lt {a l : Int32} (ha : 10 ≤ a.toInt ∧ a.toInt ≤ 500) (hl : 0 ≤ l.toInt ∧ l.toInt ≤ 50) : a / 2 < l ↔ a < 2 * l := by
  have z2 : (2 : Int32).toInt = 2 := by decide
  rw [i_lt, i_lt, i_div (by omega), z2, i_mul (by rw [z2]; omega) (by rw [z2]; omega), z2, Int.tdiv_eq_ediv_of_nonneg (by omega)]
  omega
theorem op_addRoom {a b l d : Int32} : OpS (F_X6_addRoom 0 a b l d) (F_X7_addRoom 0 a b l d) := by
  intro σ τ hG
  have hG0 := hG
  obtain ⟨⟨n, p, t, hC⟩, hH, hT⟩ := hG
  have hn := hC.n6
  have j56 : F_X7_addRoom_J56 0 a b l d τ = some (-1000001, τ) := by unfold F_X7_addRoom_J56 F_X7_addRoom_J57; rw [if_pos rfl]
  have bad : ∃ r' σ'' τ'', some ((-1000001 : Int32), σ) = some (r', σ'') ∧ F_X7_addRoom_J56 0 a b l d τ = some (r', τ'') ∧ GG σ'' τ'' := ⟨_, σ, τ, rfl, j56, hG0⟩
  unfold F_X6_addRoom F_X7_addRoom
  simp only [Nat.zero_add]
  rw [c_in, bd_some, m_in, bd_some]
  by_cases h1 : bz (inW a 10 500) = 0
  · rw [if_pos h1, if_pos h1]; exact bad
  rw [if_neg h1, if_neg h1, c_in, bd_some, m_in, bd_some]
  by_cases h2 : bz (inW b 1 200) = 0
  · rw [if_pos h2, if_pos h2]; exact bad
  rw [if_neg h2, if_neg h2, c_in, bd_some, m_in, bd_some]
  by_cases h3 : bz (inW l 0 50) = 0
  · rw [if_pos h3, if_pos h3]; exact bad
  rw [if_neg h3, if_neg h3]
  obtain ⟨u1, u2, -⟩ := inW_1 h1
  obtain ⟨u3, u4, -⟩ := inW_1 h2
  obtain ⟨u5, u6, -⟩ := inW_1 h3
  have lits : (10 : Int32).toInt = 10 ∧ (500 : Int32).toInt = 500 ∧ (1 : Int32).toInt = 1 ∧ (200 : Int32).toInt = 200 ∧ (0 : Int32).toInt = 0 ∧ (50 : Int32).toInt = 50 ∧ (-40 : Int32).toInt = -40 ∧ (40 : Int32).toInt = 40 ∧ (2 : Int32).toInt = 2 := by decide
  obtain ⟨y1, y2, y3, y4, y5, y6, y7, y8, y9⟩ := lits
  rw [y1] at u1
  rw [y2] at u2
  rw [y3] at u3
  rw [y4] at u4
  rw [y5] at u5
  rw [y6] at u6
  have hh := half_lt (a := a) (l := l) ⟨u1, u2⟩ ⟨u5, u6⟩
  by_cases h4 : a / 2 < l
  · rw [if_pos h4, if_pos (hh.mp h4)]; exact bad
  rw [if_neg h4, if_neg (fun z => h4 (hh.mpr z)), c_in, bd_some, m_in, bd_some]
  by_cases h5 : bz (inW d (-40) 40) = 0
  · rw [if_pos h5, if_pos h5]; exact bad
  rw [if_neg h5, if_neg h5]
  obtain ⟨u7, u8, -⟩ := inW_1 h5
  rw [y7] at u7
  rw [y8] at u8
  dsimp only
  unfold F_X7_addRoom_J57
  simp only [Nat.zero_add]
  rw [if_neg (show ¬ (1 : Int32) = 0 by decide), if_pos inl7]
  by_cases h6 : n = 6
  · subst h6
    rw [if_neg (show ¬ σ 1 4 < 6 by rw [hC.s4]; decide), if_pos (show τ 1 (Int32.toNatClampNeg 7) = 6 by rw [cll7, hC.t7]; rfl)]
    exact ⟨_, σ, τ, rfl, rfl, hG0⟩
  rw [if_pos (show σ 1 4 < 6 by rw [hC.s4]; exact nI_lt (b := 6) (by omega) (by omega)), if_neg (show ¬ τ 1 (Int32.toNatClampNeg 7) = 6 by rw [cll7, hC.t7]; exact fun z => h6 ((nI_eq (b := 6) (by omega) (by omega)).mp z))]
  obtain ⟨σ', τ', E, N, hC', hH', hT', f1, f2, f3⟩ := after hC hH hT
  rw [E, bd_some, N, bd_some]
  dsimp only
  rw [if_pos inl7, nm_eq, if_pos inl7, if_pos inl7, nm_eq, cll7, hC'.t7, nI_1]
  obtain ⟨ht, R, I⟩ := hC'
  have hz := I.2.2.2.2.2.2.2.2
  obtain ⟨dm1, dm2⟩ := deg_mul (a := a) (d := d) ⟨u1, u2⟩ ⟨u7, u8⟩
  have ha0 : 0 < a := by rw [i_lt, y5]; omega
  -- the reference's row
  generalize hτ : xup τ' 1 7 (nI (n + 1)) = τ2
  have t1 : τ2 1 = upd (τ' 1) 7 (nI (n + 1)) := by rw [← hτ, xup_same]
  have to : ∀ i, i ≠ 1 → τ2 i = τ' i := fun i hi => by rw [← hτ, xup_ne hi]
  have v0z : ∀ f, f < 21 → vw (τ2 1) n f = 0 := fun f hf => by
    rw [t1]
    show upd (τ' 1) 7 _ (70 + 21 * n + f) = 0
    rw [upd_ne (by omega)]
    exact hz n (Nat.le_refl n) (by omega) f hf
  generalize hv0 : vw (τ2 1) n = v0 at v0z
  have hm : ((F_X7_puts 0 (nI n) 0 a τ2).bind fun q12 => (F_X7_puts 0 (nI n) 1 (a * d) q12.2).bind fun q13 => (F_X7_puts 0 (nI n) 2 b q13.2).bind fun q14 => (F_X7_puts 0 (nI n) 3 l q14.2).bind fun q15 => (F_X7_puts 0 (nI n) 4 20000 q15.2).bind fun q16 => (F_X7_puts 0 (nI n) 5 1000 q16.2).bind fun q17 => (F_X7_puts 0 (nI n) 6 (1000 * d) q17.2).bind fun q18 => (F_X7_puts 0 (nI n) 15 (-1000009) q18.2).bind fun q19 => (F_X7_puts 0 (nI n) 16 (a * d) q19.2).bind fun q20 => some (nI n, q20.2)) =
      some (nI n, stm τ2 n (upd (upd (upd (upd (upd (upd (upd (upd (upd v0 0 a) 1 (a * d)) 2 b) 3 l) 4 20000) 5 1000) 6 (1000 * d)) 15 (-1000009)) 16 (a * d))) := by
    have n6 : n < 6 := by omega
    have hst : τ2 = stm τ2 n v0 := by rw [← hv0]; exact stm_self.symm
    have p : ∀ (f : Nat) (x : Int32) (v : Nat → Int32), f < 21 → F_X7_puts 0 (nI n) (nI f) x (stm τ2 n v) = some ((), stm τ2 n (upd v f x)) := fun f x v hf => puts_st n6 hf
    rw [show F_X7_puts 0 (nI n) 0 a τ2 = some ((), stm τ2 n (upd v0 0 a)) by
      have := p 0 a v0 (by omega)
      rw [← hst] at this
      exact this, bd_some]
    dsimp only
    rw [show (1 : Int32) = nI 1 from rfl, p _ _ _ (by omega), bd_some]
    dsimp only
    rw [show (2 : Int32) = nI 2 from rfl, p _ _ _ (by omega), bd_some]
    dsimp only
    rw [show (3 : Int32) = nI 3 from rfl, p _ _ _ (by omega), bd_some]
    dsimp only
    rw [show (4 : Int32) = nI 4 from rfl, p _ _ _ (by omega), bd_some]
    dsimp only
    rw [show (5 : Int32) = nI 5 from rfl, p _ _ _ (by omega), bd_some]
    dsimp only
    rw [show (6 : Int32) = nI 6 from rfl, p _ _ _ (by omega), bd_some]
    dsimp only
    rw [show (15 : Int32) = nI 15 from rfl, p _ _ _ (by omega), bd_some]
    dsimp only
    rw [show (16 : Int32) = nI 16 from rfl, p _ _ _ (by omega), bd_some]
  obtain ⟨G, B, eG, hGB⟩ := c_begR (c := 1 + 7 + 2 * n) (σ := xup σ' 1 4 (nI (n + 1))) (b := b) (l := l) ha0 dm2 v0z
  have hcl : F_X1_beginRoom 1 a b l d σ' = some (nI n, upc (upc (xup σ' 1 4 (nI (n + 1))) (1 + 7 + 2 * n) G) (1 + 7 + 2 * n + 1) B) := by
    unfold F_X1_beginRoom
    rw [nm_eq, R.2.1, nI_1, nm_eq, c_room (n := n + 1) (by rw [xup_same, upd_same]) (by omega) (by omega), bd_some]
    show oc (some (1 + 7 + 2 * n)) _ _ = _
    rw [oc_some, if_pos (kd_room rfl (by omega))]
    dsimp only
    rw [eG, bd_some]
  rw [hcl, bd_some, hm]
  dsimp only
  refine ⟨_, _, _, rfl, rfl, ?_⟩
  generalize hv : upd (upd (upd (upd (upd (upd (upd (upd (upd v0 0 a) 1 (a * d)) 2 b) 3 l) 4 20000) 5 1000) 6 (1000 * d)) 15 (-1000009)) 16 (a * d) = v at hGB
  generalize hσ : upc (upc (xup σ' 1 4 (nI (n + 1))) (1 + 7 + 2 * n) G) (1 + 7 + 2 * n + 1) B = σ2
  have so : ∀ i, i ≠ 1 → i ≠ 1 + 7 + 2 * n → i ≠ 1 + 7 + 2 * n + 1 → σ2 i = σ' i := fun i i1 i2 i3 => by rw [← hσ, upc_ne i3, upc_ne i2, xup_ne i1]
  have s1 : σ2 1 = upd (σ' 1) 4 (nI (n + 1)) := by rw [← hσ, upc_ne (by omega), upc_ne (by omega), xup_same]
  have hs : ∀ j, j < 70 → j ≠ 7 → wrv (τ2 1) n v j = τ' 1 j := fun j hj h7 => by rw [wrv_lo hj, t1, upd_ne h7]
  have hold : ∀ q f, q ≠ n → f < 21 → vw (wrv (τ2 1) n v) q f = vw (τ' 1) q f := fun q f hq hf => by
    rw [vw_ot hf hq, t1]
    exact upd_ne (by omega)
  obtain ⟨hN7, k4, k5, ⟨hw, hW⟩, hL, hRR⟩ := R
  obtain ⟨hn', ht', i7, i8, iN, iW, iL, iV, iz⟩ := I
  refine ⟨⟨n + 1, p, t, ht, ⟨fun j hj => ?_, ?_, ?_, ⟨?_, fun j hj => ⟨?_, ?_⟩⟩, fun i hi => ?_, fun q hq => ?_⟩, ⟨by omega, ht', ?_, ?_, ?_, ?_, ?_, ?_, ?_⟩⟩, HG_c hH' (fun i h1 h2 => so i (by omega) (by omega) (by omega)) (fun j => by rw [stm_ne (by omega), to 2 (by omega)]) (by rw [stm_ne (by omega), to 0 (by omega)]), TG_c hT' (by rw [so 155 (by omega) (by omega) (by omega)]) (fun j => by rw [so 156 (by omega) (by omega) (by omega)]) (fun j => by rw [stm_ne (by omega), to 3 (by omega)]) (by rw [stm_ne (by omega), to 0 (by omega)])⟩
  · rw [stm_1, so _ (by omega) (by omega) (by omega), hs _ (by omega) (by omega)]; exact hN7 j hj
  · rw [s1, upd_same]
  · rw [stm_1, s1, upd_ne (by omega), hs _ (by omega) (by omega)]; exact k5
  · rw [so _ (by omega) (by omega) (by omega)]; exact hw
  · have := iW.1; rw [stm_1, so _ (by omega) (by omega) (by omega), hs _ (by omega) (by omega)]; exact (hW j hj).1
  · have := iW.1; rw [stm_1, so _ (by omega) (by omega) (by omega), hs _ (by omega) (by omega)]; exact (hW j hj).2
  · rw [stm_1, so _ (by omega) (by omega) (by omega), hs _ (by omega) (by omega)]; exact hL i hi
  · rw [stm_1]
    by_cases e : q = n
    · subst e
      rw [← hσ, upc_ne (by omega), upc_same, upc_same]
      exact RR_v hGB (fun f hf => (vw_wrv hf).symm)
    · rw [so _ (by omega) (by omega) (by omega), so _ (by omega) (by omega) (by omega)]
      exact RR_v (hRR q (by omega)) (fun f hf => (hold q f e hf).symm)
  · rw [stm_1, wrv_lo (by omega), t1, upd_same]
  · rw [stm_1, hs _ (by omega) (by omega)]; exact i8
  · rw [stm_1]; unfold IvN; rw [hs 4 (by omega) (by omega), hs 5 (by omega) (by omega)]; exact iN
  · rw [stm_1]
    obtain ⟨w1, w2, w3, w4, w5⟩ := iW
    refine ⟨w1, by rw [hs 9 (by omega) (by omega)]; exact w2, fun j hj => ?_, fun j hj => ?_, fun j hj => ?_⟩
    · rw [hs _ (by omega) (by omega)]; exact w3 j hj
    · rw [hs _ (by omega) (by omega), hs _ (by omega) (by omega)]; exact w4 j hj
    · rw [hs _ (by omega) (by omega)]; exact w5 j hj
  · rw [stm_1]
    intro a b ha hb
    rw [hs _ (by omega) (by omega), hs _ (by omega) (by omega)]
    obtain ⟨l1, l2, l3, l4⟩ := iL a b ha hb
    exact ⟨l1, l2, l3, fun z => l4 (by omega)⟩
  · rw [stm_1]
    intro q hq
    rw [sl_congr (s' := τ' 1) (show q < 6 by omega) (fun j h1 h2 => hs j (by omega) (by omega)) 6 (by omega)]
    by_cases e : q = n
    · subst e
      have hS : sl (τ' 1) q 6 = 0 := sl_0 (fun b hb => (iL q b (by omega) hb).2.2.2 (Nat.le_refl q)) 6 (by omega)
      rw [hS]
      refine IvV_v (v := v) ?_ (fun f hf => (vw_wrv hf).symm)
      have w0 : v 0 = a := by rw [← hv, upd_ne (by omega), upd_ne (by omega), upd_ne (by omega), upd_ne (by omega), upd_ne (by omega), upd_ne (by omega), upd_ne (by omega), upd_ne (by omega), upd_same]
      have w1 : v 1 = a * d := by rw [← hv, upd_ne (by omega), upd_ne (by omega), upd_ne (by omega), upd_ne (by omega), upd_ne (by omega), upd_ne (by omega), upd_ne (by omega), upd_same]
      have w2 : v 2 = b := by rw [← hv, upd_ne (by omega), upd_ne (by omega), upd_ne (by omega), upd_ne (by omega), upd_ne (by omega), upd_ne (by omega), upd_same]
      have w3 : v 3 = l := by rw [← hv, upd_ne (by omega), upd_ne (by omega), upd_ne (by omega), upd_ne (by omega), upd_ne (by omega), upd_same]
      have w7 : v 7 = 0 := by rw [← hv, upd_ne (by omega), upd_ne (by omega), upd_ne (by omega), upd_ne (by omega), upd_ne (by omega), upd_ne (by omega), upd_ne (by omega), upd_ne (by omega), upd_ne (by omega)]; exact v0z 7 (by omega)
      have w14 : v 14 = 0 := by rw [← hv, upd_ne (by omega), upd_ne (by omega), upd_ne (by omega), upd_ne (by omega), upd_ne (by omega), upd_ne (by omega), upd_ne (by omega), upd_ne (by omega), upd_ne (by omega)]; exact v0z 14 (by omega)
      have w11 : v 11 = 0 := by rw [← hv, upd_ne (by omega), upd_ne (by omega), upd_ne (by omega), upd_ne (by omega), upd_ne (by omega), upd_ne (by omega), upd_ne (by omega), upd_ne (by omega), upd_ne (by omega)]; exact v0z 11 (by omega)
      have w12 : v 12 = 0 := by rw [← hv, upd_ne (by omega), upd_ne (by omega), upd_ne (by omega), upd_ne (by omega), upd_ne (by omega), upd_ne (by omega), upd_ne (by omega), upd_ne (by omega), upd_ne (by omega)]; exact v0z 12 (by omega)
      have w15 : v 15 = -1000009 := by rw [← hv, upd_ne (by omega), upd_same]
      have m1 : a.toInt * d.toInt ≤ a.toInt * 40 := Int.mul_le_mul_of_nonneg_left u8 (by omega)
      have m2 : a.toInt * (-40) ≤ a.toInt * d.toInt := Int.mul_le_mul_of_nonneg_left u7 (by omega)
      have h4' : ¬ a < 2 * l := fun z => h4 (hh.mpr z)
      rw [i_lt, i_mul (by rw [y9]; omega) (by rw [y9]; omega), y9] at h4'
      unfold IvV IvF
      rw [w0, w1, w2, w3, w7, w14, w11, w12, w15, dm1]
      exact ⟨⟨⟨u1, u2⟩, ⟨u3, u4⟩, ⟨u5, by omega⟩, ⟨by omega, by omega⟩, Or.inl rfl, Or.inl rfl, ⟨0, by omega, rfl, Or.inl ⟨rfl, rfl⟩⟩, ⟨0, by omega, rfl⟩⟩, Or.inl (by omega)⟩
    · exact IvV_v (iV q (by omega)) (fun f hf => (hold q f e hf).symm)
  · rw [stm_1]
    intro q hq hq6 f hf
    rw [hold q f (by omega) hf]
    exact iz q (by omega) hq6 f hf
