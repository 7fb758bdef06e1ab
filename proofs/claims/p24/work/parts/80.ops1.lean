/-! the operations, one by one -/
def OpS (A B : xM → Option (Int32 × xM)) : Prop := ∀ σ τ, GG σ τ → ∃ r σ' τ', A σ = some (r, σ') ∧ B τ = some (r, τ') ∧ GG σ' τ'
theorem after {σ τ : xM} {n p t : Nat} (hC : CG σ τ n p t) (hH : HG σ τ) (hT : TG σ τ) : ∃ σ' τ', F_X2_save 39 1 σ = some ((), σ') ∧ F_X7_notes 0 τ = some ((), τ') ∧ CG σ' τ' n p t ∧ HG σ' τ' ∧ TG σ' τ' ∧ (∀ i, (i < 39 ∨ 155 ≤ i) → σ' i = σ i) ∧ (∀ i, i ≠ 0 → i ≠ 2 → τ' i = τ i) ∧ ∀ j, j ≠ 2 → τ' 0 j = τ 0 j := by
  obtain ⟨σ', τ', E, N, H, f1, f2, f3⟩ := save hC hH
  exact ⟨σ', τ', E, N, CG_c hC (fun i h1 h2 => f1 i (by omega)) (fun j _ => by rw [f2 1 (by omega) (by omega)]), H, TG_c hT (by rw [f1 155 (by omega)]) (fun j => by rw [f1 156 (by omega)]) (fun j => by rw [f2 3 (by omega) (by omega)]) (f3 4 (by omega)), f1, f2, f3⟩
theorem Rel_set {k n p r : Nat} {σ σ2 : xM} {s v : Nat → Int32} (hn : n ≤ 6) (hp : p ≤ 12) (h : Rel k n p σ s) (hr : r < n) (hv : RR (σ2 (k + 7 + 2 * r)) (σ2 (k + 7 + 2 * r + 1)) v) (ho : ∀ i, i ≠ k + 7 + 2 * r → i ≠ k + 7 + 2 * r + 1 → σ2 i = σ i) : Rel k n p σ2 (wrv s r v) := by
  obtain ⟨hN7, h4, h5, ⟨hw, hW⟩, hL, hRR⟩ := h
  refine ⟨fun j hj => ?_, ?_, ?_, ⟨?_, fun j hj => ⟨?_, ?_⟩⟩, fun i hi => ?_, fun q hq => ?_⟩
  · rw [ho _ (by omega) (by omega), wrv_lo (by omega)]; exact hN7 j hj
  · rw [ho _ (by omega) (by omega)]; exact h4
  · rw [ho _ (by omega) (by omega), wrv_lo (by omega)]; exact h5
  · rw [ho _ (by omega) (by omega)]; exact hw
  · rw [ho _ (by omega) (by omega), wrv_lo (by omega)]; exact (hW j hj).1
  · rw [ho _ (by omega) (by omega), wrv_lo (by omega)]; exact (hW j hj).2
  · rw [ho _ (by omega) (by omega), wrv_lo (by omega)]; exact hL i hi
  · by_cases e : q = r
    · subst e
      exact RR_v hv (fun f hf => (vw_wrv hf).symm)
    · rw [ho _ (by omega) (by omega), ho _ (by omega) (by omega)]
      exact RR_v (hRR q hq) (fun f hf => (vw_ot hf e).symm)
theorem Inv_set {s v : Nat → Int32} {n p t r : Nat} (h : Inv s n p t) (hr : r < n) (hv : IvV v (sl s r 6) t) : Inv (wrv s r v) n p t := by
  obtain ⟨hn, ht, h7, h8, hN, hW, hL, hV, hz⟩ := h
  have lo : ∀ j, j < 70 → wrv s r v j = s j := fun j hj => wrv_lo hj
  refine ⟨hn, ht, ?_, ?_, ?_, ?_, ?_, ?_, ?_⟩
  · rw [lo _ (by omega)]; exact h7
  · rw [lo _ (by omega)]; exact h8
  · unfold IvN; rw [lo 4 (by omega), lo 5 (by omega)]; exact hN
  · obtain ⟨w1, w2, w3, w4, w5⟩ := hW
    refine ⟨w1, by rw [lo 9 (by omega)]; exact w2, fun j hj => ?_, fun j hj => ?_, fun j hj => ?_⟩
    · rw [lo _ (by omega)]; exact w3 j hj
    · rw [lo _ (by omega), lo _ (by omega)]; exact w4 j hj
    · rw [lo _ (by omega)]; exact w5 j hj
  · intro a b ha hb
    rw [lo _ (by omega), lo _ (by omega)]
    exact hL a b ha hb
  · intro q hq
    rw [sl_congr (s' := s) (show q < 6 by omega) (fun j h1 h2 => lo j h2) 6 (by omega)]
    by_cases e : q = r
    · subst e
      exact IvV_v hv (fun f hf => (vw_wrv hf).symm)
    · exact IvV_v (hV q hq) (fun f hf => (vw_ot hf e).symm)
  · intro q hq hq6 f hf
    rw [vw_ot hf (by omega)]
    exact hz q hq hq6 f hf
theorem GG_set {σ τ σ2 : xM} {n p t r : Nat} {v : Nat → Int32} (hC : CG σ τ n p t) (hH : HG σ τ) (hT : TG σ τ) (hr : r < n) (hv : RR (σ2 (1 + 7 + 2 * r)) (σ2 (1 + 7 + 2 * r + 1)) v) (ho : ∀ i, i ≠ 1 + 7 + 2 * r → i ≠ 1 + 7 + 2 * r + 1 → σ2 i = σ i)
    (hV : IvV v (sl (τ 1) r 6) t) : GG σ2 (stm τ r v) := by
  obtain ⟨ht, R, I⟩ := hC
  have hn := I.1
  refine ⟨⟨n, p, t, ht, ?_, ?_⟩, HG_c hH (fun i h1 h2 => ho i (by omega) (by omega)) (fun j => by rw [stm_ne (by omega)]) (by rw [stm_ne (by omega)]), TG_c hT (by rw [ho 155 (by omega) (by omega)]) (fun j => by rw [ho 156 (by omega) (by omega)]) (fun j => by rw [stm_ne (by omega)]) (by rw [stm_ne (by omega)])⟩
  · rw [stm_1]; exact Rel_set hn I.p12 R hr hv ho
  · rw [stm_1]; exact Inv_set I hr hV
theorem CG.n6 {σ τ : xM} {n p t : Nat} (h : CG σ τ n p t) : n ≤ 6 := h.2.2.1
theorem CG.s4 {σ τ : xM} {n p t : Nat} (h : CG σ τ n p t) : σ 1 4 = nI n := h.2.1.2.1
theorem CG.t7 {σ τ : xM} {n p t : Nat} (h : CG σ τ n p t) : τ 1 7 = nI n := h.2.2.2.2.1
theorem CG.rr {σ τ : xM} {n p t r : Nat} (h : CG σ τ n p t) (hr : r < n) : RR (σ (1 + 7 + 2 * r)) (σ (1 + 7 + 2 * r + 1)) (vw (τ 1) r) := h.2.1.2.2.2.2.2 r hr
theorem CG.iv {σ τ : xM} {n p t r : Nat} (h : CG σ τ n p t) (hr : r < n) : IvV (vw (τ 1) r) (sl (τ 1) r 6) t := h.2.2.2.2.2.2.2.2.2.1 r hr
theorem IvV_f {v v' : Nat → Int32} {S : Int} {t : Nat} (h : IvV v S t) (e : ∀ f, f = 0 ∨ f = 1 ∨ f = 2 ∨ f = 3 ∨ f = 11 ∨ f = 12 ∨ f = 14 ∨ f = 15 → v f = v' f) (e7 : v' 7 = 0 ∨ v' 7 = 1) : IvV v' S t := by
  obtain ⟨⟨h0, h2, h3, h1, h7, h14, h11, h12⟩, hx⟩ := h
  refine ⟨⟨?_, ?_, ?_, ?_, e7, ?_, ?_, ?_⟩, ?_⟩
  · rw [← e 0 (by simp)]; exact h0
  · rw [← e 2 (by simp)]; exact h2
  · rw [← e 0 (by simp), ← e 3 (by simp)]; exact h3
  · rw [← e 0 (by simp), ← e 1 (by simp)]; exact h1
  · rw [← e 14 (by simp)]; exact h14
  · rw [← e 11 (by simp), ← e 15 (by simp)]; exact h11
  · rw [← e 12 (by simp)]; exact h12
  · rw [← e 0 (by simp), ← e 1 (by simp), ← e 14 (by simp)]; exact hx
theorem op_service {x : Int32} : OpS (F_X6_service 0 x) (F_X7_service 0 x) := by
  intro σ τ hG
  obtain ⟨⟨n, p, t, hC⟩, hH, hT⟩ := hG
  unfold F_X6_service F_X7_service
  simp only [Nat.zero_add]
  rw [m_isRoom, bd_some, hC.t7]
  rcases room_cases hC.n6 x with ⟨r, hr, rfl, e⟩ | ⟨hx, e⟩
  · have r6 : r < 6 := by have := hC.n6; omega
    obtain ⟨σ', τ', E, N, hC', hH', hT', f1, f2, f3⟩ := after hC hH hT
    rw [c_room hC.s4 hr hC.n6, bd_some]
    show ∃ r' σ'' τ'', oc (some (1 + 7 + 2 * r)) _ _ = _ ∧ _
    rw [oc_some, if_pos (kd_room rfl r6), E, bd_some]
    dsimp only
    rw [e, if_neg bz1n, N, bd_some, nm_eq]
    obtain ⟨⟨a0, a1, a2, a3, a4, a5, a6⟩, ⟨a7, a8, a9, a10, a11, a12, a13⟩, ⟨a14, a15, a16, a17, a18, a19, a20⟩⟩ := hC'.rr hr
    refine ⟨vw (τ' 1) r 9, _, stm τ' r (upd (upd (upd (upd (vw (τ' 1) r) 9 0) 10 0) 8 0) 7 0), ?_, ?_, GG_set (σ2 := upc σ' (1 + 7 + 2 * r) (upd (upd (upd (upd (σ' (1 + 7 + 2 * r)) 11 0) 12 0) 9 0) 8 0)) hC' hH' hT' hr ?_ ?_ ?_⟩
    · unfold F_X3_renewContact
      simp only [nm_eq, xup_upc, upc_same, upc_upc, bd_some]
      rw [a9]
    · have := (stm_self (τ := τ') (r := r)).symm
      generalize hv : vw (τ' 1) r = v at this ⊢
      rw [this]
      simp only [of_st9 r6, puts_st9 r6, puts_st10 r6, puts_st8 r6, puts_st7 r6, bd_some, stm_stm]
    · rw [upc_same, upc_ne (by omega)]
      exact ⟨⟨a0, a1, a2, a3, a4, a5, a6⟩, ⟨rfl, rfl, rfl, rfl, a11, a12, a13⟩, ⟨a14, a15, a16, a17, a18, a19, a20⟩⟩
    · intro i h1 h2
      rw [upc_ne h1]
    · exact IvV_f (hC'.iv hr) (fun f hf => by rcases hf with rfl | rfl | rfl | rfl | rfl | rfl | rfl | rfl <;> rfl) (Or.inl rfl)
  · rw [c_noroom hC.s4 hx, bd_some, e]
    exact ⟨-1000001, σ, τ, rfl, rfl, ⟨n, p, t, hC⟩, hH, hT⟩
theorem c_J76 {a b y : Int32} {c : Nat} {σ : xM} : F_X6_setThermostat_J76 a b c y σ = some (if y = 0 then 1 else 0, upc σ c (upd (upd (σ c) 5 a) 6 b)) := by
  unfold F_X6_setThermostat_J76
  simp only [nm_eq, xup_upc, upc_same, upc_upc]
  by_cases h : y = 0
  · rw [if_pos h, if_pos h]
  · rw [if_neg h, if_neg h]
theorem m_J64 {a b y : Int32} {r : Nat} {v : Nat → Int32} {τ : xM} (r6 : r < 6) : F_X7_setThermostat_J64 0 (nI r) a b y (stm τ r v) = some (if y = 0 then 1 else 0, stm τ r (upd (upd v 4 a) 5 b)) := by
  unfold F_X7_setThermostat_J64
  rw [puts_st4 r6, bd_some, puts_st5 r6, bd_some]
  by_cases h : y = 0
  · rw [if_pos h, if_pos h]
  · rw [if_neg h, if_neg h]
theorem op_setThermostat {x a b : Int32} : OpS (F_X6_setThermostat 0 x a b) (F_X7_setThermostat 0 x a b) := by
  intro σ τ hG
  obtain ⟨⟨n, p, t, hC⟩, hH, hT⟩ := hG
  unfold F_X6_setThermostat F_X7_setThermostat
  simp only [Nat.zero_add]
  rw [m_isRoom, bd_some, hC.t7]
  rcases room_cases hC.n6 x with ⟨r, hr, rfl, e⟩ | ⟨hx, e⟩
  · have r6 : r < 6 := by have := hC.n6; omega
    rw [c_room hC.s4 hr hC.n6, bd_some]
    show ∃ r' σ'' τ'', oc (some (1 + 7 + 2 * r)) _ _ = _ ∧ _
    rw [oc_some, if_pos (kd_room rfl r6), c_in, bd_some, e, if_neg bz1n, m_in, bd_some]
    by_cases h1 : bz (inW a 5000 35000) = 0
    · rw [if_pos h1, if_pos h1]
      exact ⟨-1000001, σ, τ, rfl, rfl, ⟨n, p, t, hC⟩, hH, hT⟩
    rw [if_neg h1, if_neg h1, c_in, bd_some, m_in, bd_some]
    by_cases h2 : bz (inW b 100 5000) = 0
    · rw [if_pos h2, if_pos h2]
      exact ⟨-1000001, σ, τ, rfl, rfl, ⟨n, p, t, hC⟩, hH, hT⟩
    rw [if_neg h2, if_neg h2]
    obtain ⟨σ', τ', E, N, hC', hH', hT', f1, f2, f3⟩ := after hC hH hT
    rw [E, bd_some, N, bd_some]
    dsimp only
    have hRR := hC'.rr hr
    obtain ⟨⟨a0, a1, a2, a3, a4, a5, a6⟩, ⟨a7, a8, a9, a10, a11, a12, a13⟩, ⟨a14, a15, a16, a17, a18, a19, a20⟩⟩ := hRR
    have fin : GG (upc σ' (1 + 7 + 2 * r) (upd (upd (σ' (1 + 7 + 2 * r)) 5 a) 6 b)) (stm τ' r (upd (upd (vw (τ' 1) r) 4 a) 5 b)) := by
      refine GG_set hC' hH' hT' hr ?_ (fun i h1 h2 => upc_ne h1) ?_
      · rw [upc_same, upc_ne (by omega)]
        exact ⟨⟨a0, a1, a2, a3, rfl, rfl, a6⟩, ⟨a7, a8, a9, a10, a11, a12, a13⟩, ⟨a14, a15, a16, a17, a18, a19, a20⟩⟩
      · exact IvV_f (hC'.iv hr) (fun f hf => by rcases hf with rfl | rfl | rfl | rfl | rfl | rfl | rfl | rfl <;> rfl) (hC'.iv hr).1.2.2.2.2.1
    have key : ∀ y : Int32, F_X7_setThermostat_J64 0 (nI r) a b y τ' = some (if y = 0 then 1 else 0, stm τ' r (upd (upd (vw (τ' 1) r) 4 a) 5 b)) := by
      intro y
      have := m_J64 (a := a) (b := b) (y := y) (τ := τ') (v := vw (τ' 1) r) r6
      rw [stm_self] at this
      exact this
    have o4 : F_X7_of 0 (nI r) 4 τ' = some (vw (τ' 1) r 4, τ') := by
      have := of_st4 (τ := τ') (v := vw (τ' 1) r) r6
      rw [stm_self] at this; exact this
    have o5 : F_X7_of 0 (nI r) 5 τ' = some (vw (τ' 1) r 5, τ') := by
      have := of_st5 (τ := τ') (v := vw (τ' 1) r) r6
      rw [stm_self] at this; exact this
    rw [o4, bd_some]
    dsimp only
    by_cases c1 : vw (τ' 1) r 4 = a
    · rw [if_pos (a4.trans c1), if_pos c1, o5, bd_some]
      dsimp only
      by_cases c2 : vw (τ' 1) r 5 = b
      · rw [if_pos (a5.trans c2), if_pos c2, c_J76, key]
        exact ⟨_, _, _, rfl, rfl, fin⟩
      · rw [if_neg (fun z => c2 (a5.symm.trans z)), if_neg c2]
        unfold F_X6_setThermostat_J75 F_X7_setThermostat_J63
        rw [c_J76, key]
        exact ⟨_, _, _, rfl, rfl, fin⟩
    · rw [if_neg (fun z => c1 (a4.symm.trans z)), if_neg c1]
      unfold F_X6_setThermostat_J75 F_X7_setThermostat_J63
      rw [c_J76, key]
      exact ⟨_, _, _, rfl, rfl, fin⟩
  · rw [c_noroom hC.s4 hx, bd_some, e]
    exact ⟨-1000001, σ, τ, rfl, rfl, ⟨n, p, t, hC⟩, hH, hT⟩
