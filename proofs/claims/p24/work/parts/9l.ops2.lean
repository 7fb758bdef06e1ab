section OPS2
variable {τ : xM} {n p t c : Nat}
theorem o_warm (I : Inv (τ 1) n p t) (J : JV (τ 1) n) (hc : c ≤ 6) (h2 : τ 0 2 = nI c) {x a : Int32} : OC τ c (F_X7_warm 0 x a τ) := by
  have hn := I.1
  unfold F_X7_warm
  rw [m_isRoom, bd_some, I.2.2.1]
  rcases room_cases hn x with ⟨r, hr, rfl, e⟩ | ⟨hx, e⟩
  · have r6 : r < 6 := by omega
    have hv0 := J.1 r hr
    have cap := (inv_fit I).2.1 r hr
    have hV := I.2.2.2.2.2.2.2.1 r hr
    dsimp only
    rw [e, if_neg bz1n, m_in, bd_some]
    dsimp only
    by_cases h1 : bz (inW a (-50000) 50000) = 0
    · rw [if_pos h1]
      exact Or.inl ⟨_, rfl, by decide⟩
    rw [if_neg h1]
    have o0 := ofS (τ := τ) (r := r) (f := 0) r6 (by omega)
    have o1 := ofS (τ := τ) (r := r) (f := 1) r6 (by omega)
    rw [nI_0] at o0
    rw [show nI 1 = 1 from rfl] at o1
    rw [o0, bd_some, nm_eq]
    dsimp only
    rw [o1, bd_some, nm_eq]
    dsimp only
    obtain ⟨⟨h0, hp, h3, hq, h7, h14, h11, h12⟩, hx⟩ := hV
    obtain ⟨g1, g2, _⟩ := inW_1 h1
    have z5 : (50000 : Int32).toInt = 50000 := by decide
    have z5' : (-50000 : Int32).toInt = -50000 := by decide
    rw [z5'] at g1
    rw [z5] at g2
    have eq : (vw (τ 1) r 1 + a).toInt = (vw (τ 1) r 1).toInt + a.toInt := i_add (by omega) (by omega)
    have efl : (degI (vw (τ 1) r 1 + a) (vw (τ 1) r 0)).toInt = (1000 * ((vw (τ 1) r 1).toInt + a.toInt)) / (vw (τ 1) r 0).toInt := by
      rw [fdiv_i (by omega) (by rw [eq]; omega) (by rw [eq]; omega), eq]
    have lt1 : (lg_cmp ((vw (τ 1) r 1).toInt64 + a.toInt64) (-(200 * (vw (τ 1) r 0).toInt64)) < 0) ↔ (vw (τ 1) r 1).toInt + a.toInt < -(200 * (vw (τ 1) r 0).toInt) := by
      rw [lg_cmp_lt, Int64.lt_iff_toInt_lt, l_plus, l_neg (y := 200 * (vw (τ 1) r 0).toInt) l_200 (by omega) (by omega)]
    by_cases c1 : lg_cmp ((vw (τ 1) r 1).toInt64 + a.toInt64) (-(200 * (vw (τ 1) r 0).toInt64)) < 0
    · rw [if_pos c1]
      exact Or.inl ⟨_, rfl, by decide⟩
    rw [if_neg c1]
    have c1' : ¬ (vw (τ 1) r 1).toInt + a.toInt < -(200 * (vw (τ 1) r 0).toInt) := fun z => c1 (lt1.mpr z)
    have low : -200000 ≤ (degI (vw (τ 1) r 1 + a) (vw (τ 1) r 0)).toInt := by
      rw [efl]
      exact Int.le_ediv_of_mul_le (by omega) (by omega)
    have good : OC τ c (F_X7_warm_J81 0 (nI r) a τ) := by
      unfold F_X7_warm_J81
      rw [g_notes hc h2, bd_some]
      dsimp only
      have hst := (stm_self (τ := NT τ c) (r := r)).symm
      rw [NT_1] at hst
      generalize hv : vw (τ 1) r = v at hst hv0 cap low
      rw [hst, grows_st1 r6, bd_some]
      dsimp only
      rw [grows_st20 r6, bd_some]
      dsimp only
      rw [upd_ne (show (20 : Nat) ≠ 1 by omega), m_temp r6 (by rw [upd_ne (by omega), upd_ne (by omega)]; exact ne0_of cap), bd_some]
      dsimp only
      rw [upd_ne (show (1 : Nat) ≠ 20 by omega), upd_same, upd_ne (show (0 : Nat) ≠ 20 by omega), upd_ne (show (0 : Nat) ≠ 1 by omega)]
      obtain ⟨b1, b8⟩ := hv0
      have q : ∀ j, j ≠ 1 → j ≠ 20 → upd (upd v 1 (v 1 + a)) 20 (v 20 + a) j = v j := fun j j1 j2 => by rw [upd_ne j2, upd_ne j1]
      refine oc_set I J hr ⟨?_, b8⟩ (by rw [hv]; rfl) (big_i (by omega))
      rw [q 16 (by omega) (by omega), q 17 (by omega) (by omega), q 18 (by omega) (by omega), q 19 (by omega) (by omega), upd_same, upd_ne (by omega), upd_same, b1]
      grind
    by_cases c2 : lg_cmp ((vw (τ 1) r 1).toInt64 + a.toInt64) (200 * (vw (τ 1) r 0).toInt64) < 0
    · rw [if_pos c2]; exact good
    rw [if_neg c2, o0, bd_some]
    dsimp only
    rw [m_deg (ne0_of cap), bd_some]
    dsimp only
    by_cases c3 : degI (((vw (τ 1) r 1).toInt64 + a.toInt64).toInt32) (vw (τ 1) r 0) ≤ 200000
    · rw [if_pos c3]; exact good
    · rw [if_neg c3]
      exact Or.inl ⟨_, rfl, by decide⟩
  · dsimp only
    rw [e, if_pos bz_0]
    exact Or.inl ⟨_, rfl, by decide⟩
theorem g_pair (I : Inv (τ 1) n p t) (x y : Int32) : (∃ a b, a < n ∧ b < n ∧ a ≠ b ∧ x = nI a ∧ y = nI b ∧ F_X7_areRooms 0 x y τ = some (1, τ)) ∨ F_X7_areRooms 0 x y τ = some (0, τ) := by
  have hn := I.1
  unfold F_X7_areRooms
  rw [m_isRoom, bd_some, I.2.2.1]
  dsimp only
  rcases room_cases hn x with ⟨a, ha, rfl, e⟩ | ⟨hx, e⟩
  · rw [e, if_neg bz1n, m_isRoom, bd_some, I.2.2.1]
    dsimp only
    rcases room_cases hn y with ⟨b, hb, rfl, e'⟩ | ⟨hy, e'⟩
    · rw [e', if_neg bz1n]
      by_cases h : a = b
      · subst h
        rw [if_pos rfl]
        exact Or.inr rfl
      · have h' : ¬ nI a = nI b := fun z => h ((nI_eq (by omega) (by omega)).mp z)
        rw [if_neg h']
        exact Or.inl ⟨a, b, ha, hb, h, rfl, rfl, rfl⟩
    · rw [e', if_pos bz_0]
      exact Or.inr rfl
  · rw [e, if_pos bz_0]
    exact Or.inr rfl
theorem o_setLink (I : Inv (τ 1) n p t) (J : JV (τ 1) n) (hc : c ≤ 6) (h2 : τ 0 2 = nI c) {x y z : Int32} : OC τ c (F_X7_setLink 0 x y z τ) := by
  have hn := I.1
  unfold F_X7_setLink
  rcases g_pair I x y with ⟨a, b, ha, hb, hab, rfl, rfl, e2⟩ | e2
  · rw [e2, bd_some]
    dsimp only
    rw [if_neg bz1n, m_in, bd_some]
    dsimp only
    by_cases h1 : bz (inW z 0 50) = 0
    · rw [if_pos h1]
      exact Or.inl ⟨_, rfl, by decide⟩
    rw [if_neg h1]
    obtain ⟨u1, u2, -⟩ := inW_1 h1
    rw [show (0 : Int32).toInt = 0 by decide] at u1
    rw [show (50 : Int32).toInt = 50 by decide] at u2
    have hL := I.2.2.2.2.2.2.1
    obtain ⟨l1, l2⟩ := (hL a b (by omega) (by omega)).1
    have ex : inb ((34 + (6 * nI a)) + nI b) 196 := by rw [lk_nI]; exact inb_nI (by omega) (by omega)
    have ex' : inb ((34 + (6 * nI b)) + nI a) 196 := by rw [lk_nI]; exact inb_nI (by omega) (by omega)
    have cab : Int32.toNatClampNeg ((34 + (6 * nI a)) + nI b) = 34 + 6 * a + b := by rw [lk_nI, cl_nI (by omega)]
    have cba : Int32.toNatClampNeg ((34 + (6 * nI b)) + nI a) = 34 + 6 * b + a := by rw [lk_nI, cl_nI (by omega)]
    have hval : τ (0 + 1) (Int32.toNatClampNeg ((34 + (6 * nI a)) + nI b)) = τ 1 (34 + 6 * a + b) := by rw [cab]
    rw [if_pos ex, nm_eq, hval]
    generalize hD : τ 1 (34 + 6 * a + b) = D at l1 l2
    have ed : (z - D).toInt = z.toInt - D.toInt := i_sub (by omega) (by omega)
    obtain ⟨q3, c3, d3⟩ := m_much (x := z - D) I ha (by omega)
    obtain ⟨q4, c4, d4⟩ := m_much (x := z - D) I hb (by omega)
    rw [c3, bd_some]
    dsimp only
    by_cases k3 : bz q3 = 0
    · rw [if_pos k3, c4, bd_some]
      dsimp only
      by_cases k4 : bz q4 = 0
      · rw [if_pos k4, g_notes hc h2, bd_some]
        dsimp only
        rw [if_pos ex, nm_eq, if_pos ex', nm_eq, cab, cba]
        generalize hs : upd (upd (τ 1) (34 + 6 * a + b) z) (34 + 6 * b + a) z = s'
        have so : ∀ j, (j < 34 ∨ 70 ≤ j) → s' j = τ 1 j := fun j hj => by rw [← hs, upd_ne (by omega), upd_ne (by omega)]
        have e1 : (xup (xup (NT τ c) (0 + 1) (34 + 6 * a + b) z) (0 + 1) (34 + 6 * b + a) z) 1 = s' := by
          show (xup (xup (NT τ c) 1 (34 + 6 * a + b) z) 1 (34 + 6 * b + a) z) 1 = s'
          rw [xup_same, xup_same, NT_1, hs]
        refine Or.inr ⟨_, _, n, rfl, big_i (by omega), ⟨?_, ?_⟩, ?_, hn, ?_⟩
        · rw [xup_ne (by omega), xup_ne (by omega), NT_2]
        · rw [xup_ne (by omega), xup_ne (by omega), NT_0]
        · rw [e1, so 7 (by omega)]; exact I.2.2.1
        · rw [e1]
          obtain ⟨j1, j2, j3⟩ := J
          refine ⟨fun r hr => RV_v (j1 r hr) (fun f hf => (so _ (by omega)).symm), ?_, NV_c j3 (fun j hj => so j (by omega))⟩
          rw [← j2]
          exact sm_congr n (fun i hi => so _ (by omega))
      · rw [if_neg k4]
        exact Or.inl ⟨_, rfl, by decide⟩
    · rw [if_neg k3]
      exact Or.inl ⟨_, rfl, by decide⟩
  · rw [e2, bd_some]
    dsimp only
    rw [if_pos bz_0]
    exact Or.inl ⟨_, rfl, by decide⟩
theorem o_addRoom (I : Inv (τ 1) n p t) (J : JV (τ 1) n) (hc : c ≤ 6) (h2 : τ 0 2 = nI c) {a b l d : Int32} : OC τ c (F_X7_addRoom 0 a b l d τ) := by
  have hn := I.1
  have hz := I.2.2.2.2.2.2.2.2
  have bad : OC τ c (F_X7_addRoom_J56 0 a b l d τ) := by
    unfold F_X7_addRoom_J56 F_X7_addRoom_J57
    rw [if_pos rfl]
    exact Or.inl ⟨_, rfl, by decide⟩
  unfold F_X7_addRoom
  rw [m_in, bd_some]
  dsimp only
  by_cases h1 : bz (inW a 10 500) = 0
  · rw [if_pos h1]; exact bad
  rw [if_neg h1, m_in, bd_some]
  dsimp only
  by_cases h3 : bz (inW b 1 200) = 0
  · rw [if_pos h3]; exact bad
  rw [if_neg h3, m_in, bd_some]
  dsimp only
  by_cases h4 : bz (inW l 0 50) = 0
  · rw [if_pos h4]; exact bad
  rw [if_neg h4]
  by_cases h5 : a < 2 * l
  · rw [if_pos h5]; exact bad
  rw [if_neg h5, m_in, bd_some]
  dsimp only
  by_cases h6 : bz (inW d (-40) 40) = 0
  · rw [if_pos h6]; exact bad
  rw [if_neg h6]
  unfold F_X7_addRoom_J57
  rw [if_neg (show ¬ (1 : Int32) = 0 by decide), if_pos inl7]
  by_cases h7 : n = 6
  · subst h7
    rw [if_pos (show τ (0 + 1) (Int32.toNatClampNeg 7) = 6 by rw [cll7, Nat.zero_add, I.2.2.1]; rfl)]
    exact Or.inl ⟨_, rfl, by decide⟩
  rw [if_neg (show ¬ τ (0 + 1) (Int32.toNatClampNeg 7) = 6 by rw [cll7, Nat.zero_add, I.2.2.1]; exact fun z => h7 ((nI_eq (b := 6) (by omega) (by omega)).mp z)), g_notes hc h2, bd_some]
  dsimp only
  have t7 : NT τ c (0 + 1) 7 = nI n := by rw [Nat.zero_add, NT_1]; exact I.2.2.1
  rw [if_pos inl7, nm_eq, if_pos inl7, if_pos inl7, nm_eq, cll7, t7, nI_1]
  generalize hτ : xup (NT τ c) (0 + 1) 7 (nI (n + 1)) = τ2
  have t1 : τ2 1 = upd (τ 1) 7 (nI (n + 1)) := by rw [← hτ, show (0 + 1 : Nat) = 1 from rfl, xup_same, NT_1]
  have to : ∀ i, i ≠ 1 → τ2 i = NT τ c i := fun i hi => by rw [← hτ, xup_ne (by omega)]
  have v0z : ∀ f, f < 21 → vw (τ2 1) n f = 0 := fun f hf => by
    rw [t1]
    show upd (τ 1) 7 _ (70 + 21 * n + f) = 0
    rw [upd_ne (by omega)]
    exact hz n (Nat.le_refl n) (by omega) f hf
  generalize hv0 : vw (τ2 1) n = v0 at v0z
  have n6 : n < 6 := by omega
  have hst : τ2 = stm τ2 n v0 := by rw [← hv0]; exact stm_self.symm
  have pp : ∀ (f : Nat) (x : Int32) (v : Nat → Int32), f < 21 → F_X7_puts 0 (nI n) (nI f) x (stm τ2 n v) = some ((), stm τ2 n (upd v f x)) := fun f x v hf => puts_st n6 hf
  rw [show F_X7_puts 0 (nI n) 0 a τ2 = some ((), stm τ2 n (upd v0 0 a)) by
    have := pp 0 a v0 (by omega)
    rw [← hst] at this
    exact this, bd_some]
  dsimp only
  rw [show (1 : Int32) = nI 1 from rfl, pp _ _ _ (by omega), bd_some]
  dsimp only
  rw [show (2 : Int32) = nI 2 from rfl, pp _ _ _ (by omega), bd_some]
  dsimp only
  rw [show (3 : Int32) = nI 3 from rfl, pp _ _ _ (by omega), bd_some]
  dsimp only
  rw [show (4 : Int32) = nI 4 from rfl, pp _ _ _ (by omega), bd_some]
  dsimp only
  rw [show (5 : Int32) = nI 5 from rfl, pp _ _ _ (by omega), bd_some]
  dsimp only
  rw [show (6 : Int32) = nI 6 from rfl, pp _ _ _ (by omega), bd_some]
  dsimp only
  rw [show (15 : Int32) = nI 15 from rfl, pp _ _ _ (by omega), bd_some]
  dsimp only
  rw [show (16 : Int32) = nI 16 from rfl, pp _ _ _ (by omega), bd_some]
  dsimp only
  generalize hv : upd (upd (upd (upd (upd (upd (upd (upd (upd v0 0 a) 1 (a * d)) 2 b) 3 l) 4 20000) 5 1000) 6 (1000 * d)) 15 (-1000009)) 16 (a * d) = v
  have w1 : v 1 = a * d := by rw [← hv]; simp [upd]
  have w16 : v 16 = a * d := by rw [← hv]; simp [upd]
  have wz : ∀ f, f = 7 ∨ f = 8 ∨ f = 9 ∨ f = 10 ∨ f = 17 ∨ f = 18 ∨ f = 19 ∨ f = 20 → v f = 0 := fun f hf => by
    rw [← hv, upd_ne (by omega), upd_ne (by omega), upd_ne (by omega), upd_ne (by omega), upd_ne (by omega), upd_ne (by omega), upd_ne (by omega), upd_ne (by omega), upd_ne (by omega)]
    exact v0z f (by omega)
  have hold : ∀ q f, q ≠ n → f < 21 → vw (wrv (τ2 1) n v) q f = vw (τ 1) q f := fun q f hq hf => by
    rw [vw_ot hf hq, t1]
    exact upd_ne (by omega)
  refine Or.inr ⟨_, _, n + 1, rfl, big_i (by rw [nI_toInt (by omega)]; omega), ⟨?_, ?_⟩, ?_, by omega, ?_⟩
  · rw [stm_ne (by omega), to 2 (by omega), NT_2]
  · rw [stm_ne (by omega), to 0 (by omega), NT_0]
  · rw [stm_1, wrv_lo (by omega), t1, upd_same]
  · rw [stm_1]
    obtain ⟨j1, j2, j3⟩ := J
    refine ⟨fun q hq => ?_, ?_, NV_c j3 (fun j hj => by rw [wrv_lo (by omega), t1, upd_ne (by omega)])⟩
    · by_cases e : q = n
      · subst e
        refine RV_v (v := v) ?_ (fun f hf => (vw_wrv hf).symm)
        have z0 : (0 : Int32).toInt = 0 := by decide
        unfold RV
        rw [w1, w16, wz 7 (by omega), wz 8 (by omega), wz 9 (by omega), wz 10 (by omega), wz 17 (by omega), wz 18 (by omega), wz 19 (by omega), wz 20 (by omega), z0]
        refine ⟨by grind, Or.inl rfl, fun z => absurd z (by decide), by omega, by omega, by omega, fun _ => by omega⟩
      · exact RV_v (j1 q (by omega)) (fun f hf => (hold q f e hf).symm)
    · rw [sm, vw_wrv (by omega), wz 19 (by omega), sm_congr (g := fun r => vw (τ 1) r 19) n (fun i hi => hold i 19 (by omega) (by omega)), j2]
      rfl
end OPS2
