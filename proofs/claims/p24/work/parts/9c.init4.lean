/-! the class's constructor -/
theorem n_X6 (l : Launch) (E : xE) (B : Nat) {k : Nat} {σ : xM} (hk : kd k = 6) (hz : ∀ q, k ≤ q → σ q = fun _ => 0) : Met l yX6_init (Cond.code yX6_init cX6_init 1 none :: AL) rm_i6 (iP E B k (layF E B) σ) (iQ E B k 160 (layF E B) zF) 159 1899 (iA (B + k)) := by
  refine i_met (plainFor_of_name (by decide +kernel)) (by omega) ?_
  intro p e s m below meth c ls CX hr hlk hin hM hl
  have hx := CX.1.1
  have hb := CX.1.2.1
  obtain ⟨k0, k1, k2, k3, k4⟩ := kd6_f hk
  refine lv_aload_n hx hb dX6_init_0 rfl (lv_at hl 0 rfl) ?_
  refine i_obj CX vo_X6 hl.1 (Nat.le_of_ble_eq_true rfl) (Nat.le_of_ble_eq_true rfl) dX6_init_1 ?_
  have q0 : σ k = fun _ => 0 := hz k (Nat.le_refl k)
  have f0 : ∀ q, k + 1 ≤ q → q < k + 1 → σ q = zF q := fun q h1 h2 => by omega
  have g0 : ∀ q, k + 1 ≤ q → σ q = fun _ => 0 := fun q hq => hz q (by omega)
  refine lv_aload_n hx hb dX6_init_4 rfl (lv_at hl 0 rfl) ?_
  refine i_newc (n := 1) (ci := 1) (fs := [.null, .null, .null, .null, .int 0, .int 0]) CX hM in_X1 tyX1 tyX1_ok vl_X6_7 vn_X1 vi_X1 rfl (by decide) (by rw [lf k0, g0 _ (by omega)]; rfl) (Nat.le_of_ble_eq_true rfl) (Nat.le_of_ble_eq_true rfl) dX6_init_5 (fun H hM => ?_)
  refine lv_dup hx hb dX6_init_8 rfl ?_
  refine i_call (i := 1) (mm := 19) CX hM rfl ⟨⟨vm_X6_9, vs_X1, vi_X1, vk_X1⟩, by decide, by decide, by decide, by decide +kernel⟩ (n_X1 l E B k0 (fun q hq => g0 q (by omega))) ⟨rfl, rfl, Nat.le_of_ble_eq_true rfl, Nat.le_of_ble_eq_true rfl⟩ ⟨Nat.le_of_ble_eq_true rfl, Nat.le_of_ble_eq_true rfl⟩ hl.1 (Nat.le_of_ble_eq_true rfl) dX6_init_9 (fun H locs a0 c1 c2 c3 hM => ?_)
  have p0 : a0 k = (fun _ => 0) := by rw [c1 k (by omega), q0]
  refine i_put (i := 0) (v := .ref (B + (k + 1))) (ty := tyX6 0) CX hin hM (by omega) (lf hk _) in_X6 tyX6 tyX6_ok nmX6 rfl 0 (by decide) vf_X6_10 rfl rfl rfl rfl rfl (show 0 < 5 by decide) (by rw [Nat.add_zero, lf hk, p0]; simp [fhX, fh6, upd, rv]) dX6_init_12 (fun H locs b0 ee hM => ?_)
  have q1 : b0 k = (upd (fun _ => 0) 0 1) := by rw [ee, Nat.add_zero, xup_same, p0]
  have f1 : ∀ q, k + 1 ≤ q → q < k + 20 → b0 q = zF q := fun q h1 h2 => by
    rw [ee, Nat.add_zero, xup_ne (by omega)]
    by_cases h : q < k + 1
    · rw [c1 q h, f0 q h1 h]
    · rw [c2 q (by omega) (by omega)]
  have g1 : ∀ q, k + 20 ≤ q → b0 q = fun _ => 0 := fun q hq => by rw [ee, Nat.add_zero, xup_ne (by omega), c3 q (by omega), g0 q (by omega)]
  clear c1 c2 c3 ee
  refine lv_aload_n hx hb dX6_init_15 rfl (lv_at hl 0 rfl) ?_
  refine i_newc (n := 20) (ci := 1) (fs := [.null, .null, .null, .null, .int 0, .int 0]) CX hM in_X1 tyX1 tyX1_ok vl_X6_7 vn_X1 vi_X1 rfl (by decide) (by rw [lf k1, g1 _ (by omega)]; rfl) (Nat.le_of_ble_eq_true rfl) (Nat.le_of_ble_eq_true rfl) dX6_init_16 (fun H hM => ?_)
  refine lv_dup hx hb dX6_init_19 rfl ?_
  refine i_call (i := 20) (mm := 19) CX hM rfl ⟨⟨vm_X6_9, vs_X1, vi_X1, vk_X1⟩, by decide, by decide, by decide, by decide +kernel⟩ (n_X1 l E B k1 (fun q hq => g1 q (by omega))) ⟨rfl, rfl, Nat.le_of_ble_eq_true rfl, Nat.le_of_ble_eq_true rfl⟩ ⟨Nat.le_of_ble_eq_true rfl, Nat.le_of_ble_eq_true rfl⟩ hl.1 (Nat.le_of_ble_eq_true rfl) dX6_init_20 (fun H locs a1 c1 c2 c3 hM => ?_)
  have p1 : a1 k = (upd (fun _ => 0) 0 1) := by rw [c1 k (by omega), q1]
  refine i_put (i := 0) (v := .ref (B + (k + 20))) (ty := tyX6 1) CX hin hM (by omega) (lf hk _) in_X6 tyX6 tyX6_ok nmX6 rfl 1 (by decide) vf_X6_16 rfl rfl rfl rfl rfl (show 1 < 5 by decide) (by rw [Nat.add_zero, lf hk, p1]; simp [fhX, fh6, upd, rv]) dX6_init_23 (fun H locs b1 ee hM => ?_)
  have q2 : b1 k = (upd (upd (fun _ => 0) 0 1) 1 1) := by rw [ee, Nat.add_zero, xup_same, p1]
  have f2 : ∀ q, k + 1 ≤ q → q < k + 39 → b1 q = zF q := fun q h1 h2 => by
    rw [ee, Nat.add_zero, xup_ne (by omega)]
    by_cases h : q < k + 20
    · rw [c1 q h, f1 q h1 h]
    · rw [c2 q (by omega) (by omega)]
  have g2 : ∀ q, k + 39 ≤ q → b1 q = fun _ => 0 := fun q hq => by rw [ee, Nat.add_zero, xup_ne (by omega), c3 q (by omega), g1 q (by omega)]
  clear c1 c2 c3 ee
  refine lv_aload_n hx hb dX6_init_26 rfl (lv_at hl 0 rfl) ?_
  refine i_newc (n := 39) (ci := 2) (fs := [.null, .int 0, .int 0]) CX hM in_X2 tyX2 tyX2_ok vl_X6_19 vn_X2 vi_X2 rfl (by decide) (by rw [lf k2, g2 _ (by omega)]; rfl) (Nat.le_of_ble_eq_true rfl) (Nat.le_of_ble_eq_true rfl) dX6_init_27 (fun H hM => ?_)
  refine lv_dup hx hb dX6_init_30 rfl ?_
  refine i_call (i := 39) (mm := 116) CX hM rfl ⟨⟨vm_X6_21, vs_X2, vi_X2, vk_X2⟩, by decide, by decide, by decide, by decide +kernel⟩ (n_X2 l E B k2 (fun q hq => g2 q (by omega))) ⟨rfl, rfl, Nat.le_of_ble_eq_true rfl, Nat.le_of_ble_eq_true rfl⟩ ⟨Nat.le_of_ble_eq_true rfl, Nat.le_of_ble_eq_true rfl⟩ hl.1 (Nat.le_of_ble_eq_true rfl) dX6_init_31 (fun H locs a2 c1 c2 c3 hM => ?_)
  have p2 : a2 k = (upd (upd (fun _ => 0) 0 1) 1 1) := by rw [c1 k (by omega), q2]
  refine i_put (i := 0) (v := .ref (B + (k + 39))) (ty := tyX6 2) CX hin hM (by omega) (lf hk _) in_X6 tyX6 tyX6_ok nmX6 rfl 2 (by decide) vf_X6_22 rfl rfl rfl rfl rfl (show 2 < 5 by decide) (by rw [Nat.add_zero, lf hk, p2]; simp [fhX, fh6, upd, rv]) dX6_init_34 (fun H locs b2 ee hM => ?_)
  have q3 : b2 k = (upd (upd (upd (fun _ => 0) 0 1) 1 1) 2 1) := by rw [ee, Nat.add_zero, xup_same, p2]
  have f3 : ∀ q, k + 1 ≤ q → q < k + 155 → b2 q = zF q := fun q h1 h2 => by
    rw [ee, Nat.add_zero, xup_ne (by omega)]
    by_cases h : q < k + 39
    · rw [c1 q h, f2 q h1 h]
    · rw [c2 q (by omega) (by omega)]
  have g3 : ∀ q, k + 155 ≤ q → b2 q = fun _ => 0 := fun q hq => by rw [ee, Nat.add_zero, xup_ne (by omega), c3 q (by omega), g2 q (by omega)]
  clear c1 c2 c3 ee
  refine lv_aload_n hx hb dX6_init_37 rfl (lv_at hl 0 rfl) ?_
  refine i_newc (n := 155) (ci := 5) (fs := [.null, .int 0, .int 0]) CX hM in_X5 tyX5 tyX5_ok vl_X6_26 vn_X5 vi_X5 rfl (by decide) (by rw [lf k3, g3 _ (by omega)]; rfl) (Nat.le_of_ble_eq_true rfl) (Nat.le_of_ble_eq_true rfl) dX6_init_38 (fun H hM => ?_)
  refine lv_dup hx hb dX6_init_41 rfl ?_
  refine i_callN (i := 155) (mm := 2) CX hM rfl CX.2.2.1.2.2.2.1 ⟨⟨vs_X5, vi_X5, vk_X5⟩, by decide, by decide, by decide, by decide +kernel⟩ (n_X5 l E B k3 (fun q hq => g3 q (by omega))) ⟨rfl, rfl, Nat.le_of_ble_eq_true rfl, Nat.le_of_ble_eq_true rfl⟩ ⟨Nat.le_of_ble_eq_true rfl, Nat.le_of_ble_eq_true rfl⟩ hl.1 (Nat.le_of_ble_eq_true rfl) dX6_init_42 (fun H locs a3 c1 c2 c3 hM => ?_)
  have p3 : a3 k = (upd (upd (upd (fun _ => 0) 0 1) 1 1) 2 1) := by rw [c1 k (by omega), q3]
  refine i_put (i := 0) (v := .ref (B + (k + 155))) (ty := tyX6 3) CX hin hM (by omega) (lf hk _) in_X6 tyX6 tyX6_ok nmX6 rfl 3 (by decide) vf_X6_29 rfl rfl rfl rfl rfl (show 3 < 5 by decide) (by rw [Nat.add_zero, lf hk, p3]; simp [fhX, fh6, upd, rv]) dX6_init_45 (fun H locs b3 ee hM => ?_)
  have q4 : b3 k = (upd (upd (upd (upd (fun _ => 0) 0 1) 1 1) 2 1) 3 1) := by rw [ee, Nat.add_zero, xup_same, p3]
  have f4 : ∀ q, k + 1 ≤ q → q < k + 157 → b3 q = zF q := fun q h1 h2 => by
    rw [ee, Nat.add_zero, xup_ne (by omega)]
    by_cases h : q < k + 155
    · rw [c1 q h, f3 q h1 h]
    · rw [c2 q (by omega) (by omega)]
  have g4 : ∀ q, k + 157 ≤ q → b3 q = fun _ => 0 := fun q hq => by rw [ee, Nat.add_zero, xup_ne (by omega), c3 q (by omega), g3 q (by omega)]
  clear c1 c2 c3 ee
  refine lv_aload_n hx hb dX6_init_48 rfl (lv_at hl 0 rfl) ?_
  refine i_newc (n := 157) (ci := 4) (fs := [.null, .null, .int 0]) CX hM in_X4 tyX4 tyX4_ok vl_X6_33 vn_X4 vi_X4 rfl (by decide) (by rw [lf k4, g4 _ (by omega)]; rfl) (Nat.le_of_ble_eq_true rfl) (Nat.le_of_ble_eq_true rfl) dX6_init_49 (fun H hM => ?_)
  refine lv_dup hx hb dX6_init_52 rfl ?_
  refine i_callN (i := 157) (mm := 3) CX hM rfl CX.2.2.1.2.2.2.2 ⟨⟨vs_X4, vi_X4, vk_X4⟩, by decide, by decide, by decide, by decide +kernel⟩ (n_X4 l E B k4 (fun q hq => g4 q (by omega))) ⟨rfl, rfl, Nat.le_of_ble_eq_true rfl, Nat.le_of_ble_eq_true rfl⟩ ⟨Nat.le_of_ble_eq_true rfl, Nat.le_of_ble_eq_true rfl⟩ hl.1 (Nat.le_of_ble_eq_true rfl) dX6_init_53 (fun H locs a4 c1 c2 c3 hM => ?_)
  have p4 : a4 k = (upd (upd (upd (upd (fun _ => 0) 0 1) 1 1) 2 1) 3 1) := by rw [c1 k (by omega), q4]
  refine i_put (i := 0) (v := .ref (B + (k + 157))) (ty := tyX6 4) CX hin hM (by omega) (lf hk _) in_X6 tyX6 tyX6_ok nmX6 rfl 4 (by decide) vf_X6_36 rfl rfl rfl rfl rfl (show 4 < 5 by decide) (by rw [Nat.add_zero, lf hk, p4]; simp [fhX, fh6, upd, rv]) dX6_init_56 (fun H locs b4 ee hM => ?_)
  have q5 : b4 k = (upd (upd (upd (upd (upd (fun _ => 0) 0 1) 1 1) 2 1) 3 1) 4 1) := by rw [ee, Nat.add_zero, xup_same, p4]
  have f5 : ∀ q, k + 1 ≤ q → q < k + 160 → b4 q = zF q := fun q h1 h2 => by
    rw [ee, Nat.add_zero, xup_ne (by omega)]
    by_cases h : q < k + 157
    · rw [c1 q h, f4 q h1 h]
    · rw [c2 q (by omega) (by omega)]
  have g5 : ∀ q, k + 160 ≤ q → b4 q = fun _ => 0 := fun q hq => by rw [ee, Nat.add_zero, xup_ne (by omega), c3 q (by omega), g4 q (by omega)]
  clear c1 c2 c3 ee
  refine i_vret CX hr hlk hM (fun i hi => ?_) dX6_init_59
  by_cases i0 : i = 0
  · subst i0; rw [Nat.add_zero, q5, zf hk, lf hk, lf hk]; simp [fhX, fh6, upd, rv, zK]
  · rw [f5 _ (by omega) (by omega)]
