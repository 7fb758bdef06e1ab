/-! the small constructors -/
def rm_i0 : Jvm.Room := { frames := 1, cells := 0, slots := 0, locals := 12 }
def rm_i4 : Jvm.Room := { frames := 1, cells := 2, slots := 24, locals := 13 }
def rm_i3 : Jvm.Room := { frames := 2, cells := 1, slots := 5, locals := 32 }
def rm_i5 : Jvm.Room := { frames := 1, cells := 1, slots := 100, locals := 13 }
theorem sg0 {f : Nat → Int32} {B k : Nat} {E : xE} (hf : f = fun _ => 0) {K : Nat} : fhX E B k f K = fhX E B k (fun _ => 0) K := by rw [hf]
theorem n_X0 (l : Launch) (E : xE) (B : Nat) {k : Nat} {σ : xM} (hk : kd k = 0) (hz : ∀ q, k ≤ q → σ q = fun _ => 0) : Met l yX0_init (Cond.code yX0_init cX0_init 1 none :: AL) rm_i0 (iP E B k (layF E B) σ) (iQ E B k 1 (layF E B) zF) 0 0 (iA (B + k)) := by
  refine i_met (plainFor_of_name (by decide +kernel)) (by omega) ?_
  intro p e s m below meth c ls CX hr hlk hin hM hl
  have hx := CX.1.1
  have hb := CX.1.2.1
  refine lv_aload_n hx hb dX0_init_0 rfl (lv_at hl 0 rfl) ?_
  refine i_obj CX vo_X0 hl.1 (Nat.le_of_ble_eq_true rfl) (Nat.le_of_ble_eq_true rfl) dX0_init_1 ?_
  refine i_vret CX hr hlk hM (fun i hi => ?_) dX0_init_4
  obtain rfl : i = 0 := by omega
  rw [Nat.add_zero, hz k (Nat.le_refl k), zf hk, lf hk, lf hk]
  rfl
theorem n_X4 (l : Launch) (E : xE) (B : Nat) {k : Nat} {σ : xM} (hk : kd k = 4) (hz : ∀ q, k ≤ q → σ q = fun _ => 0) : Met l yX4_init (Cond.code yX4_init cX4_init 1 none :: AL) rm_i4 (iP E B k (layF E B) σ) (iQ E B k 3 (layF E B) zF) 2 24 (iA (B + k)) := by
  refine i_met (plainFor_of_name (by decide +kernel)) (by omega) ?_
  intro p e s m below meth c ls CX hr hlk hin hM hl
  have hx := CX.1.1
  have hb := CX.1.2.1
  have hk1 := (kd4_f hk).1
  have hk2 := (kd4_f hk).2
  refine lv_aload_n hx hb dX4_init_0 rfl (lv_at hl 0 rfl) ?_
  refine i_obj CX vo_X4 hl.1 (Nat.le_of_ble_eq_true rfl) (Nat.le_of_ble_eq_true rfl) dX4_init_1 ?_
  refine lv_aload_n hx hb dX4_init_4 rfl (lv_at hl 0 rfl) ?_
  refine lv_bipush hx hb (v := 12) dX4_init_5 (by decide) ?_
  refine i_newa CX hM (atype := .int) va_w_int (t0 := 0) (N' := 12) rfl (Or.inl rfl) (by rw [lf hk1, hz _ (by omega)]; rfl) (by decide) (by decide) (by decide) (Nat.le_of_ble_eq_true rfl) (Nat.le_of_ble_eq_true rfl) dX4_init_7 (fun H hM => ?_)
  refine i_put (i := 0) (v := .ref (B + (k + 1))) (ty := tyX4 0) CX hin hM (by omega) (lf hk _) in_X4 tyX4 tyX4_ok nmX4 rfl 0 (by decide) vf_X4_9 rfl rfl rfl rfl rfl (show 0 < 3 by decide) (by rw [Nat.add_zero, lf hk, hz k (Nat.le_refl k)]; simp [fhX, fh4, upd, rv]) dX4_init_9 (fun H locs σ1 e1 hM => ?_)
  have q0 : σ1 k = upd (fun _ => 0) 0 1 := by rw [e1, Nat.add_zero, xup_same, hz k (Nat.le_refl k)]
  have qo : ∀ q, k < q → σ1 q = fun _ => 0 := fun q hq => by rw [e1, Nat.add_zero, xup_ne (by omega), hz q (by omega)]
  refine lv_aload_n hx hb dX4_init_12 rfl (lv_at hl 0 rfl) ?_
  refine lv_bipush hx hb (v := 12) dX4_init_13 (by decide) ?_
  refine i_newa CX hM (atype := .int) va_w_int (t0 := 0) (N' := 12) rfl (Or.inl rfl) (by rw [lf hk2, qo _ (by omega)]; rfl) (by decide) (by decide) (by decide) (Nat.le_of_ble_eq_true rfl) (Nat.le_of_ble_eq_true rfl) dX4_init_15 (fun H hM => ?_)
  refine i_put (i := 0) (v := .ref (B + (k + 2))) (ty := tyX4 1) CX hin hM (by omega) (lf hk _) in_X4 tyX4 tyX4_ok nmX4 rfl 1 (by decide) vf_X4_15 rfl rfl rfl rfl rfl (show 1 < 3 by decide) (by rw [Nat.add_zero, lf hk, q0]; simp [fhX, fh4, upd, rv]) dX4_init_17 (fun H locs σ2 e2 hM => ?_)
  have r0 : σ2 k = upd (upd (fun _ => 0) 0 1) 1 1 := by rw [e2, Nat.add_zero, xup_same, q0]
  have ro : ∀ q, k < q → σ2 q = fun _ => 0 := fun q hq => by rw [e2, Nat.add_zero, xup_ne (by omega), qo q (by omega)]
  refine i_vret CX hr hlk hM (fun i hi => ?_) dX4_init_20
  have hi' : i = 0 ∨ i = 1 ∨ i = 2 := by omega
  rcases hi' with rfl | rfl | rfl
  · rw [Nat.add_zero, r0, zf hk, lf hk, lf hk]; simp [fhX, fh4, upd, rv, zK]
  · rw [ro _ (by omega), zf hk1]; rfl
  · rw [ro _ (by omega), zf hk2]; rfl
theorem n_X5 (l : Launch) (E : xE) (B : Nat) {k : Nat} {σ : xM} (hk : kd k = 5) (hz : ∀ q, k ≤ q → σ q = fun _ => 0) : Met l yX5_init (Cond.code yX5_init cX5_init 1 none :: AL) rm_i5 (iP E B k (layF E B) σ) (iQ E B k 2 (layF E B) zF) 1 100 (iA (B + k)) := by
  refine i_met (plainFor_of_name (by decide +kernel)) (by omega) ?_
  intro p e s m below meth c ls CX hr hlk hin hM hl
  have hx := CX.1.1
  have hb := CX.1.2.1
  have hk1 := kd5_f hk
  refine lv_aload_n hx hb dX5_init_0 rfl (lv_at hl 0 rfl) ?_
  refine i_obj CX vo_X5 hl.1 (Nat.le_of_ble_eq_true rfl) (Nat.le_of_ble_eq_true rfl) dX5_init_1 ?_
  refine lv_aload_n hx hb dX5_init_4 rfl (lv_at hl 0 rfl) ?_
  refine lv_bipush hx hb (v := 100) dX5_init_5 (by decide) ?_
  refine i_newa CX hM (atype := .int) va_w_int (t0 := 0) (N' := 100) rfl (Or.inl rfl) (by rw [lf hk1, hz _ (by omega)]; rfl) (by decide) (by decide) (by decide) (Nat.le_of_ble_eq_true rfl) (Nat.le_of_ble_eq_true rfl) dX5_init_7 (fun H hM => ?_)
  refine i_put (i := 0) (v := .ref (B + (k + 1))) (ty := tyX5 0) CX hin hM (by omega) (lf hk _) in_X5 tyX5 tyX5_ok nmX5 rfl 0 (by decide) vf_X5_9 rfl rfl rfl rfl rfl (show 0 < 3 by decide) (by rw [Nat.add_zero, lf hk, hz k (Nat.le_refl k)]; simp [fhX, fh5, upd, rv]) dX5_init_9 (fun H locs σ1 e1 hM => ?_)
  have q0 : σ1 k = upd (fun _ => 0) 0 1 := by rw [e1, Nat.add_zero, xup_same, hz k (Nat.le_refl k)]
  have qo : ∀ q, k < q → σ1 q = fun _ => 0 := fun q hq => by rw [e1, Nat.add_zero, xup_ne (by omega), hz q (by omega)]
  refine i_vret CX hr hlk hM (fun i hi => ?_) dX5_init_12
  have hi' : i = 0 ∨ i = 1 := by omega
  rcases hi' with rfl | rfl
  · rw [Nat.add_zero, q0, zf hk, lf hk, lf hk]; simp [fhX, fh5, upd, rv, zK]
  · rw [qo _ (by omega), zf hk1]; rfl
theorem n_X3 (l : Launch) (E : xE) (B : Nat) {k : Nat} {σ : xM} (hk : kd k = 3) (hz : ∀ q, k ≤ q → σ q = fun _ => 0) : Met l yX3_init (Cond.code yX3_init cX3_init 1 none :: AL) rm_i3 (iP E B k (layF E B) σ) (iQ E B k 2 (layF E B) zF) 1 5 (iA (B + k)) := by
  refine i_met (plainFor_of_name (by decide +kernel)) (by omega) ?_
  intro p e s m below meth c ls CX hr hlk hin hM hl
  have hx := CX.1.1
  have hb := CX.1.2.1
  have hk1 := kd3_f hk
  refine lv_aload_n hx hb dX3_init_0 rfl (lv_at hl 0 rfl) ?_
  refine i_obj CX vo_X3 hl.1 (Nat.le_of_ble_eq_true rfl) (Nat.le_of_ble_eq_true rfl) dX3_init_1 ?_
  refine lv_aload_n hx hb dX3_init_4 rfl (lv_at hl 0 rfl) ?_
  refine i_newc (ci := 0) (fs := sh0 (fun _ => 0)) CX hM in_X0 tyX0 tyX0_ok vl_X3_9 vn_X0 vi_X0 rfl (by decide) (by rw [lf hk1, hz _ (by omega)]; rfl) (Nat.le_of_ble_eq_true rfl) (Nat.le_of_ble_eq_true rfl) dX3_init_5 (fun H hM => ?_)
  refine lv_dup hx hb dX3_init_8 rfl ?_
  refine i_callN (i := 1) (mm := 1) CX hM rfl CX.2.2.1.2.2.1 ⟨⟨vs_X0, vi_X0, vk_X0⟩, by decide, by decide, by decide, by decide +kernel⟩ (n_X0 l E B hk1 (fun q hq => hz q (by omega))) ⟨rfl, rfl, Nat.le_of_ble_eq_true rfl, Nat.le_of_ble_eq_true rfl⟩ ⟨Nat.le_of_ble_eq_true rfl, Nat.le_of_ble_eq_true rfl⟩ hl.1 (Nat.le_of_ble_eq_true rfl) dX3_init_9 (fun H locs σ1 a1 a2 a3 hM => ?_)
  have q0 : σ1 k = fun _ => 0 := by rw [a1 k (by omega), hz k (Nat.le_refl k)]
  refine i_put (i := 0) (v := .ref (B + (k + 1))) (ty := tyX3 0) CX hin hM (by omega) (lf hk _) in_X3 tyX3 tyX3_ok nmX3 rfl 0 (by decide) vf_X3_12 rfl rfl rfl rfl rfl (show 0 < 18 by decide) (by rw [Nat.add_zero, lf hk, q0]; simp [fhX, fh3, upd, rv]) dX3_init_12 (fun H locs σ2 e2 hM => ?_)
  refine i_vret CX hr hlk hM (fun i hi => ?_) dX3_init_15
  have hi' : i = 0 ∨ i = 1 := by omega
  rcases hi' with rfl | rfl
  · rw [e2, Nat.add_zero, xup_same, q0, zf hk, lf hk, lf hk]; simp [fhX, fh3, upd, rv, zK, bz]
  · rw [e2, xup_ne (by omega), a2 _ (by omega) (by omega)]
