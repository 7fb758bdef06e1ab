/-! the reference's constructor -/
def rm_i7 : Jvm.Room := { frames := 1, cells := 6, slots := 1698, locals := 16 }
def fh7 (B k : Nat) (f : Nat → Int32) : List Value := [rv (f 0) (B + (k + 1)), rv (f 1) (B + (k + 2)), .int (f 2), rv (f 3) (B + (k + 3)), .int (f 4), rv (f 5) (B + (k + 4)), rv (f 6) (B + (k + 5)), .int (f 7), .int (f 8), .int (f 9), rv (f 10) (B + (k + 6))]
def fhY (E : xE) (B k : Nat) (f : Nat → Int32) (K : Nat) : va_E := match K with
  | 7 => .inr (7, fh7 B k f)
  | 20 => .inl (E.2.1 0, 196, .inl f)
  | 21 => .inl (E.2.1 0, 1176, .inl f)
  | 22 => .inl (E.2.1 1, 100, .inl f)
  | 23 => .inl (E.2.1 0, 196, .inl f)
  | 24 => .inl (E.2.1 0, 24, .inl f)
  | 25 => .inl (E.2.1 0, 6, .inl f)
  | _ => .inl (E.2.1 0, 0, .inl f)
def layG (E : xE) (B : Nat) (k : Nat) (f : Nat → Int32) : va_E := fhY E B k f (kdY k)
theorem lg {E : xE} {B k K : Nat} (h : kdY k = K) (f : Nat → Int32) : layG E B k f = fhY E B k f K := by unfold layG; rw [h]
def nY : Nat → Int32 := (upd (upd (upd (upd (upd (upd (upd (fun _ => 0) 0 25) 1 1000) 2 5) 3 10) 4 7) 5 45000) 6 15)
def gY : Nat → Int32 := (upd (upd (upd (upd (upd (upd (fun _ => 0) 0 1) 1 1) 3 1) 5 1) 6 1) 10 1)
def zKY (K : Nat) : Nat → Int32 := match K with
  | 7 => gY
  | 20 => nY
  | _ => fun _ => 0
def zY : xM := fun k => zKY (kdY k)
theorem zy {k K : Nat} (h : kdY k = K) : zY k = zKY K := by unfold zY; rw [h]
theorem n_X7 (l : Launch) (E : xE) (B : Nat) {k : Nat} {σ : xM} (hk : kdY k = 7) (hz : ∀ q, k ≤ q → σ q = fun _ => 0) : Met l yX7_init (Cond.code yX7_init cX7_init 1 none :: AL) rm_i7 (iP E B k (layG E B) σ) (iQ E B k 7 (layG E B) zY) 6 1698 (iA (B + k)) := by
  refine i_met (plainFor_of_name (by decide +kernel)) (by omega) ?_
  intro p e s m below meth c ls CX hr hlk hin hM hl
  have hx := CX.1.1
  have hb := CX.1.2.1
  obtain ⟨k1, k2, k3, k4, k5, k6⟩ := kd7_f hk
  refine lv_aload_n hx hb dX7_init_0 rfl (lv_at hl 0 rfl) ?_
  refine i_obj CX vo_X7 hl.1 (Nat.le_of_ble_eq_true rfl) (Nat.le_of_ble_eq_true rfl) dX7_init_1 ?_
  have q0 : σ k = fun _ => 0 := hz k (Nat.le_refl k)
  have g0 : ∀ q, k < q → σ q = fun _ => 0 := fun q hq => hz q (by omega)
  refine lv_aload_n hx hb dX7_init_4 rfl (lv_at hl 0 rfl) ?_
  refine lv_sipush hx hb (v := 196) dX7_init_5 (by decide) ?_
  refine i_newa (n := 1) CX hM (atype := .int) va_w_int (t0 := 0) (N' := 196) rfl (Or.inl rfl) (by rw [lg k1, g0 _ (by omega)]; rfl) (by decide) (by decide) (by decide) (Nat.le_of_ble_eq_true rfl) (Nat.le_of_ble_eq_true rfl) dX7_init_8 (fun H hM => ?_)
  refine i_put (i := 0) (v := .ref (B + (k + 1))) (ty := tyX7 0) CX hin hM (by omega) (lg hk _) in_X7 tyX7 tyX7_ok nmX7 rfl 0 (by decide) vf_X7_7 rfl rfl rfl rfl rfl (show 0 < 11 by decide) (by rw [Nat.add_zero, lg hk, q0]; simp [fhY, fh7, upd, rv]) dX7_init_10 (fun H locs a0 ee hM => ?_)
  have q1 : a0 k = (upd (fun _ => 0) 0 1) := by rw [ee, Nat.add_zero, xup_same, q0]
  have g1 : ∀ q, k < q → a0 q = fun _ => 0 := fun q hq => by rw [ee, Nat.add_zero, xup_ne (by omega), g0 q hq]
  clear ee
  refine lv_aload_n hx hb dX7_init_13 rfl (lv_at hl 0 rfl) ?_
  refine lv_sipush hx hb (v := 1176) dX7_init_14 (by decide) ?_
  refine i_newa (n := 2) CX hM (atype := .int) va_w_int (t0 := 0) (N' := 1176) rfl (Or.inl rfl) (by rw [lg k2, g1 _ (by omega)]; rfl) (by decide) (by decide) (by decide) (Nat.le_of_ble_eq_true rfl) (Nat.le_of_ble_eq_true rfl) dX7_init_17 (fun H hM => ?_)
  refine i_put (i := 0) (v := .ref (B + (k + 2))) (ty := tyX7 1) CX hin hM (by omega) (lg hk _) in_X7 tyX7 tyX7_ok nmX7 rfl 1 (by decide) vf_X7_13 rfl rfl rfl rfl rfl (show 1 < 11 by decide) (by rw [Nat.add_zero, lg hk, q1]; simp [fhY, fh7, upd, rv]) dX7_init_19 (fun H locs a1 ee hM => ?_)
  have q2 : a1 k = (upd (upd (fun _ => 0) 0 1) 1 1) := by rw [ee, Nat.add_zero, xup_same, q1]
  have g2 : ∀ q, k < q → a1 q = fun _ => 0 := fun q hq => by rw [ee, Nat.add_zero, xup_ne (by omega), g1 q hq]
  clear ee
  refine lv_aload_n hx hb dX7_init_22 rfl (lv_at hl 0 rfl) ?_
  refine lv_bipush hx hb (v := 100) dX7_init_23 (by decide) ?_
  refine i_newa (n := 3) CX hM (atype := .byte) va_w_byte (t0 := 1) (N' := 100) rfl (Or.inr rfl) (by rw [lg k3, g2 _ (by omega)]; rfl) (by decide) (by decide) (by decide) (Nat.le_of_ble_eq_true rfl) (Nat.le_of_ble_eq_true rfl) dX7_init_25 (fun H hM => ?_)
  refine i_put (i := 0) (v := .ref (B + (k + 3))) (ty := tyX7 3) CX hin hM (by omega) (lg hk _) in_X7 tyX7 tyX7_ok nmX7 rfl 3 (by decide) vf_X7_16 rfl rfl rfl rfl rfl (show 3 < 11 by decide) (by rw [Nat.add_zero, lg hk, q2]; simp [fhY, fh7, upd, rv]) dX7_init_27 (fun H locs a2 ee hM => ?_)
  have q3 : a2 k = (upd (upd (upd (fun _ => 0) 0 1) 1 1) 3 1) := by rw [ee, Nat.add_zero, xup_same, q2]
  have g3 : ∀ q, k < q → a2 q = fun _ => 0 := fun q hq => by rw [ee, Nat.add_zero, xup_ne (by omega), g2 q hq]
  clear ee
  refine lv_aload_n hx hb dX7_init_30 rfl (lv_at hl 0 rfl) ?_
  refine lv_sipush hx hb (v := 196) dX7_init_31 (by decide) ?_
  refine i_newa (n := 4) CX hM (atype := .int) va_w_int (t0 := 0) (N' := 196) rfl (Or.inl rfl) (by rw [lg k4, g3 _ (by omega)]; rfl) (by decide) (by decide) (by decide) (Nat.le_of_ble_eq_true rfl) (Nat.le_of_ble_eq_true rfl) dX7_init_34 (fun H hM => ?_)
  refine i_put (i := 0) (v := .ref (B + (k + 4))) (ty := tyX7 5) CX hin hM (by omega) (lg hk _) in_X7 tyX7 tyX7_ok nmX7 rfl 5 (by decide) vf_X7_20 rfl rfl rfl rfl rfl (show 5 < 11 by decide) (by rw [Nat.add_zero, lg hk, q3]; simp [fhY, fh7, upd, rv]) dX7_init_36 (fun H locs a3 ee hM => ?_)
  have q4 : a3 k = (upd (upd (upd (upd (fun _ => 0) 0 1) 1 1) 3 1) 5 1) := by rw [ee, Nat.add_zero, xup_same, q3]
  have g4 : ∀ q, k < q → a3 q = fun _ => 0 := fun q hq => by rw [ee, Nat.add_zero, xup_ne (by omega), g3 q hq]
  clear ee
  refine lv_aload_n hx hb dX7_init_39 rfl (lv_at hl 0 rfl) ?_
  refine lv_bipush hx hb (v := 24) dX7_init_40 (by decide) ?_
  refine i_newa (n := 5) CX hM (atype := .int) va_w_int (t0 := 0) (N' := 24) rfl (Or.inl rfl) (by rw [lg k5, g4 _ (by omega)]; rfl) (by decide) (by decide) (by decide) (Nat.le_of_ble_eq_true rfl) (Nat.le_of_ble_eq_true rfl) dX7_init_42 (fun H hM => ?_)
  refine i_put (i := 0) (v := .ref (B + (k + 5))) (ty := tyX7 6) CX hin hM (by omega) (lg hk _) in_X7 tyX7 tyX7_ok nmX7 rfl 6 (by decide) vf_X7_23 rfl rfl rfl rfl rfl (show 6 < 11 by decide) (by rw [Nat.add_zero, lg hk, q4]; simp [fhY, fh7, upd, rv]) dX7_init_44 (fun H locs a4 ee hM => ?_)
  have q5 : a4 k = (upd (upd (upd (upd (upd (fun _ => 0) 0 1) 1 1) 3 1) 5 1) 6 1) := by rw [ee, Nat.add_zero, xup_same, q4]
  have g5 : ∀ q, k < q → a4 q = fun _ => 0 := fun q hq => by rw [ee, Nat.add_zero, xup_ne (by omega), g4 q hq]
  clear ee
  refine lv_aload_n hx hb dX7_init_47 rfl (lv_at hl 0 rfl) ?_
  refine lv_bipush hx hb (v := 6) dX7_init_48 (by decide) ?_
  refine i_newa (n := 6) CX hM (atype := .int) va_w_int (t0 := 0) (N' := 6) rfl (Or.inl rfl) (by rw [lg k6, g5 _ (by omega)]; rfl) (by decide) (by decide) (by decide) (Nat.le_of_ble_eq_true rfl) (Nat.le_of_ble_eq_true rfl) dX7_init_50 (fun H hM => ?_)
  refine i_put (i := 0) (v := .ref (B + (k + 6))) (ty := tyX7 10) CX hin hM (by omega) (lg hk _) in_X7 tyX7 tyX7_ok nmX7 rfl 10 (by decide) vf_X7_26 rfl rfl rfl rfl rfl (show 10 < 11 by decide) (by rw [Nat.add_zero, lg hk, q5]; simp [fhY, fh7, upd, rv]) dX7_init_52 (fun H locs a5 ee hM => ?_)
  have q6 : a5 k = (upd (upd (upd (upd (upd (upd (fun _ => 0) 0 1) 1 1) 3 1) 5 1) 6 1) 10 1) := by rw [ee, Nat.add_zero, xup_same, q5]
  have g6 : ∀ q, k < q → a5 q = fun _ => 0 := fun q hq => by rw [ee, Nat.add_zero, xup_ne (by omega), g5 q hq]
  clear ee
  have hf : fh7 B k (upd (upd (upd (upd (upd (upd (fun _ => 0) 0 1) 1 1) 3 1) 5 1) 6 1) 10 1) = [.ref (B + (k + 1)), .ref (B + (k + 2)), .int 0, .ref (B + (k + 3)), .int 0, .ref (B + (k + 4)), .ref (B + (k + 5)), .int 0, .int 0, .int 0, .ref (B + (k + 6))] := by simp [fh7, upd, rv]
  have r0 : a5 (k + 1) = fun _ => 0 := g6 _ (by omega)
  have h0 : ∀ q, k + 1 < q → a5 q = fun _ => 0 := fun q hq => g6 q (by omega)
  have w0 := q6
  refine lv_aload_n hx hb dX7_init_55 rfl (lv_at hl 0 rfl) ?_
  refine i_get (i := 0) CX hM (by omega) (lg hk _) in_X7 rfl 0 (by decide) vf_X7_7 (v := .ref (B + (k + 1))) (by rw [Nat.add_zero, w0, hf]; rfl) dX7_init_56 ?_
  refine lv_iconst hx hb (v := 0) dX7_init_59 (by decide) ?_
  refine lv_bipush hx hb (v := 25) dX7_init_60 (by decide) ?_
  refine i_iast (i := 1) (N := 196) CX hM (by omega) (fun f => lg k1 f) (j := 0) (by decide) dX7_init_62 (fun H locs b0 ee hM => ?_)
  rw [show Int32.toNatClampNeg 0 = 0 by decide] at ee
  have r1 : b0 (k + 1) = (upd (fun _ => 0) 0 25) := by rw [ee, xup_same, r0]
  have h1 : ∀ q, k + 1 < q → b0 q = fun _ => 0 := fun q hq => by rw [ee, xup_ne (by omega), h0 q hq]
  have w1 : b0 k = (upd (upd (upd (upd (upd (upd (fun _ => 0) 0 1) 1 1) 3 1) 5 1) 6 1) 10 1) := by rw [ee, xup_ne (by omega), w0]
  clear ee
  refine lv_aload_n hx hb dX7_init_63 rfl (lv_at hl 0 rfl) ?_
  refine i_get (i := 0) CX hM (by omega) (lg hk _) in_X7 rfl 0 (by decide) vf_X7_7 (v := .ref (B + (k + 1))) (by rw [Nat.add_zero, w1, hf]; rfl) dX7_init_64 ?_
  refine lv_iconst hx hb (v := 1) dX7_init_67 (by decide) ?_
  refine lv_sipush hx hb (v := 1000) dX7_init_68 (by decide) ?_
  refine i_iast (i := 1) (N := 196) CX hM (by omega) (fun f => lg k1 f) (j := 1) (by decide) dX7_init_71 (fun H locs b1 ee hM => ?_)
  rw [show Int32.toNatClampNeg 1 = 1 by decide] at ee
  have r2 : b1 (k + 1) = (upd (upd (fun _ => 0) 0 25) 1 1000) := by rw [ee, xup_same, r1]
  have h2 : ∀ q, k + 1 < q → b1 q = fun _ => 0 := fun q hq => by rw [ee, xup_ne (by omega), h1 q hq]
  have w2 : b1 k = (upd (upd (upd (upd (upd (upd (fun _ => 0) 0 1) 1 1) 3 1) 5 1) 6 1) 10 1) := by rw [ee, xup_ne (by omega), w1]
  clear ee
  refine lv_aload_n hx hb dX7_init_72 rfl (lv_at hl 0 rfl) ?_
  refine i_get (i := 0) CX hM (by omega) (lg hk _) in_X7 rfl 0 (by decide) vf_X7_7 (v := .ref (B + (k + 1))) (by rw [Nat.add_zero, w2, hf]; rfl) dX7_init_73 ?_
  refine lv_iconst hx hb (v := 2) dX7_init_76 (by decide) ?_
  refine lv_iconst hx hb (v := 5) dX7_init_77 (by decide) ?_
  refine i_iast (i := 1) (N := 196) CX hM (by omega) (fun f => lg k1 f) (j := 2) (by decide) dX7_init_78 (fun H locs b2 ee hM => ?_)
  rw [show Int32.toNatClampNeg 2 = 2 by decide] at ee
  have r3 : b2 (k + 1) = (upd (upd (upd (fun _ => 0) 0 25) 1 1000) 2 5) := by rw [ee, xup_same, r2]
  have h3 : ∀ q, k + 1 < q → b2 q = fun _ => 0 := fun q hq => by rw [ee, xup_ne (by omega), h2 q hq]
  have w3 : b2 k = (upd (upd (upd (upd (upd (upd (fun _ => 0) 0 1) 1 1) 3 1) 5 1) 6 1) 10 1) := by rw [ee, xup_ne (by omega), w2]
  clear ee
  refine lv_aload_n hx hb dX7_init_79 rfl (lv_at hl 0 rfl) ?_
  refine i_get (i := 0) CX hM (by omega) (lg hk _) in_X7 rfl 0 (by decide) vf_X7_7 (v := .ref (B + (k + 1))) (by rw [Nat.add_zero, w3, hf]; rfl) dX7_init_80 ?_
  refine lv_iconst hx hb (v := 3) dX7_init_83 (by decide) ?_
  refine lv_bipush hx hb (v := 10) dX7_init_84 (by decide) ?_
  refine i_iast (i := 1) (N := 196) CX hM (by omega) (fun f => lg k1 f) (j := 3) (by decide) dX7_init_86 (fun H locs b3 ee hM => ?_)
  rw [show Int32.toNatClampNeg 3 = 3 by decide] at ee
  have r4 : b3 (k + 1) = (upd (upd (upd (upd (fun _ => 0) 0 25) 1 1000) 2 5) 3 10) := by rw [ee, xup_same, r3]
  have h4 : ∀ q, k + 1 < q → b3 q = fun _ => 0 := fun q hq => by rw [ee, xup_ne (by omega), h3 q hq]
  have w4 : b3 k = (upd (upd (upd (upd (upd (upd (fun _ => 0) 0 1) 1 1) 3 1) 5 1) 6 1) 10 1) := by rw [ee, xup_ne (by omega), w3]
  clear ee
  refine lv_aload_n hx hb dX7_init_87 rfl (lv_at hl 0 rfl) ?_
  refine i_get (i := 0) CX hM (by omega) (lg hk _) in_X7 rfl 0 (by decide) vf_X7_7 (v := .ref (B + (k + 1))) (by rw [Nat.add_zero, w4, hf]; rfl) dX7_init_88 ?_
  refine lv_iconst hx hb (v := 4) dX7_init_91 (by decide) ?_
  refine lv_bipush hx hb (v := 7) dX7_init_92 (by decide) ?_
  refine i_iast (i := 1) (N := 196) CX hM (by omega) (fun f => lg k1 f) (j := 4) (by decide) dX7_init_94 (fun H locs b4 ee hM => ?_)
  rw [show Int32.toNatClampNeg 4 = 4 by decide] at ee
  have r5 : b4 (k + 1) = (upd (upd (upd (upd (upd (fun _ => 0) 0 25) 1 1000) 2 5) 3 10) 4 7) := by rw [ee, xup_same, r4]
  have h5 : ∀ q, k + 1 < q → b4 q = fun _ => 0 := fun q hq => by rw [ee, xup_ne (by omega), h4 q hq]
  have w5 : b4 k = (upd (upd (upd (upd (upd (upd (fun _ => 0) 0 1) 1 1) 3 1) 5 1) 6 1) 10 1) := by rw [ee, xup_ne (by omega), w4]
  clear ee
  refine lv_aload_n hx hb dX7_init_95 rfl (lv_at hl 0 rfl) ?_
  refine i_get (i := 0) CX hM (by omega) (lg hk _) in_X7 rfl 0 (by decide) vf_X7_7 (v := .ref (B + (k + 1))) (by rw [Nat.add_zero, w5, hf]; rfl) dX7_init_96 ?_
  refine lv_iconst hx hb (v := 5) dX7_init_99 (by decide) ?_
  refine lv_ldc (v := 45000) hx hb CX.1.2.2.2.1 (i_hts CX vc_29) dX7_init_100 ?_
  refine i_iast (i := 1) (N := 196) CX hM (by omega) (fun f => lg k1 f) (j := 5) (by decide) dX7_init_102 (fun H locs b5 ee hM => ?_)
  rw [show Int32.toNatClampNeg 5 = 5 by decide] at ee
  have r6 : b5 (k + 1) = (upd (upd (upd (upd (upd (upd (fun _ => 0) 0 25) 1 1000) 2 5) 3 10) 4 7) 5 45000) := by rw [ee, xup_same, r5]
  have h6 : ∀ q, k + 1 < q → b5 q = fun _ => 0 := fun q hq => by rw [ee, xup_ne (by omega), h5 q hq]
  have w6 : b5 k = (upd (upd (upd (upd (upd (upd (fun _ => 0) 0 1) 1 1) 3 1) 5 1) 6 1) 10 1) := by rw [ee, xup_ne (by omega), w5]
  clear ee
  refine lv_aload_n hx hb dX7_init_103 rfl (lv_at hl 0 rfl) ?_
  refine i_get (i := 0) CX hM (by omega) (lg hk _) in_X7 rfl 0 (by decide) vf_X7_7 (v := .ref (B + (k + 1))) (by rw [Nat.add_zero, w6, hf]; rfl) dX7_init_104 ?_
  refine lv_bipush hx hb (v := 6) dX7_init_107 (by decide) ?_
  refine lv_bipush hx hb (v := 15) dX7_init_109 (by decide) ?_
  refine i_iast (i := 1) (N := 196) CX hM (by omega) (fun f => lg k1 f) (j := 6) (by decide) dX7_init_111 (fun H locs b6 ee hM => ?_)
  rw [show Int32.toNatClampNeg 6 = 6 by decide] at ee
  have r7 : b6 (k + 1) = (upd (upd (upd (upd (upd (upd (upd (fun _ => 0) 0 25) 1 1000) 2 5) 3 10) 4 7) 5 45000) 6 15) := by rw [ee, xup_same, r6]
  have h7 : ∀ q, k + 1 < q → b6 q = fun _ => 0 := fun q hq => by rw [ee, xup_ne (by omega), h6 q hq]
  have w7 : b6 k = (upd (upd (upd (upd (upd (upd (fun _ => 0) 0 1) 1 1) 3 1) 5 1) 6 1) 10 1) := by rw [ee, xup_ne (by omega), w6]
  clear ee
  refine i_vret CX hr hlk hM (fun i hi => ?_) dX7_init_112
  by_cases i0 : i = 0
  · subst i0; rw [Nat.add_zero, w7, zy hk]; rfl
  by_cases i1 : i = 1
  · subst i1; rw [r7, zy k1]; rfl
  rw [h7 _ (by omega)]
  have hi' : i = 2 ∨ i = 3 ∨ i = 4 ∨ i = 5 ∨ i = 6 := by omega
  rcases hi' with rfl | rfl | rfl | rfl | rfl
  · rw [zy k2]; rfl
  · rw [zy k3]; rfl
  · rw [zy k4]; rfl
  · rw [zy k5]; rfl
  · rw [zy k6]; rfl
theorem lay_endY {E : xE} {B k : Nat} (hk : k < 7) : layG E B k (zY k) = layY E B k (zY k) := by
  have hK : kdY k ∈ [7, 20, 21, 22, 23, 24, 25] := (by decide +kernel : ∀ k, k < 7 → kdY k ∈ [7, 20, 21, 22, 23, 24, 25]) k hk
  unfold layG layY zY
  generalize kdY k = K at hK
  simp only [List.mem_cons, List.not_mem_nil, or_false] at hK
  rcases hK with rfl | rfl | rfl | rfl | rfl | rfl | rfl <;> first | rfl | simp [fhY, shY, fh7, sh7, gY, upd, rv]
