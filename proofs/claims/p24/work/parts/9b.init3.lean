/-! a History's constructor, and the class's -/
def rm_i2 : Jvm.Room := { frames := 4, cells := 115, slots := 1326, locals := 73 }
def rm_i6 : Jvm.Room := { frames := 5, cells := 159, slots := 1899, locals := 94 }
theorem kd2_r {k : Nat} (h : kd k = 2) {r : Nat} (hr : r < 6) : kd (k + (2 + 19 * r)) = 1 :=
  (by decide +kernel : ∀ k, k < 160 → kd k = 2 → ∀ r, r < 6 → kd (k + (2 + 19 * r)) = 1) k (kd_lt (by omega)) h r hr
theorem n_X2 (l : Launch) (E : xE) (B : Nat) {k : Nat} {σ : xM} (hk : kd k = 2) (hz : ∀ q, k ≤ q → σ q = fun _ => 0) : Met l yX2_init (Cond.code yX2_init cX2_init 2 none :: AL) rm_i2 (iP E B k (layF E B) σ) (iQ E B k 116 (layF E B) zF) 115 1326 (iA (B + k)) := by
  refine i_met (plainFor_of_name (by decide +kernel)) (by omega) ?_
  intro p e s m below meth c ls CX hr hlk hin hM hl
  have hx := CX.1.1
  have hb := CX.1.2.1
  have k1 := kd2_f hk
  have fh : ∀ {f : Nat → Int32}, f = upd (fun _ => 0) 0 1 → fh2 B k f = [.ref (B + (k + 1)), .int 0, .int 0] := by rintro f rfl; simp [fh2, upd, rv]
  have L2 : ∀ (d i : Nat) (σ : xM) (H : Heap) (locs : List Loc) (ls : Array Slot), i + d = 6 → iS E B k (2 + 19 * i) (layF E B) s σ H locs → lv_has ls 2 [(1, .int (nI i)), (0, .ref (B + k))] → σ k = upd (fun _ => 0) 0 1 → (σ (k + 1) = fun j => if j < i then 1 else 0) → (∀ q, k + 2 ≤ q → q < k + (2 + 19 * i) → σ q = zF q) → (∀ q, k + (2 + 19 * i) ≤ q → σ q = fun _ => 0) →
      W p l e rm_i2 s m #[.ref (B + k)] below meth c H locs (1 + 19 * i) (6 + 220 * i) (MQ below (iQ E B k 116 (layF E B) zF) #[.ref (B + k)] s 115 1326 (iA (B + k))) (F0 m 15 ls []) := by
    clear hM hl hz
    intro d
    induction d with
    | zero =>
      intro i σ H locs ls hi hM hl f0 f1 f4 f5
      obtain rfl : i = 6 := by omega
      refine lv_iload_n hx hb dX2_init_15 rfl (lv_at hl 0 rfl) ?_
      refine lv_aload_n hx hb dX2_init_16 rfl (lv_at hl 1 rfl) ?_
      refine i_get (i := 0) CX hM (by omega) (lf hk _) in_X2 rfl 0 (by decide) vf_X2_11 (v := .ref (B + (k + 1))) (by rw [Nat.add_zero, fh f0]; rfl) dX2_init_17 ?_
      refine i_alen (i := 1) CX hM 3 (by omega) (lf k1 _) rfl (v := 6) (show Int32.ofNat 6 = 6 by decide) dX2_init_20 ?_
      refine lv_icmp_ge (tgt := 43) hx hb dX2_init_21 (by decide) (fun c1 => ?_) (fun c1 => absurd (by decide) c1)
      refine i_vret2 CX hr hlk hM (fun i hi => ?_) dX2_init_43
      by_cases i0 : i = 0
      · subst i0
        rw [show layF E B (k + 0) (σ (k + 0)) = layF E B (k + 0) (zF (k + 0)) by rw [Nat.add_zero, f0, zf hk, lf hk, lf hk]; simp [fhX, fh rfl]; simp [fh2, zK, rv]]
        exact id
      by_cases i1 : i = 1
      · subst i1; rw [f1, zf k1, lf k1, lf k1]
        exact at_q (fun j hj => by dsimp only; rw [if_pos hj]; rfl)
      rw [f4 _ (by omega) (by omega)]
      exact id
    | succ d ih =>
      intro i σ H locs ls hi hM hl f0 f1 f4 f5
      have hi6 : i < 6 := by omega
      have kr := kd2_r hk hi6
      refine lv_iload_n hx hb dX2_init_15 rfl (lv_at hl 0 rfl) ?_
      refine lv_aload_n hx hb dX2_init_16 rfl (lv_at hl 1 rfl) ?_
      refine i_get (i := 0) CX hM (by omega) (lf hk _) in_X2 rfl 0 (by decide) vf_X2_11 (v := .ref (B + (k + 1))) (by rw [Nat.add_zero, fh f0]; rfl) dX2_init_17 ?_
      refine i_alen (i := 1) CX hM 3 (by omega) (lf k1 _) rfl (v := 6) (show Int32.ofNat 6 = 6 by decide) dX2_init_20 ?_
      refine lv_icmp_ge (tgt := 43) hx hb dX2_init_21 (by decide) (fun c1 => absurd c1 (nI_ge (b := 6) hi6 (by omega))) (fun c1 => ?_)
      refine lv_aload_n hx hb dX2_init_24 rfl (lv_at hl 1 rfl) ?_
      refine i_get (i := 0) CX hM (by omega) (lf hk _) in_X2 rfl 0 (by decide) vf_X2_11 (v := .ref (B + (k + 1))) (by rw [Nat.add_zero, fh f0]; rfl) dX2_init_25 ?_
      refine lv_iload_n hx hb dX2_init_28 rfl (lv_at hl 0 rfl) ?_
      refine i_newc (ci := 1) (fs := [.null, .null, .null, .null, .int 0, .int 0]) CX hM in_X1 tyX1 tyX1_ok vl_X2_9 vn_X1 vi_X1 rfl (by decide) (by rw [lf kr, f5 _ (Nat.le_refl _)]; rfl) (show 1 + 19 * i + 1 ≤ 115 by omega) (show 6 + 220 * i + 6 ≤ 1326 by omega) dX2_init_29 (fun H hM => ?_)
      refine lv_dup hx hb dX2_init_32 rfl ?_
      refine i_call (i := 2 + 19 * i) (mm := 19) CX hM rfl ⟨⟨vm_X2_17, vs_X1, vi_X1, vk_X1⟩, by decide, by decide, by decide, by decide +kernel⟩ (n_X1 l E B kr (fun q hq => f5 q hq)) ⟨rfl, rfl, Nat.le_of_ble_eq_true rfl, Nat.le_of_ble_eq_true rfl⟩ ⟨show 1 + 19 * i + 1 + 18 ≤ 115 by omega, show 6 + 220 * i + 6 + 214 ≤ 1326 by omega⟩ hl.1 (Nat.le_of_ble_eq_true rfl) dX2_init_33 (fun H locs σ1 a1 a2 a3 hM => ?_)
      refine i_aast (i := 1) (t0 := 3) (qk := 2 + 19 * i) (ci := 1) (N := 6) (r := (RX1, TX1, 6)) CX hM (by omega) (lf k1 _) rfl (by omega) (lf kr _) rfl (inb_nI hi6 (by omega)) ?_ dX2_init_36 (fun H locs σ2 e2 hM => ?_)
      · rw [lf k1]
        show Sum.inl _ = Sum.inl _
        rw [cl_nI (show i < 2 ^ 31 by omega)]
        have : (fun j => rq (upd (σ1 (k + 1)) i 1 j) (B + (k + 1 + 1 + 19 * j))) = va_up (fun j => rq (σ1 (k + 1) j) (B + (k + 1 + 1 + 19 * j))) i (some (B + (k + (2 + 19 * i)))) := by
          funext j
          unfold upd va_up
          by_cases h : j = i
          · rw [if_pos h, if_pos h, rq_1, h]; congr 1; omega
          · rw [if_neg h, if_neg h]
        rw [this]
      refine lv_iinc (v := nI i + 1) (lv' := [(1, .int (nI i + 1)), (0, .ref (B + k))]) hx hb dX2_init_37 hl (k := 0) rfl rfl (by decide) rfl (fun ls hl => ?_)
      refine lv_goto (tgt := 15) hx hb dX2_init_40 (by decide) ?_
      have ec : 1 + 19 * i + 1 + 18 = 1 + 19 * (i + 1) := by omega
      have es : 6 + 220 * i + 6 + 214 = 6 + 220 * (i + 1) := by omega
      have en : 2 + 19 * i + 19 = 2 + 19 * (i + 1) := by omega
      rw [ec, es]
      rw [en] at hM
      rw [nI_1] at hl
      rw [cl_nI (show i < 2 ^ 31 by omega)] at e2
      refine ih (i + 1) σ2 H locs ls (by omega) hM hl ?_ ?_ (fun q q1 q2 => ?_) (fun q q1 => ?_)
      · rw [e2, xup_ne (by omega), a1 _ (by omega), f0]
      · rw [e2, xup_same, a1 _ (by omega), f1]
        funext j
        unfold upd
        dsimp only
        by_cases h : j = i
        · rw [if_pos h, if_pos (by omega)]
        · rw [if_neg h]
          by_cases h2 : j < i
          · rw [if_pos h2, if_pos (by omega)]
          · rw [if_neg h2, if_neg (by omega)]
      · rw [e2, xup_ne (by omega)]
        by_cases h : q < k + (2 + 19 * i)
        · rw [a1 _ h, f4 q q1 h]
        · rw [a2 _ (by omega) (by omega)]
      · rw [e2, xup_ne (by omega), a3 _ (by omega), f5 q (by omega)]
  have h0 := hz k (Nat.le_refl k)
  refine lv_aload_n hx hb dX2_init_0 rfl (lv_at hl 0 rfl) ?_
  refine i_obj CX vo_X2 hl.1 (Nat.le_of_ble_eq_true rfl) (Nat.le_of_ble_eq_true rfl) dX2_init_1 ?_
  refine lv_aload_n hx hb dX2_init_4 rfl (lv_at hl 0 rfl) ?_
  refine lv_bipush hx hb (v := 6) dX2_init_5 (by decide) ?_
  refine i_anew CX hM (t0 := 3) (N' := 6) vl_X2_9 CX.2.2.2.2.2 rfl (by rw [lf k1, hz _ (by omega)]; rfl) (by decide) (by decide) (by decide) (Nat.le_of_ble_eq_true rfl) (Nat.le_of_ble_eq_true rfl) dX2_init_7 (fun H hM => ?_)
  refine i_put (i := 0) (v := .ref (B + (k + 1))) (ty := tyX2 0) CX hin hM (by omega) (lf hk _) in_X2 tyX2 tyX2_ok nmX2 rfl 0 (by decide) vf_X2_11 rfl rfl rfl rfl rfl (show 0 < 3 by decide) (by rw [Nat.add_zero, lf hk, h0]; simp [fhX, fh2, upd, rv]) dX2_init_10 (fun H locs σ1 e1 hM => ?_)
  have q0 : σ1 k = upd (fun _ => 0) 0 1 := by rw [e1, Nat.add_zero, xup_same, h0]
  have qo : ∀ q, k < q → σ1 q = fun _ => 0 := fun q hq => by rw [e1, Nat.add_zero, xup_ne (by omega), hz q (by omega)]
  refine lv_iconst (v := 0) hx hb dX2_init_13 (by decide) ?_
  refine lv_istore_n (lv' := [(1, .int (nI 0)), (0, .ref (B + k))]) hx hb dX2_init_14 rfl hl (by decide) rfl (fun ls hl => ?_)
  refine L2 6 0 σ1 H locs ls (by omega) hM hl q0 ?_ (fun q q1 q2 => by omega) (fun q q1 => qo q (by omega))
  rw [qo _ (by omega)]; rfl
