/-! a Colony's constructor -/
theorem i_vret2 {p : Program} {l : Launch} {e : Env} {R : Room} {s : State} {m : MethodId} {args : Array Value} {below : List Frame} {meth : Method} {c : Code} {H : Heap} {locs : List Loc} {cells slots : Nat} {cc : ByteArray} {pc nL : Nat} {ls : Array Slot} {E : xE} {B k n : Nat} {L : Nat → (Nat → Int32) → va_E} {σ : xM} {x0 : Cond} {own : String}
    (CX : iCX p m c cc nL s args x0 own E B k) (hr : meth.sig.returnType = none) (hlk : meth.locks = false) (hM : iS E B k n L s σ H locs) {σ' : xM} (hσ : ∀ i, i < n → va_at E.1 vwCl (B + (k + i), L (k + i) (σ (k + i))) H → va_at E.1 vwCl (B + (k + i), L (k + i) (σ' (k + i))) H) (hdg : decode cc pc = .ok (.return_, 1)) :
    W p l e R s m args below meth c H locs cells slots (MQ below (iQ E B k n L σ') args s cells slots (iA (B + k))) (F0 m pc ls []) := by
  have hw : va_P E.1 vwCl (wS B k n L σ') H := by
    intro j q hj
    obtain ⟨hjn, rfl⟩ := wS_inv hj
    exact hσ j hjn (hM.1 j _ (wS_get hjn))
  exact W.vret CX.1.1 CX.1.2.1 hr (fun t ht _ => ⟨⟨rfl, by rw [ht]; exact hw, by rw [ht]; exact hM.2.2⟩, hM.2.1.F ht⟩) hM.2.1.2.2 hdg hlk
theorem at_q {D : va_G} {cl : List vw_C} {a : Nat} {cA : ClassId} {N : Nat} {f g : Nat → Option Nat} {H : Heap} (hfg : ∀ j, j < N → f j = g j) (h : va_at D cl (a, .inl (cA, N, .inr (.inr (.inr (.inr f))))) H) : va_at D cl (a, .inl (cA, N, .inr (.inr (.inr (.inr g))))) H := by
  have h' : H[a]? = some (vp_cell cA (N, .inr (.inr (.inr (.inr f))))) := h
  show H[a]? = some (vp_cell cA (N, .inr (.inr (.inr (.inr g)))))
  rw [h', vp_cell_q, vp_cell_q]
  unfold arrV
  have : (fun j : Fin N => va_rf (f j.val)) = fun j : Fin N => va_rf (g j.val) := by funext j; rw [hfg j.val j.isLt]
  rw [this]
def rm_i1 : Jvm.Room := { frames := 3, cells := 18, slots := 214, locals := 52 }
def fl4 : Nat → Int32 := upd (upd (upd (upd (fun _ => 0) 0 1) 1 1) 2 1) 3 1
theorem fh1_fl {B k : Nat} : fh1 B k fl4 = [.ref (B + (k + 1)), .ref (B + (k + 2)), .ref (B + (k + 3)), .ref (B + (k + 4)), .int 0, .int 0] := by simp [fh1, fl4, upd, rv]
theorem kd1_r {k : Nat} (h : kd k = 1) {r : Nat} (hr : r < 6) : kd (k + (7 + 2 * r)) = 3 := by
  have := kd_room h hr
  rw [show k + (7 + 2 * r) = k + 7 + 2 * r by omega]; exact this
theorem stI0_hi {j : Nat} (h : 7 ≤ j) : stI 0 j = 0 := by
  show ([25, 1000, 5, 10, 7, 45000, 15] : List Int32).getD j 0 = 0
  rw [List.getD_eq_getElem?_getD, List.getElem?_eq_none (by simpa using h)]
  rfl
theorem n_X1 (l : Launch) (E : xE) (B : Nat) {k : Nat} {σ : xM} (hk : kd k = 1) (hz : ∀ q, k ≤ q → σ q = fun _ => 0) : Met l yX1_init (Cond.code yX1_init cX1_init 2 none :: AL) rm_i1 (iP E B k (layF E B) σ) (iQ E B k 19 (layF E B) zF) 18 214 (iA (B + k)) := by
  refine i_met (plainFor_of_name (by decide +kernel)) (by omega) ?_
  intro p e s m below meth c ls CX hr hlk hin hM hl
  have hx := CX.1.1
  have hb := CX.1.2.1
  obtain ⟨k1, k2, k3, k4⟩ := kd1_f hk
  have k5 : kd (k + 5) = 13 := (kd4_f k4).1
  have k6 : kd (k + 6) = 13 := (kd4_f k4).2
  -- the rooms
  have L2 : ∀ (d i : Nat) (σ : xM) (H : Heap) (locs : List Loc) (ls : Array Slot), i + d = 6 → iS E B k (7 + 2 * i) (layF E B) s σ H locs → lv_has ls 2 [(1, .int (nI i)), (0, .ref (B + k))] → σ k = fl4 → σ (k + 1) = stI 0 → (σ (k + 2) = fun j => if j < i then 1 else 0) → σ (k + 3) = (fun _ => 0) → (∀ q, k + 4 ≤ q → q < k + (7 + 2 * i) → σ q = zF q) → (∀ q, k + (7 + 2 * i) ≤ q → σ q = fun _ => 0) →
      W p l e rm_i1 s m #[.ref (B + k)] below meth c H locs (6 + 2 * i) (76 + 23 * i) (MQ below (iQ E B k 19 (layF E B) zF) #[.ref (B + k)] s 18 214 (iA (B + k))) (F0 m 78 ls []) := by
    clear hM hl hz
    intro d
    induction d with
    | zero =>
      intro i σ H locs ls hi hM hl f0 f1 f2 f3 f4 f5
      obtain rfl : i = 6 := by omega
      refine lv_iload_n hx hb dX1_init_78 rfl (lv_at hl 0 rfl) ?_
      refine lv_aload_n hx hb dX1_init_79 rfl (lv_at hl 1 rfl) ?_
      refine i_get (i := 0) CX hM (by omega) (lf hk _) in_X1 rfl 1 (by decide) vf_X1_17 (v := .ref (B + (k + 2))) (by rw [Nat.add_zero, f0, fh1_fl]; rfl) dX1_init_80 ?_
      refine i_alen (i := 2) CX hM 2 (by omega) (lf k2 _) rfl (v := 6) (show Int32.ofNat 6 = 6 by decide) dX1_init_83 ?_
      refine lv_icmp_ge (tgt := 106) hx hb dX1_init_84 (by decide) (fun c1 => ?_) (fun c1 => absurd (by decide) c1)
      refine i_vret2 CX hr hlk hM (fun i hi => ?_) dX1_init_106
      by_cases i0 : i = 0
      · subst i0
        rw [show layF E B (k + 0) (σ (k + 0)) = layF E B (k + 0) (zF (k + 0)) by rw [Nat.add_zero, f0, zf hk, lf hk, lf hk]; simp [fhX, fh1_fl]; simp [fh1, zK, rv]]
        exact id
      by_cases i1 : i = 1
      · subst i1; rw [f1, zf k1]; exact id
      by_cases i2 : i = 2
      · subst i2; rw [f2, zf k2, lf k2, lf k2]
        exact at_q (fun j hj => by dsimp only; rw [if_pos hj]; rfl)
      by_cases i3 : i = 3
      · subst i3; rw [f3, zf k3]; exact id
      rw [f4 _ (by omega) (by omega)]
      exact id
    | succ d ih =>
      intro i σ H locs ls hi hM hl f0 f1 f2 f3 f4 f5
      have hi6 : i < 6 := by omega
      have kr := kd1_r hk hi6
      refine lv_iload_n hx hb dX1_init_78 rfl (lv_at hl 0 rfl) ?_
      refine lv_aload_n hx hb dX1_init_79 rfl (lv_at hl 1 rfl) ?_
      refine i_get (i := 0) CX hM (by omega) (lf hk _) in_X1 rfl 1 (by decide) vf_X1_17 (v := .ref (B + (k + 2))) (by rw [Nat.add_zero, f0, fh1_fl]; rfl) dX1_init_80 ?_
      refine i_alen (i := 2) CX hM 2 (by omega) (lf k2 _) rfl (v := 6) (show Int32.ofNat 6 = 6 by decide) dX1_init_83 ?_
      refine lv_icmp_ge (tgt := 106) hx hb dX1_init_84 (by decide) (fun c1 => absurd c1 (nI_ge (b := 6) hi6 (by omega))) (fun c1 => ?_)
      refine lv_aload_n hx hb dX1_init_87 rfl (lv_at hl 1 rfl) ?_
      refine i_get (i := 0) CX hM (by omega) (lf hk _) in_X1 rfl 1 (by decide) vf_X1_17 (v := .ref (B + (k + 2))) (by rw [Nat.add_zero, f0, fh1_fl]; rfl) dX1_init_88 ?_
      refine lv_iload_n hx hb dX1_init_91 rfl (lv_at hl 0 rfl) ?_
      refine i_newc (ci := 3) (fs := fh3 B (k + (7 + 2 * i)) (fun _ => 0)) CX hM in_X3 tyX3 tyX3_ok vl_X1_15 vn_X3 vi_X3 rfl ?_ (by rw [lf kr, f5 _ (Nat.le_refl _)]; rfl) (show 6 + 2 * i + 1 ≤ 18 by omega) (show 76 + 23 * i + 18 ≤ 214 by omega) dX1_init_92 (fun H hM => ?_)
      · intro j hj
        have : fh3 B (k + (7 + 2 * i)) (fun _ => 0) = [.null, .int 0, .int 0, .int 0, .int 0, .int 0, .int 0, .int 0, .int 0, .int 0, .int 0, .int 0, .int 0, .int 0, .int 0, .int 0, .int 0, .int 0] := by simp [fh3, rv, bz]
        rw [this]
        exact (by decide : ∀ j, j < 18 → defaultValue (tyX3 j) = vp_V [.null, .int 0, .int 0, .int 0, .int 0, .int 0, .int 0, .int 0, .int 0, .int 0, .int 0, .int 0, .int 0, .int 0, .int 0, .int 0, .int 0, .int 0] j) j hj
      refine lv_dup hx hb dX1_init_95 rfl ?_
      refine i_callN (i := 7 + 2 * i) (mm := 2) CX hM rfl CX.2.2.1.2.1 ⟨⟨vs_X3, vi_X3, vk_X3⟩, by decide, by decide, by decide, by decide +kernel⟩ (n_X3 l E B kr (fun q hq => f5 q hq)) ⟨rfl, rfl, Nat.le_of_ble_eq_true rfl, Nat.le_of_ble_eq_true rfl⟩ ⟨show 6 + 2 * i + 1 + 1 ≤ 18 by omega, show 76 + 23 * i + 18 + 5 ≤ 214 by omega⟩ hl.1 (Nat.le_of_ble_eq_true rfl) dX1_init_96 (fun H locs σ1 a1 a2 a3 hM => ?_)
      refine i_aast (i := 2) (t0 := 2) (qk := 7 + 2 * i) (ci := 3) (N := 6) (r := (RX3, TX3, 18)) CX hM (by omega) (lf k2 _) rfl (by omega) (lf kr _) rfl (inb_nI hi6 (by omega)) ?_ dX1_init_99 (fun H locs σ2 e2 hM => ?_)
      · rw [lf k2]
        show Sum.inl _ = Sum.inl _
        rw [cl_nI (show i < 2 ^ 31 by omega)]
        have : (fun j => rq (upd (σ1 (k + 2)) i 1 j) (B + (k + 2 + 5 + 2 * j))) = va_up (fun j => rq (σ1 (k + 2) j) (B + (k + 2 + 5 + 2 * j))) i (some (B + (k + (7 + 2 * i)))) := by
          funext j
          unfold upd va_up
          by_cases h : j = i
          · rw [if_pos h, if_pos h, rq_1, h]; congr 1; omega
          · rw [if_neg h, if_neg h]
        rw [this]
      refine lv_iinc (v := nI i + 1) (lv' := [(1, .int (nI i + 1)), (0, .ref (B + k))]) hx hb dX1_init_100 hl (k := 0) rfl rfl (by decide) rfl (fun ls hl => ?_)
      refine lv_goto (tgt := 78) hx hb dX1_init_103 (by decide) ?_
      have ec : 6 + 2 * i + 1 + 1 = 6 + 2 * (i + 1) := by omega
      have es : 76 + 23 * i + 18 + 5 = 76 + 23 * (i + 1) := by omega
      have en : 7 + 2 * i + 2 = 7 + 2 * (i + 1) := by omega
      rw [ec, es]
      rw [en] at hM
      rw [nI_1] at hl
      rw [cl_nI (show i < 2 ^ 31 by omega)] at e2
      refine ih (i + 1) σ2 H locs ls (by omega) hM hl ?_ ?_ ?_ ?_ (fun q q1 q2 => ?_) (fun q q1 => ?_)
      · rw [e2, xup_ne (by omega), a1 _ (by omega), f0]
      · rw [e2, xup_ne (by omega), a1 _ (by omega), f1]
      · rw [e2, xup_same, a1 _ (by omega), f2]
        funext j
        unfold upd
        dsimp only
        by_cases h : j = i
        · rw [if_pos h, if_pos (by omega)]
        · rw [if_neg h]
          by_cases h2 : j < i
          · rw [if_pos h2, if_pos (by omega)]
          · rw [if_neg h2, if_neg (by omega)]
      · rw [e2, xup_ne (by omega), a1 _ (by omega), f3]
      · rw [e2, xup_ne (by omega)]
        by_cases h : q < k + (7 + 2 * i)
        · rw [a1 _ h, f4 q q1 h]
        · rw [a2 _ (by omega) (by omega)]
      · rw [e2, xup_ne (by omega), a3 _ (by omega), f5 q (by omega)]
  -- the numbers
  have L1 : ∀ (d i : Nat) (σ : xM) (H : Heap) (locs : List Loc) (ls : Array Slot), i + d = 7 → iS E B k 7 (layF E B) s σ H locs → lv_has ls 2 [(1, .int (nI i)), (0, .ref (B + k))] → σ k = fl4 → (σ (k + 1) = fun j => if j < i then stI 0 j else 0) → σ (k + 2) = (fun _ => 0) → σ (k + 3) = (fun _ => 0) → (∀ q, k + 4 ≤ q → q < k + 7 → σ q = zF q) → (∀ q, k + 7 ≤ q → σ q = fun _ => 0) →
      W p l e rm_i1 s m #[.ref (B + k)] below meth c H locs 6 76 (MQ below (iQ E B k 19 (layF E B) zF) #[.ref (B + k)] s 18 214 (iA (B + k))) (F0 m 42 ls []) := by
    clear hM hl hz
    intro d
    induction d with
    | zero =>
      intro i σ H locs ls hi hM hl f0 f1 f2 f3 f4 f5
      obtain rfl : i = 7 := by omega
      refine lv_iload_n hx hb dX1_init_42 rfl (lv_at hl 0 rfl) ?_
      refine lv_aload_n hx hb dX1_init_43 rfl (lv_at hl 1 rfl) ?_
      refine i_get (i := 0) CX hM (by omega) (lf hk _) in_X1 rfl 0 (by decide) vf_X1_9 (v := .ref (B + (k + 1))) (by rw [Nat.add_zero, f0, fh1_fl]; rfl) dX1_init_44 ?_
      refine i_alen (i := 1) CX hM 0 (by omega) (lf k1 _) rfl (v := 7) (show Int32.ofNat 7 = 7 by decide) dX1_init_47 ?_
      refine lv_icmp_ge (tgt := 76) hx hb dX1_init_48 (by decide) (fun c1 => ?_) (fun c1 => absurd (by decide) c1)
      refine lv_iconst (v := 0) hx hb dX1_init_76 (by decide) ?_
      refine lv_istore_n (lv' := [(1, .int (nI 0)), (0, .ref (B + k))]) hx hb dX1_init_77 rfl hl (by decide) rfl (fun ls hl => ?_)
      refine L2 6 0 σ H locs ls (by omega) hM hl f0 ?_ ?_ f3 f4 f5
      · rw [f1]; funext j
        by_cases h : j < 7
        · rw [if_pos h]
        · rw [if_neg h, stI0_hi (by omega)]
      · rw [f2]; rfl
    | succ d ih =>
      intro i σ H locs ls hi hM hl f0 f1 f2 f3 f4 f5
      have hi7 : i < 7 := by omega
      have hlt : ¬ (7 : Int32) ≤ nI i := nI_ge (b := 7) hi7 (by omega)
      have hlink := va_Nw.use (A := #[.ref (B + k)]) rfl CX.2.2.2.1
      have hT := CX.2.1.2.2.2 0 (by omega)
      refine lv_iload_n hx hb dX1_init_42 rfl (lv_at hl 0 rfl) ?_
      refine lv_aload_n hx hb dX1_init_43 rfl (lv_at hl 1 rfl) ?_
      refine i_get (i := 0) CX hM (by omega) (lf hk _) in_X1 rfl 0 (by decide) vf_X1_9 (v := .ref (B + (k + 1))) (by rw [Nat.add_zero, f0, fh1_fl]; rfl) dX1_init_44 ?_
      refine i_alen (i := 1) CX hM 0 (by omega) (lf k1 _) rfl (v := 7) (show Int32.ofNat 7 = 7 by decide) dX1_init_47 ?_
      refine lv_icmp_ge (tgt := 76) hx hb dX1_init_48 (by decide) (fun c1 => absurd c1 hlt) (fun c1 => ?_)
      refine lv_iload_n hx hb dX1_init_51 rfl (lv_at hl 0 rfl) ?_
      refine i_gets CX hM CX.2.1.2.2.1.1 hlink dX1_init_52 ?_
      refine i_slen CX hM hT dX1_init_55 ?_
      refine lv_icmp_ge (tgt := 76) hx hb dX1_init_56 (by decide) (fun c1 => absurd c1 hlt) (fun c1 => ?_)
      refine lv_aload_n hx hb dX1_init_59 rfl (lv_at hl 1 rfl) ?_
      refine i_get (i := 0) CX hM (by omega) (lf hk _) in_X1 rfl 0 (by decide) vf_X1_9 (v := .ref (B + (k + 1))) (by rw [Nat.add_zero, f0, fh1_fl]; rfl) dX1_init_60 ?_
      refine lv_iload_n hx hb dX1_init_63 rfl (lv_at hl 0 rfl) ?_
      refine i_gets CX hM CX.2.1.2.2.1.1 hlink dX1_init_64 ?_
      refine lv_iload_n hx hb dX1_init_67 rfl (lv_at hl 0 rfl) ?_
      refine i_sald CX hM hT (inb_nI hi7 (by omega)) (v := .int (stI 0 i)) (by rw [cl_nI (by omega)]; rfl) dX1_init_68 ?_
      refine i_iast (i := 1) (N := 7) CX hM (by omega) (fun f => lf k1 f) (inb_nI hi7 (by omega)) dX1_init_69 (fun H locs σ1 e1 hM => ?_)
      refine lv_iinc (v := nI i + 1) (lv' := [(1, .int (nI i + 1)), (0, .ref (B + k))]) hx hb dX1_init_70 hl (k := 0) rfl rfl (by decide) rfl (fun ls hl => ?_)
      refine lv_goto (tgt := 42) hx hb dX1_init_73 (by decide) ?_
      rw [nI_1] at hl
      rw [cl_nI (show i < 2 ^ 31 by omega)] at e1
      refine ih (i + 1) σ1 H locs ls (by omega) hM hl ?_ ?_ ?_ ?_ (fun q q1 q2 => ?_) (fun q q1 => ?_)
      · rw [e1, xup_ne (by omega), f0]
      · rw [e1, xup_same, f1]
        funext j
        unfold upd
        dsimp only
        by_cases h : j = i
        · rw [if_pos h, if_pos (by omega), h]
        · rw [if_neg h]
          by_cases h2 : j < i
          · rw [if_pos h2, if_pos (by omega)]
          · rw [if_neg h2, if_neg (by omega)]
      · rw [e1, xup_ne (by omega), f2]
      · rw [e1, xup_ne (by omega), f3]
      · rw [e1, xup_ne (by omega), f4 q q1 q2]
      · rw [e1, xup_ne (by omega), f5 q q1]
  have h0 := hz k (Nat.le_refl k)
  refine lv_aload_n hx hb dX1_init_0 rfl (lv_at hl 0 rfl) ?_
  refine i_obj CX vo_X1 hl.1 (Nat.le_of_ble_eq_true rfl) (Nat.le_of_ble_eq_true rfl) dX1_init_1 ?_
  refine lv_aload_n hx hb dX1_init_4 rfl (lv_at hl 0 rfl) ?_
  refine lv_bipush hx hb (v := 7) dX1_init_5 (by decide) ?_
  refine i_newa CX hM (atype := .int) va_w_int (t0 := 0) (N' := 7) rfl (Or.inl rfl) (by rw [lf k1, hz _ (by omega)]; rfl) (by decide) (by decide) (by decide) (Nat.le_of_ble_eq_true rfl) (Nat.le_of_ble_eq_true rfl) dX1_init_7 (fun H hM => ?_)
  refine i_put (i := 0) (v := .ref (B + (k + 1))) (ty := tyX1 0) CX hin hM (by omega) (lf hk _) in_X1 tyX1 tyX1_ok nmX1 rfl 0 (by decide) vf_X1_9 rfl rfl rfl rfl rfl (show 0 < 6 by decide) (by rw [Nat.add_zero, lf hk, h0]; simp [fhX, fh1, upd, rv]) dX1_init_9 (fun H locs σ1 e1 hM => ?_)
  have q0 : σ1 k = upd (fun _ => 0) 0 1 := by rw [e1, Nat.add_zero, xup_same, h0]
  have qo : ∀ q, k < q → σ1 q = fun _ => 0 := fun q hq => by rw [e1, Nat.add_zero, xup_ne (by omega), hz q (by omega)]
  refine lv_aload_n hx hb dX1_init_12 rfl (lv_at hl 0 rfl) ?_
  refine lv_bipush hx hb (v := 6) dX1_init_13 (by decide) ?_
  refine i_anew CX hM (t0 := 2) (N' := 6) vl_X1_15 CX.2.2.2.2.1 rfl (by rw [lf k2, qo _ (by omega)]; rfl) (by decide) (by decide) (by decide) (Nat.le_of_ble_eq_true rfl) (Nat.le_of_ble_eq_true rfl) dX1_init_15 (fun H hM => ?_)
  refine i_put (i := 0) (v := .ref (B + (k + 2))) (ty := tyX1 1) CX hin hM (by omega) (lf hk _) in_X1 tyX1 tyX1_ok nmX1 rfl 1 (by decide) vf_X1_17 rfl rfl rfl rfl rfl (show 1 < 6 by decide) (by rw [Nat.add_zero, lf hk, q0]; simp [fhX, fh1, upd, rv]) dX1_init_18 (fun H locs σ2 e2 hM => ?_)
  have r0 : σ2 k = upd (upd (fun _ => 0) 0 1) 1 1 := by rw [e2, Nat.add_zero, xup_same, q0]
  have ro : ∀ q, k < q → σ2 q = fun _ => 0 := fun q hq => by rw [e2, Nat.add_zero, xup_ne (by omega), qo q (by omega)]
  refine lv_aload_n hx hb dX1_init_21 rfl (lv_at hl 0 rfl) ?_
  refine lv_bipush hx hb (v := 36) dX1_init_22 (by decide) ?_
  refine i_newa CX hM (atype := .int) va_w_int (t0 := 0) (N' := 36) rfl (Or.inl rfl) (by rw [lf k3, ro _ (by omega)]; rfl) (by decide) (by decide) (by decide) (Nat.le_of_ble_eq_true rfl) (Nat.le_of_ble_eq_true rfl) dX1_init_24 (fun H hM => ?_)
  refine i_put (i := 0) (v := .ref (B + (k + 3))) (ty := tyX1 2) CX hin hM (by omega) (lf hk _) in_X1 tyX1 tyX1_ok nmX1 rfl 2 (by decide) vf_X1_21 rfl rfl rfl rfl rfl (show 2 < 6 by decide) (by rw [Nat.add_zero, lf hk, r0]; simp [fhX, fh1, upd, rv]) dX1_init_26 (fun H locs σ3 e3 hM => ?_)
  have s0 : σ3 k = upd (upd (upd (fun _ => 0) 0 1) 1 1) 2 1 := by rw [e3, Nat.add_zero, xup_same, r0]
  have so : ∀ q, k < q → σ3 q = fun _ => 0 := fun q hq => by rw [e3, Nat.add_zero, xup_ne (by omega), ro q (by omega)]
  refine lv_aload_n hx hb dX1_init_29 rfl (lv_at hl 0 rfl) ?_
  refine i_newc (ci := 4) (fs := [.null, .null, .int 0]) CX hM in_X4 tyX4 tyX4_ok vl_X1_24 vn_X4 vi_X4 rfl (by decide) (by rw [lf k4, so _ (by omega)]; rfl) (Nat.le_of_ble_eq_true rfl) (Nat.le_of_ble_eq_true rfl) dX1_init_30 (fun H hM => ?_)
  refine lv_dup hx hb dX1_init_33 rfl ?_
  refine i_callN (i := 4) (mm := 3) CX hM rfl CX.2.2.1.1 ⟨⟨vs_X4, vi_X4, vk_X4⟩, by decide, by decide, by decide, by decide +kernel⟩ (n_X4 l E B k4 (fun q hq => so q (by omega))) ⟨rfl, rfl, Nat.le_of_ble_eq_true rfl, Nat.le_of_ble_eq_true rfl⟩ ⟨Nat.le_of_ble_eq_true rfl, Nat.le_of_ble_eq_true rfl⟩ hl.1 (Nat.le_of_ble_eq_true rfl) dX1_init_34 (fun H locs σ4 a1 a2 a3 hM => ?_)
  have u0 : σ4 k = upd (upd (upd (fun _ => 0) 0 1) 1 1) 2 1 := by rw [a1 k (by omega), s0]
  refine i_put (i := 0) (v := .ref (B + (k + 4))) (ty := tyX1 3) CX hin hM (by omega) (lf hk _) in_X1 tyX1 tyX1_ok nmX1 rfl 3 (by decide) vf_X1_27 rfl rfl rfl rfl rfl (show 3 < 6 by decide) (by rw [Nat.add_zero, lf hk, u0]; simp [fhX, fh1, upd, rv]) dX1_init_37 (fun H locs σ5 e5 hM => ?_)
  have v0 : σ5 k = fl4 := by rw [e5, Nat.add_zero, xup_same, u0]; rfl
  have vo : ∀ q, k < q → σ5 q = σ4 q := fun q hq => by rw [e5, Nat.add_zero, xup_ne (by omega)]
  refine lv_iconst (v := 0) hx hb dX1_init_40 (by decide) ?_
  refine lv_istore_n (lv' := [(1, .int (nI 0)), (0, .ref (B + k))]) hx hb dX1_init_41 rfl hl (by decide) rfl (fun ls hl => ?_)
  refine L1 7 0 σ5 H locs ls (by omega) hM hl v0 ?_ ?_ ?_ (fun q q1 q2 => ?_) (fun q q1 => ?_)
  · rw [vo _ (by omega), a1 _ (by omega), so _ (by omega)]; rfl
  · rw [vo _ (by omega), a1 _ (by omega), so _ (by omega)]
  · rw [vo _ (by omega), a1 _ (by omega), so _ (by omega)]
  · rw [vo _ (by omega), a2 _ (by omega) (by omega)]
  · rw [vo _ (by omega), a3 _ (by omega), so _ (by omega)]
