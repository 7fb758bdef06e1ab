def rm_X0_begin : Jvm.Room := { frames := 0, cells := 0, slots := 0, locals := 0 }
set_option maxHeartbeats 4000000 in
set_option maxRecDepth 100000 in
theorem c_X0_begin (l : Launch) (E : xE) (B : Nat) {k : Nat} {x1 : Int32} {σ : xM} {q : Unit × xM} (hk_k : kd k = 0) (h : F_X0_begin k x1 σ = some q) : Met l yX0_begin (Cond.code yX0_begin cX0_begin 2 none :: AL) rm_X0_begin (xP E B 160 (layX E B) [.ref (B + k), .int x1] σ) (xQ E B 160 (layX E B) none q.2) 0 0 (wA B 160) := by
  refine x_met (plainFor_of_name (by decide +kernel)) (Nat.le_of_ble_eq_true rfl) rfl ?_
  intro p e s m below meth c ls CX hr hlk hM hl
  have hx := CX.1.1
  have hb := CX.1.2.1
  unfold F_X0_begin at h
  refine lv_aload_n hx hb dX0_begin_0 rfl (lv_at hl 0 rfl) ?_
  refine lv_iload_n hx hb dX0_begin_1 rfl (lv_at hl 1 rfl) ?_
  refine p0_0 (y := x1) CX hM hk_k wf_X0_9 dX0_begin_2 (fun H locs σ1 eσ1 hM => ?_)
  replace h := nm_h eσ1 h
  refine lv_aload_n hx hb dX0_begin_5 rfl (lv_at hl 0 rfl) ?_
  refine lv_iconst (v := 0) hx hb dX0_begin_6 (by decide) ?_
  refine p0_1 (y := 0) CX hM hk_k wf_X0_15 dX0_begin_7 (fun H locs σ2 eσ2 hM => ?_)
  replace h := nm_h eσ2 h
  refine lv_aload_n hx hb dX0_begin_10 rfl (lv_at hl 0 rfl) ?_
  refine lv_iconst (v := 0) hx hb dX0_begin_11 (by decide) ?_
  refine p0_2 (y := 0) CX hM hk_k wf_X0_18 dX0_begin_12 (fun H locs σ3 eσ3 hM => ?_)
  replace h := nm_h eσ3 h
  refine lv_aload_n hx hb dX0_begin_15 rfl (lv_at hl 0 rfl) ?_
  refine lv_iconst (v := 0) hx hb dX0_begin_16 (by decide) ?_
  refine p0_3 (y := 0) CX hM hk_k wf_X0_21 dX0_begin_17 (fun H locs σ4 eσ4 hM => ?_)
  replace h := nm_h eσ4 h
  refine lv_aload_n hx hb dX0_begin_20 rfl (lv_at hl 0 rfl) ?_
  refine lv_iconst (v := 0) hx hb dX0_begin_21 (by decide) ?_
  refine p0_4 (y := 0) CX hM hk_k wf_X0_24 dX0_begin_22 (fun H locs σ5 eσ5 hM => ?_)
  replace h := nm_h eσ5 h
  obtain rfl := Option.some.inj h
  exact x_vret CX hr hlk hM rfl dX0_begin_25
def rm_X0_copyFrom : Jvm.Room := { frames := 0, cells := 0, slots := 0, locals := 0 }
set_option maxHeartbeats 4000000 in
set_option maxRecDepth 100000 in
theorem c_X0_copyFrom (l : Launch) (E : xE) (B : Nat) {k : Nat} {r1 : Nat} {σ : xM} {q : Unit × xM} (hk_k : kd k = 0) (hk_r1 : kd r1 = 0) (h : F_X0_copyFrom k r1 σ = some q) : Met l yX0_copyFrom (Cond.code yX0_copyFrom cX0_copyFrom 2 none :: AL) rm_X0_copyFrom (xP E B 160 (layX E B) [.ref (B + k), .ref (B + r1)] σ) (xQ E B 160 (layX E B) none q.2) 0 0 (wA B 160) := by
  refine x_met (plainFor_of_name (by decide +kernel)) (Nat.le_of_ble_eq_true rfl) rfl ?_
  intro p e s m below meth c ls CX hr hlk hM hl
  have hx := CX.1.1
  have hb := CX.1.2.1
  unfold F_X0_copyFrom at h
  refine lv_aload_n hx hb dX0_copyFrom_0 rfl (lv_at hl 0 rfl) ?_
  refine lv_aload_n hx hb dX0_copyFrom_1 rfl (lv_at hl 1 rfl) ?_
  refine g0_0 CX hM hk_r1 wf_X0_9 dX0_copyFrom_2 ?_
  refine p0_0 (y := (σ r1 0)) CX hM hk_k wf_X0_9 dX0_copyFrom_5 (fun H locs σ1 eσ1 hM => ?_)
  replace h := nm_h eσ1 h
  refine lv_aload_n hx hb dX0_copyFrom_8 rfl (lv_at hl 0 rfl) ?_
  refine lv_aload_n hx hb dX0_copyFrom_9 rfl (lv_at hl 1 rfl) ?_
  refine g0_1 CX hM hk_r1 wf_X0_15 dX0_copyFrom_10 ?_
  refine p0_1 (y := (σ1 r1 1)) CX hM hk_k wf_X0_15 dX0_copyFrom_13 (fun H locs σ2 eσ2 hM => ?_)
  replace h := nm_h eσ2 h
  refine lv_aload_n hx hb dX0_copyFrom_16 rfl (lv_at hl 0 rfl) ?_
  refine lv_aload_n hx hb dX0_copyFrom_17 rfl (lv_at hl 1 rfl) ?_
  refine g0_2 CX hM hk_r1 wf_X0_18 dX0_copyFrom_18 ?_
  refine p0_2 (y := (σ2 r1 2)) CX hM hk_k wf_X0_18 dX0_copyFrom_21 (fun H locs σ3 eσ3 hM => ?_)
  replace h := nm_h eσ3 h
  refine lv_aload_n hx hb dX0_copyFrom_24 rfl (lv_at hl 0 rfl) ?_
  refine lv_aload_n hx hb dX0_copyFrom_25 rfl (lv_at hl 1 rfl) ?_
  refine g0_3 CX hM hk_r1 wf_X0_21 dX0_copyFrom_26 ?_
  refine p0_3 (y := (σ3 r1 3)) CX hM hk_k wf_X0_21 dX0_copyFrom_29 (fun H locs σ4 eσ4 hM => ?_)
  replace h := nm_h eσ4 h
  refine lv_aload_n hx hb dX0_copyFrom_32 rfl (lv_at hl 0 rfl) ?_
  refine lv_aload_n hx hb dX0_copyFrom_33 rfl (lv_at hl 1 rfl) ?_
  refine g0_4 CX hM hk_r1 wf_X0_24 dX0_copyFrom_34 ?_
  refine p0_4 (y := (σ4 r1 4)) CX hM hk_k wf_X0_24 dX0_copyFrom_37 (fun H locs σ5 eσ5 hM => ?_)
  replace h := nm_h eσ5 h
  obtain rfl := Option.some.inj h
  exact x_vret CX hr hlk hM rfl dX0_copyFrom_40
def rm_X0_sum : Jvm.Room := { frames := 0, cells := 0, slots := 0, locals := 0 }
set_option maxHeartbeats 4000000 in
set_option maxRecDepth 100000 in
theorem c_X0_sum (l : Launch) (E : xE) (B : Nat) {k : Nat} {x1 : Int32} {σ : xM} {q : Int32 × xM} (hk_k : kd k = 0) (h : F_X0_sum k x1 σ = some q) : Met l yX0_sum (Cond.code yX0_sum cX0_sum 2 (some .int) :: AL) rm_X0_sum (xP E B 160 (layX E B) [.ref (B + k), .int x1] σ) (xQ E B 160 (layX E B) (some (.int q.1)) q.2) 0 0 (wA B 160) := by
  refine x_met (plainFor_of_name (by decide +kernel)) (Nat.le_of_ble_eq_true rfl) rfl ?_
  intro p e s m below meth c ls CX hr hlk hM hl
  have hx := CX.1.1
  have hb := CX.1.2.1
  unfold F_X0_sum at h
  refine lv_iload_n hx hb dX0_sum_0 rfl (lv_at hl 1 rfl) ?_
  by_cases c1 : x1 = 0
  · replace h := it_h c1 h
    refine lv_tableIn (off := 35) (tgt := 36) hx hb dX0_sum_1 (by rw [c1]; decide) (by rw [c1]; decide) (by rw [c1]; decide) (by decide) ?_
    refine lv_aload_n hx hb dX0_sum_36 rfl (lv_at hl 0 rfl) ?_
    refine g0_0 CX hM hk_k wf_X0_9 dX0_sum_37 ?_
    obtain rfl := Option.some.inj h
    exact x_iret CX hr hlk hM rfl dX0_sum_40
  · replace h := if_h c1 h
    by_cases c2 : x1 = 1
    · replace h := it_h c2 h
      refine lv_tableIn (off := 40) (tgt := 41) hx hb dX0_sum_1 (by rw [c2]; decide) (by rw [c2]; decide) (by rw [c2]; decide) (by decide) ?_
      refine lv_aload_n hx hb dX0_sum_41 rfl (lv_at hl 0 rfl) ?_
      refine g0_1 CX hM hk_k wf_X0_15 dX0_sum_42 ?_
      obtain rfl := Option.some.inj h
      exact x_iret CX hr hlk hM rfl dX0_sum_45
    · replace h := if_h c2 h
      by_cases c3 : x1 = 2
      · replace h := it_h c3 h
        refine lv_tableIn (off := 45) (tgt := 46) hx hb dX0_sum_1 (by rw [c3]; decide) (by rw [c3]; decide) (by rw [c3]; decide) (by decide) ?_
        refine lv_aload_n hx hb dX0_sum_46 rfl (lv_at hl 0 rfl) ?_
        refine g0_2 CX hM hk_k wf_X0_18 dX0_sum_47 ?_
        obtain rfl := Option.some.inj h
        exact x_iret CX hr hlk hM rfl dX0_sum_50
      · replace h := if_h c3 h
        by_cases c4 : x1 = 3
        · replace h := it_h c4 h
          refine lv_tableIn (off := 50) (tgt := 51) hx hb dX0_sum_1 (by rw [c4]; decide) (by rw [c4]; decide) (by rw [c4]; decide) (by decide) ?_
          refine lv_aload_n hx hb dX0_sum_51 rfl (lv_at hl 0 rfl) ?_
          refine g0_3 CX hM hk_k wf_X0_21 dX0_sum_52 ?_
          obtain rfl := Option.some.inj h
          exact x_iret CX hr hlk hM rfl dX0_sum_55
        · replace h := if_h c4 h
          by_cases c5 : x1 = 4
          · replace h := it_h c5 h
            refine lv_tableIn (off := 55) (tgt := 56) hx hb dX0_sum_1 (by rw [c5]; decide) (by rw [c5]; decide) (by rw [c5]; decide) (by decide) ?_
            refine lv_aload_n hx hb dX0_sum_56 rfl (lv_at hl 0 rfl) ?_
            refine g0_4 CX hM hk_k wf_X0_24 dX0_sum_57 ?_
            obtain rfl := Option.some.inj h
            exact x_iret CX hr hlk hM rfl dX0_sum_60
          · replace h := if_h c5 h
            refine lv_tableOut (tgt := 61) hx hb dX0_sum_1 (tsw_out [0, 1, 2, 3, 4] (by decide) (by decide) (List.forall_mem_cons.mpr ⟨c1, (List.forall_mem_cons.mpr ⟨c2, (List.forall_mem_cons.mpr ⟨c3, (List.forall_mem_cons.mpr ⟨c4, (List.forall_mem_cons.mpr ⟨c5, (fun _ h => absurd h List.not_mem_nil)⟩)⟩)⟩)⟩)⟩)) (by decide) ?_
            refine lv_ldc (v := (-1000001)) hx hb CX.1.2.2.2.1 (x_hts CX wc_X0_27) dX0_sum_61 ?_
            obtain rfl := Option.some.inj h
            exact x_iret CX hr hlk hM rfl dX0_sum_63
def rm_X4_copyFrom : Jvm.Room := { frames := 1, cells := 0, slots := 0, locals := 26 }
set_option maxHeartbeats 4000000 in
set_option maxRecDepth 100000 in
theorem c_X4_copyFrom (l : Launch) (E : xE) (B : Nat) {k : Nat} {r1 : Nat} {σ : xM} {q : Unit × xM} (hk_k : kd k = 4) (hk_r1 : kd r1 = 4) (h : F_X4_copyFrom k r1 σ = some q) : Met l yX4_copyFrom (Cond.code yX4_copyFrom cX4_copyFrom 2 none :: AL) rm_X4_copyFrom (xP E B 160 (layX E B) [.ref (B + k), .ref (B + r1)] σ) (xQ E B 160 (layX E B) none q.2) 0 0 (wA B 160) := by
  refine x_met (plainFor_of_name (by decide +kernel)) (Nat.le_of_ble_eq_true rfl) rfl ?_
  intro p e s m below meth c ls CX hr hlk hM hl
  have hx := CX.1.1
  have hb := CX.1.2.1
  unfold F_X4_copyFrom at h
  refine lv_aload_n hx hb dX4_copyFrom_0 rfl (lv_at hl 1 rfl) ?_
  refine g4_0 CX hM hk_r1 wf_X4_9 dX4_copyFrom_1 ?_
  refine lv_iconst (v := 0) hx hb dX4_copyFrom_4 (by decide) ?_
  refine lv_aload_n hx hb dX4_copyFrom_5 rfl (lv_at hl 0 rfl) ?_
  refine g4_0 CX hM hk_k wf_X4_9 dX4_copyFrom_6 ?_
  refine lv_iconst (v := 0) hx hb dX4_copyFrom_9 (by decide) ?_
  refine lv_bipush (v := 12) hx hb dX4_copyFrom_10 (by decide) ?_
  refine x_acopy (nn := 12) CX hM (kdl (kd4_f hk_r1).1 rfl) (kdl (kd4_f hk_k).1 rfl) (ly13 (kd4_f hk_r1).1 _) (fun f => ly13 (kd4_f hk_k).1 f) (by decide) (by decide) (by decide) (by decide) hl.1 lk_X4_18 (by decide) (Nat.le_of_ble_eq_true rfl) dX4_copyFrom_12 (fun H locs σ1 eσ1 hM => ?_)
  replace h := nm_h eσ1 h
  refine lv_aload_n hx hb dX4_copyFrom_15 rfl (lv_at hl 1 rfl) ?_
  refine g4_1 CX hM hk_r1 wf_X4_15 dX4_copyFrom_16 ?_
  refine lv_iconst (v := 0) hx hb dX4_copyFrom_19 (by decide) ?_
  refine lv_aload_n hx hb dX4_copyFrom_20 rfl (lv_at hl 0 rfl) ?_
  refine g4_1 CX hM hk_k wf_X4_15 dX4_copyFrom_21 ?_
  refine lv_iconst (v := 0) hx hb dX4_copyFrom_24 (by decide) ?_
  refine lv_bipush (v := 12) hx hb dX4_copyFrom_25 (by decide) ?_
  refine x_acopy (nn := 12) CX hM (kdl (kd4_f hk_r1).2 rfl) (kdl (kd4_f hk_k).2 rfl) (ly13 (kd4_f hk_r1).2 _) (fun f => ly13 (kd4_f hk_k).2 f) (by decide) (by decide) (by decide) (by decide) hl.1 lk_X4_18 (by decide) (Nat.le_of_ble_eq_true rfl) dX4_copyFrom_27 (fun H locs σ2 eσ2 hM => ?_)
  replace h := nm_h eσ2 h
  refine lv_aload_n hx hb dX4_copyFrom_30 rfl (lv_at hl 0 rfl) ?_
  refine lv_aload_n hx hb dX4_copyFrom_31 rfl (lv_at hl 1 rfl) ?_
  refine g4_2 CX hM hk_r1 wf_X4_24 dX4_copyFrom_32 ?_
  refine p4_2 (y := (σ2 r1 2)) CX hM hk_k wf_X4_24 dX4_copyFrom_35 (fun H locs σ3 eσ3 hM => ?_)
  replace h := nm_h eσ3 h
  obtain rfl := Option.some.inj h
  exact x_vret CX hr hlk hM rfl dX4_copyFrom_38
def rm_X1_roomAt : Jvm.Room := { frames := 0, cells := 0, slots := 0, locals := 0 }
set_option maxHeartbeats 4000000 in
set_option maxRecDepth 100000 in
theorem c_X1_roomAt (l : Launch) (E : xE) (B : Nat) {k : Nat} {x1 : Int32} {σ : xM} {q : Option Nat × xM} (hk_k : kd k = 1) (h : F_X1_roomAt k x1 σ = some q) : Met l yX1_roomAt (Cond.code yX1_roomAt cX1_roomAt 2 (some (.object "ThermostatColony$Room")) :: AL) rm_X1_roomAt (xP E B 160 (layX E B) [.ref (B + k), .int x1] σ) (xQ E B 160 (layX E B) (some (va_rf (q.1.map (fun k => B + k)))) q.2) 0 0 (wA B 160) := by
  refine x_met (plainFor_of_name (by decide +kernel)) (Nat.le_of_ble_eq_true rfl) rfl ?_
  intro p e s m below meth c ls CX hr hlk hM hl
  have hx := CX.1.1
  have hb := CX.1.2.1
  unfold F_X1_roomAt at h
  refine lv_iload_n hx hb dX1_roomAt_0 rfl (lv_at hl 1 rfl) ?_
  refine lv_if_lt (tgt := 30) hx hb dX1_roomAt_1 (by decide) (fun c1 => ?_) (fun c1 => ?_)
  · replace h := it_h c1 h
    refine lv_null hx hb dX1_roomAt_30 ?_
    obtain rfl := Option.some.inj h
    exact x_aret CX hr hlk hM (Or.inl rfl) rfl dX1_roomAt_31
  · replace h := if_h c1 h
    refine lv_iload_n hx hb dX1_roomAt_4 rfl (lv_at hl 1 rfl) ?_
    refine lv_aload_n hx hb dX1_roomAt_5 rfl (lv_at hl 0 rfl) ?_
    refine g1_4 CX hM hk_k wf_X1_45 dX1_roomAt_6 ?_
    refine lv_icmp_ge (tgt := 30) hx hb dX1_roomAt_9 (by decide) (fun c2 => ?_) (fun c2 => ?_)
    · replace h := it_h c2 h
      refine lv_null hx hb dX1_roomAt_30 ?_
      obtain rfl := Option.some.inj h
      exact x_aret CX hr hlk hM (Or.inl rfl) rfl dX1_roomAt_31
    · replace h := if_h c2 h
      refine lv_iload_n hx hb dX1_roomAt_12 rfl (lv_at hl 1 rfl) ?_
      refine lv_aload_n hx hb dX1_roomAt_13 rfl (lv_at hl 0 rfl) ?_
      refine g1_1 CX hM hk_k wf_X1_17 dX1_roomAt_14 ?_
      refine x_alen (v := 6) CX hM 2 (kdl (kd1_f hk_k).2.1 rfl) (ly11 (kd1_f hk_k).2.1 _) rfl rfl dX1_roomAt_17 ?_
      refine lv_icmp_ge (tgt := 30) hx hb dX1_roomAt_18 (by decide) (fun c3 => ?_) (fun c3 => ?_)
      · replace h := it_h c3 h
        refine lv_null hx hb dX1_roomAt_30 ?_
        obtain rfl := Option.some.inj h
        exact x_aret CX hr hlk hM (Or.inl rfl) rfl dX1_roomAt_31
      · replace h := if_h c3 h
        refine lv_aload_n hx hb dX1_roomAt_21 rfl (lv_at hl 0 rfl) ?_
        refine g1_1 CX hM hk_k wf_X1_17 dX1_roomAt_22 ?_
        refine lv_iload_n hx hb dX1_roomAt_25 rfl (lv_at hl 1 rfl) ?_
        obtain ⟨g4, h⟩ := ck_h h
        refine x_aald CX hM 2 (kdl (kd1_f hk_k).2.1 rfl) (ly11 (kd1_f hk_k).2.1 _) rfl g4 rfl dX1_roomAt_26 ?_
        refine lv_goto (tgt := 31) hx hb dX1_roomAt_27 (by decide) ?_
        obtain rfl := Option.some.inj h
        exact x_aret CX hr hlk hM (Or.inr ⟨_, rfl⟩) rfl dX1_roomAt_31
def rm_X3_copyFrom : Jvm.Room := { frames := 1, cells := 0, slots := 0, locals := 21 }
set_option maxHeartbeats 4000000 in
set_option maxRecDepth 100000 in
theorem c_X3_copyFrom (l : Launch) (E : xE) (B : Nat) {k : Nat} {r1 : Nat} {σ : xM} {q : Unit × xM} (hk_k : kd k = 3) (hk_r1 : kd r1 = 3) (h : F_X3_copyFrom k r1 σ = some q) : Met l yX3_copyFrom (Cond.code yX3_copyFrom cX3_copyFrom 2 none :: AL) rm_X3_copyFrom (xP E B 160 (layX E B) [.ref (B + k), .ref (B + r1)] σ) (xQ E B 160 (layX E B) none q.2) 0 0 (wA B 160) := by
  refine x_met (plainFor_of_name (by decide +kernel)) (Nat.le_of_ble_eq_true rfl) rfl ?_
  intro p e s m below meth c ls CX hr hlk hM hl
  have hx := CX.1.1
  have hb := CX.1.2.1
  unfold F_X3_copyFrom at h
  refine lv_aload_n hx hb dX3_copyFrom_0 rfl (lv_at hl 0 rfl) ?_
  refine g3_0 CX hM hk_k wf_X3_12 dX3_copyFrom_1 ?_
  refine lv_aload_n hx hb dX3_copyFrom_4 rfl (lv_at hl 1 rfl) ?_
  refine g3_0 CX hM hk_r1 wf_X3_12 dX3_copyFrom_5 ?_
  obtain ⟨q1, eq1, h⟩ := bd_h h
  refine x_callV (As := [.ref (B + (r1 + 1))]) CX hM (kdl (kd3_f hk_k) rfl) (ly0 (kd3_f hk_k) _) rfl lk_X3_80 (c_X0_copyFrom l E B (kd3_f hk_k) (kd3_f hk_r1) eq1) ⟨rfl, rfl, by decide, by decide⟩ rfl hl.1 rfl (Nat.le_of_ble_eq_true rfl) dX3_copyFrom_8 (fun H locs hM => ?_)
  refine W.eq (g2 := F0 m 11 ls []) rfl ?_
  refine lv_aload_n hx hb dX3_copyFrom_11 rfl (lv_at hl 0 rfl) ?_
  refine lv_aload_n hx hb dX3_copyFrom_12 rfl (lv_at hl 1 rfl) ?_
  refine g3_1 CX hM hk_r1 wf_X3_18 dX3_copyFrom_13 ?_
  refine p3_1 (y := (q1.2 r1 1)) CX hM hk_k wf_X3_18 dX3_copyFrom_16 (fun H locs σ2 eσ2 hM => ?_)
  replace h := nm_h eσ2 h
  refine lv_aload_n hx hb dX3_copyFrom_19 rfl (lv_at hl 0 rfl) ?_
  refine lv_aload_n hx hb dX3_copyFrom_20 rfl (lv_at hl 1 rfl) ?_
  refine g3_2 CX hM hk_r1 wf_X3_22 dX3_copyFrom_21 ?_
  refine p3_2 (y := (σ2 r1 2)) CX hM hk_k wf_X3_22 dX3_copyFrom_24 (fun H locs σ3 eσ3 hM => ?_)
  replace h := nm_h eσ3 h
  refine lv_aload_n hx hb dX3_copyFrom_27 rfl (lv_at hl 0 rfl) ?_
  refine lv_aload_n hx hb dX3_copyFrom_28 rfl (lv_at hl 1 rfl) ?_
  refine g3_3 CX hM hk_r1 wf_X3_25 dX3_copyFrom_29 ?_
  refine p3_3 (y := (σ3 r1 3)) CX hM hk_k wf_X3_25 dX3_copyFrom_32 (fun H locs σ4 eσ4 hM => ?_)
  replace h := nm_h eσ4 h
  refine lv_aload_n hx hb dX3_copyFrom_35 rfl (lv_at hl 0 rfl) ?_
  refine lv_aload_n hx hb dX3_copyFrom_36 rfl (lv_at hl 1 rfl) ?_
  refine g3_4 CX hM hk_r1 wf_X3_28 dX3_copyFrom_37 ?_
  refine p3_4 (y := (σ4 r1 4)) CX hM hk_k wf_X3_28 dX3_copyFrom_40 (fun H locs σ5 eσ5 hM => ?_)
  replace h := nm_h eσ5 h
  refine lv_aload_n hx hb dX3_copyFrom_43 rfl (lv_at hl 0 rfl) ?_
  refine lv_aload_n hx hb dX3_copyFrom_44 rfl (lv_at hl 1 rfl) ?_
  refine g3_5 CX hM hk_r1 wf_X3_31 dX3_copyFrom_45 ?_
  refine p3_5 (y := (σ5 r1 5)) CX hM hk_k wf_X3_31 dX3_copyFrom_48 (fun H locs σ6 eσ6 hM => ?_)
  replace h := nm_h eσ6 h
  refine lv_aload_n hx hb dX3_copyFrom_51 rfl (lv_at hl 0 rfl) ?_
  refine lv_aload_n hx hb dX3_copyFrom_52 rfl (lv_at hl 1 rfl) ?_
  refine g3_6 CX hM hk_r1 wf_X3_34 dX3_copyFrom_53 ?_
  refine p3_6 (y := (σ6 r1 6)) CX hM hk_k wf_X3_34 dX3_copyFrom_56 (fun H locs σ7 eσ7 hM => ?_)
  replace h := nm_h eσ7 h
  refine lv_aload_n hx hb dX3_copyFrom_59 rfl (lv_at hl 0 rfl) ?_
  refine lv_aload_n hx hb dX3_copyFrom_60 rfl (lv_at hl 1 rfl) ?_
  refine g3_7 CX hM hk_r1 wf_X3_41 dX3_copyFrom_61 ?_
  refine p3_7 (y := (σ7 r1 7)) CX hM hk_k wf_X3_41 dX3_copyFrom_64 (fun H locs σ8 eσ8 hM => ?_)
  replace h := nm_h eσ8 h
  refine lv_aload_n hx hb dX3_copyFrom_67 rfl (lv_at hl 0 rfl) ?_
  refine lv_aload_n hx hb dX3_copyFrom_68 rfl (lv_at hl 1 rfl) ?_
  refine g3_8 CX hM hk_r1 wf_X3_44 dX3_copyFrom_69 ?_
  refine p3_8 (y := (σ8 r1 8)) CX hM hk_k wf_X3_44 dX3_copyFrom_72 (fun H locs σ9 eσ9 hM => ?_)
  replace h := nm_h eσ9 h
  refine lv_aload_n hx hb dX3_copyFrom_75 rfl (lv_at hl 0 rfl) ?_
  refine lv_aload_n hx hb dX3_copyFrom_76 rfl (lv_at hl 1 rfl) ?_
  refine g3_9 CX hM hk_r1 wf_X3_48 dX3_copyFrom_77 ?_
  refine p3_9 (y := (σ9 r1 9)) CX hM hk_k wf_X3_48 dX3_copyFrom_80 (fun H locs σ10 eσ10 hM => ?_)
  replace h := nm_h eσ10 h
  refine lv_aload_n hx hb dX3_copyFrom_83 rfl (lv_at hl 0 rfl) ?_
  refine lv_aload_n hx hb dX3_copyFrom_84 rfl (lv_at hl 1 rfl) ?_
  refine g3_10 CX hM hk_r1 wf_X3_51 dX3_copyFrom_85 ?_
  refine p3_10 (y := (σ10 r1 10)) CX hM hk_k wf_X3_51 dX3_copyFrom_88 (fun H locs σ11 eσ11 hM => ?_)
  replace h := nm_h eσ11 h
  refine lv_aload_n hx hb dX3_copyFrom_91 rfl (lv_at hl 0 rfl) ?_
  refine lv_aload_n hx hb dX3_copyFrom_92 rfl (lv_at hl 1 rfl) ?_
  refine g3_11 CX hM hk_r1 wf_X3_54 dX3_copyFrom_93 ?_
  refine p3_11 (y := (σ11 r1 11)) CX hM hk_k wf_X3_54 dX3_copyFrom_96 (fun H locs σ12 eσ12 hM => ?_)
  replace h := nm_h eσ12 h
  refine lv_aload_n hx hb dX3_copyFrom_99 rfl (lv_at hl 0 rfl) ?_
  refine lv_aload_n hx hb dX3_copyFrom_100 rfl (lv_at hl 1 rfl) ?_
  refine g3_12 CX hM hk_r1 wf_X3_57 dX3_copyFrom_101 ?_
  refine p3_12 (y := (σ12 r1 12)) CX hM hk_k wf_X3_57 dX3_copyFrom_104 (fun H locs σ13 eσ13 hM => ?_)
  replace h := nm_h eσ13 h
  refine lv_aload_n hx hb dX3_copyFrom_107 rfl (lv_at hl 0 rfl) ?_
  refine lv_aload_n hx hb dX3_copyFrom_108 rfl (lv_at hl 1 rfl) ?_
  refine g3_13 CX hM hk_r1 wf_X3_60 dX3_copyFrom_109 ?_
  refine p3_13 (y := (σ13 r1 13)) CX hM hk_k wf_X3_60 dX3_copyFrom_112 (fun H locs σ14 eσ14 hM => ?_)
  replace h := nm_h eσ14 h
  refine lv_aload_n hx hb dX3_copyFrom_115 rfl (lv_at hl 0 rfl) ?_
  refine lv_aload_n hx hb dX3_copyFrom_116 rfl (lv_at hl 1 rfl) ?_
  refine g3_14 CX hM hk_r1 wf_X3_64 dX3_copyFrom_117 ?_
  refine p3_14 (y := (σ14 r1 14)) CX hM hk_k wf_X3_64 dX3_copyFrom_120 (fun H locs σ15 eσ15 hM => ?_)
  replace h := nm_h eσ15 h
  refine lv_aload_n hx hb dX3_copyFrom_123 rfl (lv_at hl 0 rfl) ?_
  refine lv_aload_n hx hb dX3_copyFrom_124 rfl (lv_at hl 1 rfl) ?_
  refine g3_15 CX hM hk_r1 wf_X3_67 dX3_copyFrom_125 ?_
  refine p3_15 (y := (σ15 r1 15)) CX hM hk_k wf_X3_67 dX3_copyFrom_128 (fun H locs σ16 eσ16 hM => ?_)
  replace h := nm_h eσ16 h
  refine lv_aload_n hx hb dX3_copyFrom_131 rfl (lv_at hl 0 rfl) ?_
  refine lv_aload_n hx hb dX3_copyFrom_132 rfl (lv_at hl 1 rfl) ?_
  refine g3_16 CX hM hk_r1 wf_X3_70 dX3_copyFrom_133 ?_
  refine p3_16 (y := (σ16 r1 16)) CX hM hk_k wf_X3_70 dX3_copyFrom_136 (fun H locs σ17 eσ17 hM => ?_)
  replace h := nm_h eσ17 h
  refine lv_aload_n hx hb dX3_copyFrom_139 rfl (lv_at hl 0 rfl) ?_
  refine lv_aload_n hx hb dX3_copyFrom_140 rfl (lv_at hl 1 rfl) ?_
  refine g3_17 CX hM hk_r1 wf_X3_73 dX3_copyFrom_141 ?_
  refine p3_17 (y := (σ17 r1 17)) CX hM hk_k wf_X3_73 dX3_copyFrom_144 (fun H locs σ18 eσ18 hM => ?_)
  replace h := nm_h eσ18 h
  obtain rfl := Option.some.inj h
  exact x_vret CX hr hlk hM rfl dX3_copyFrom_147
def rm_X1_copyFrom : Jvm.Room := { frames := 2, cells := 0, slots := 0, locals := 47 }
set_option maxHeartbeats 4000000 in
set_option maxRecDepth 100000 in
theorem c_X1_copyFrom (l : Launch) (E : xE) (B : Nat) {k : Nat} {r1 : Nat} {σ : xM} {q : Unit × xM} (hk_k : kd k = 1) (hk_r1 : kd r1 = 1) (h : F_X1_copyFrom k r1 σ = some q) : Met l yX1_copyFrom (Cond.code yX1_copyFrom cX1_copyFrom 5 none :: AL) rm_X1_copyFrom (xP E B 160 (layX E B) [.ref (B + k), .ref (B + r1)] σ) (xQ E B 160 (layX E B) none q.2) 0 0 (wA B 160) := by
  refine x_met (plainFor_of_name (by decide +kernel)) (Nat.le_of_ble_eq_true rfl) rfl ?_
  intro p e s m below meth c ls CX hr hlk hM hl
  have hx := CX.1.1
  have hb := CX.1.2.1
  unfold F_X1_copyFrom at h
  have L59 : ∀ (N : Nat) (v2 : Int32) (σ : xM), ∀ (H : Heap) (locs : List Loc) (ls : Array Slot), xS E B 160 (layX E B) s σ H locs → lv_has ls 5 [(0, .ref (B + k)), (1, .ref (B + r1)), (2, .int v2)] → F_X1_copyFrom_L59 k r1 N v2 σ = some q → W p l e rm_X1_copyFrom s m ([.ref (B + k), .ref (B + r1)] : List Value).toArray below meth c H locs 0 0 (MQ below (xQ E B 160 (layX E B) none q.2) ([.ref (B + k), .ref (B + r1)] : List Value).toArray s 0 0 (wA B 160)) (F0 m 59 ls []) := by
    clear hM hl h
    intro N
    induction N with
    | zero =>
      intro v2 σ  H locs ls hM hl h
      cases h
    | succ N ih =>
      intro v2 σ  H locs ls hM hl h
      rw [F_X1_copyFrom_L59] at h
      refine lv_iload_n hx hb dX1_copyFrom_59 rfl (lv_at hl 2 rfl) ?_
      refine lv_aload_n hx hb dX1_copyFrom_60 rfl (lv_at hl 0 rfl) ?_
      refine g1_4 CX hM hk_k wf_X1_45 dX1_copyFrom_61 ?_
      refine lv_icmp_ge (tgt := 101) hx hb dX1_copyFrom_64 (by decide) (fun c6 => ?_) (fun c6 => ?_)
      · replace h := it_h c6 h
        obtain rfl := Option.some.inj h
        exact x_vret CX hr hlk hM rfl dX1_copyFrom_101
      · replace h := if_h c6 h
        refine lv_aload_n hx hb dX1_copyFrom_67 rfl (lv_at hl 0 rfl) ?_
        refine lv_iload_n hx hb dX1_copyFrom_68 rfl (lv_at hl 2 rfl) ?_
        obtain ⟨q7, eq7, h⟩ := bd_h h
        refine x_callV (As := [.int v2]) CX hM (kdl hk_k rfl) (ly1 hk_k _) rfl lk_X1_52 (c_X1_roomAt l E B hk_k eq7) ⟨rfl, rfl, by decide, by decide⟩ rfl hl.1 rfl (Nat.le_of_ble_eq_true rfl) dX1_copyFrom_69 (fun H locs hM => ?_)
        rcases hq7 : q7.1 with _ | r8
        · rw [hq7] at h
          replace h := oc_n h
          refine W.eq (g2 := F0 m 72 ls [.null]) rfl ?_
          refine lv_astore_nN (lv' := [(3, .null), (0, .ref (B + k)), (1, .ref (B + r1)), (2, .int v2)]) hx hb dX1_copyFrom_72 rfl hl (by decide) rfl (fun ls hl => ?_)
          refine lv_aload_n hx hb dX1_copyFrom_73 rfl (lv_at hl 2 rfl) ?_
          refine lv_iload_n hx hb dX1_copyFrom_74 rfl (lv_at hl 3 rfl) ?_
          obtain ⟨q9, eq9, h⟩ := bd_h h
          refine x_callV (As := [.int v2]) CX hM (kdl hk_r1 rfl) (ly1 hk_r1 _) rfl lk_X1_52 (c_X1_roomAt l E B hk_r1 eq9) ⟨rfl, rfl, by decide, by decide⟩ rfl hl.1 rfl (Nat.le_of_ble_eq_true rfl) dX1_copyFrom_75 (fun H locs hM => ?_)
          rcases hq9 : q9.1 with _ | r10
          · rw [hq9] at h
            replace h := oc_n h
            refine W.eq (g2 := F0 m 78 ls [.null]) rfl ?_
            refine lv_astoreN (lv' := [(4, .null), (3, .null), (0, .ref (B + k)), (1, .ref (B + r1)), (2, .int v2)]) hx hb dX1_copyFrom_78 hl (by decide) rfl (fun ls hl => ?_)
            refine lv_aload_nN hx hb dX1_copyFrom_80 rfl (lv_at hl 1 rfl) ?_
            refine lv_ifnullN (tgt := 95) hx hb dX1_copyFrom_81 (by decide) ?_
            refine lv_iinc (v := (v2 + 1)) (lv' := [(2, .int (v2 + 1)), (4, .null), (3, .null), (0, .ref (B + k)), (1, .ref (B + r1))]) hx hb dX1_copyFrom_95 hl (k := 4) rfl rfl (by decide) rfl (fun ls hl => ?_)
            refine lv_goto (tgt := 59) hx hb dX1_copyFrom_98 (by decide) ?_
            exact ih _ _  _ _ _ hM (lv_sub hl [3, 4, 0] rfl) h
          · rw [hq9] at h
            replace h := oc_s h
            obtain ⟨hk_r10, h⟩ := ck_h h
            refine W.eq (g2 := F0 m 78 ls [.ref (B + r10)]) rfl ?_
            refine lv_astore (lv' := [(4, .ref (B + r10)), (3, .null), (0, .ref (B + k)), (1, .ref (B + r1)), (2, .int v2)]) hx hb dX1_copyFrom_78 hl (by decide) rfl (fun ls hl => ?_)
            refine lv_aload_nN hx hb dX1_copyFrom_80 rfl (lv_at hl 1 rfl) ?_
            refine lv_ifnullN (tgt := 95) hx hb dX1_copyFrom_81 (by decide) ?_
            refine lv_iinc (v := (v2 + 1)) (lv' := [(2, .int (v2 + 1)), (4, .ref (B + r10)), (3, .null), (0, .ref (B + k)), (1, .ref (B + r1))]) hx hb dX1_copyFrom_95 hl (k := 4) rfl rfl (by decide) rfl (fun ls hl => ?_)
            refine lv_goto (tgt := 59) hx hb dX1_copyFrom_98 (by decide) ?_
            exact ih _ _  _ _ _ hM (lv_sub hl [3, 4, 0] rfl) h
        · rw [hq7] at h
          replace h := oc_s h
          obtain ⟨hk_r8, h⟩ := ck_h h
          refine W.eq (g2 := F0 m 72 ls [.ref (B + r8)]) rfl ?_
          refine lv_astore_n (lv' := [(3, .ref (B + r8)), (0, .ref (B + k)), (1, .ref (B + r1)), (2, .int v2)]) hx hb dX1_copyFrom_72 rfl hl (by decide) rfl (fun ls hl => ?_)
          refine lv_aload_n hx hb dX1_copyFrom_73 rfl (lv_at hl 2 rfl) ?_
          refine lv_iload_n hx hb dX1_copyFrom_74 rfl (lv_at hl 3 rfl) ?_
          obtain ⟨q11, eq11, h⟩ := bd_h h
          refine x_callV (As := [.int v2]) CX hM (kdl hk_r1 rfl) (ly1 hk_r1 _) rfl lk_X1_52 (c_X1_roomAt l E B hk_r1 eq11) ⟨rfl, rfl, by decide, by decide⟩ rfl hl.1 rfl (Nat.le_of_ble_eq_true rfl) dX1_copyFrom_75 (fun H locs hM => ?_)
          rcases hq11 : q11.1 with _ | r12
          · rw [hq11] at h
            replace h := oc_n h
            refine W.eq (g2 := F0 m 78 ls [.null]) rfl ?_
            refine lv_astoreN (lv' := [(4, .null), (3, .ref (B + r8)), (0, .ref (B + k)), (1, .ref (B + r1)), (2, .int v2)]) hx hb dX1_copyFrom_78 hl (by decide) rfl (fun ls hl => ?_)
            refine lv_aload_n hx hb dX1_copyFrom_80 rfl (lv_at hl 1 rfl) ?_
            refine lv_ifnull hx hb dX1_copyFrom_81 ?_
            refine lv_aloadN hx hb dX1_copyFrom_84 (lv_at hl 0 rfl) ?_
            refine lv_ifnullN (tgt := 95) hx hb dX1_copyFrom_86 (by decide) ?_
            refine lv_iinc (v := (v2 + 1)) (lv' := [(2, .int (v2 + 1)), (4, .null), (3, .ref (B + r8)), (0, .ref (B + k)), (1, .ref (B + r1))]) hx hb dX1_copyFrom_95 hl (k := 4) rfl rfl (by decide) rfl (fun ls hl => ?_)
            refine lv_goto (tgt := 59) hx hb dX1_copyFrom_98 (by decide) ?_
            exact ih _ _  _ _ _ hM (lv_sub hl [3, 4, 0] rfl) h
          · rw [hq11] at h
            replace h := oc_s h
            obtain ⟨hk_r12, h⟩ := ck_h h
            refine W.eq (g2 := F0 m 78 ls [.ref (B + r12)]) rfl ?_
            refine lv_astore (lv' := [(4, .ref (B + r12)), (3, .ref (B + r8)), (0, .ref (B + k)), (1, .ref (B + r1)), (2, .int v2)]) hx hb dX1_copyFrom_78 hl (by decide) rfl (fun ls hl => ?_)
            refine lv_aload_n hx hb dX1_copyFrom_80 rfl (lv_at hl 1 rfl) ?_
            refine lv_ifnull hx hb dX1_copyFrom_81 ?_
            refine lv_aload hx hb dX1_copyFrom_84 (lv_at hl 0 rfl) ?_
            refine lv_ifnull hx hb dX1_copyFrom_86 ?_
            refine lv_aload_n hx hb dX1_copyFrom_89 rfl (lv_at hl 1 rfl) ?_
            refine lv_aload hx hb dX1_copyFrom_90 (lv_at hl 0 rfl) ?_
            obtain ⟨q13, eq13, h⟩ := bd_h h
            refine x_callV (As := [.ref (B + r12)]) CX hM (kdl hk_r8 rfl) (ly3 hk_r8 _) rfl lk_X1_56 (c_X3_copyFrom l E B hk_r8 hk_r12 eq13) ⟨rfl, rfl, by decide, by decide⟩ rfl hl.1 rfl (Nat.le_of_ble_eq_true rfl) dX1_copyFrom_92 (fun H locs hM => ?_)
            refine W.eq (g2 := F0 m 95 ls []) rfl ?_
            refine lv_iinc (v := (v2 + 1)) (lv' := [(2, .int (v2 + 1)), (4, .ref (B + r12)), (3, .ref (B + r8)), (0, .ref (B + k)), (1, .ref (B + r1))]) hx hb dX1_copyFrom_95 hl (k := 4) rfl rfl (by decide) rfl (fun ls hl => ?_)
            refine lv_goto (tgt := 59) hx hb dX1_copyFrom_98 (by decide) ?_
            exact ih _ _  _ _ _ hM (lv_sub hl [3, 4, 0] rfl) h
  refine lv_aload_n hx hb dX1_copyFrom_0 rfl (lv_at hl 1 rfl) ?_
  refine g1_0 CX hM hk_r1 wf_X1_9 dX1_copyFrom_1 ?_
  refine lv_iconst (v := 0) hx hb dX1_copyFrom_4 (by decide) ?_
  refine lv_aload_n hx hb dX1_copyFrom_5 rfl (lv_at hl 0 rfl) ?_
  refine g1_0 CX hM hk_k wf_X1_9 dX1_copyFrom_6 ?_
  refine lv_iconst (v := 0) hx hb dX1_copyFrom_9 (by decide) ?_
  refine lv_bipush (v := 7) hx hb dX1_copyFrom_10 (by decide) ?_
  refine x_acopy (nn := 7) CX hM (kdl (kd1_f hk_r1).1 rfl) (kdl (kd1_f hk_k).1 rfl) (ly10 (kd1_f hk_r1).1 _) (fun f => ly10 (kd1_f hk_k).1 f) (by decide) (by decide) (by decide) (by decide) hl.1 lk_X1_35 (by decide) (Nat.le_of_ble_eq_true rfl) dX1_copyFrom_12 (fun H locs σ1 eσ1 hM => ?_)
  replace h := nm_h eσ1 h
  refine lv_aload_n hx hb dX1_copyFrom_15 rfl (lv_at hl 1 rfl) ?_
  refine g1_2 CX hM hk_r1 wf_X1_21 dX1_copyFrom_16 ?_
  refine lv_iconst (v := 0) hx hb dX1_copyFrom_19 (by decide) ?_
  refine lv_aload_n hx hb dX1_copyFrom_20 rfl (lv_at hl 0 rfl) ?_
  refine g1_2 CX hM hk_k wf_X1_21 dX1_copyFrom_21 ?_
  refine lv_iconst (v := 0) hx hb dX1_copyFrom_24 (by decide) ?_
  refine lv_bipush (v := 36) hx hb dX1_copyFrom_25 (by decide) ?_
  refine x_acopy (nn := 36) CX hM (kdl (kd1_f hk_r1).2.2.1 rfl) (kdl (kd1_f hk_k).2.2.1 rfl) (ly12 (kd1_f hk_r1).2.2.1 _) (fun f => ly12 (kd1_f hk_k).2.2.1 f) (by decide) (by decide) (by decide) (by decide) hl.1 lk_X1_35 (by decide) (Nat.le_of_ble_eq_true rfl) dX1_copyFrom_27 (fun H locs σ2 eσ2 hM => ?_)
  replace h := nm_h eσ2 h
  refine lv_aload_n hx hb dX1_copyFrom_30 rfl (lv_at hl 0 rfl) ?_
  refine g1_3 CX hM hk_k wf_X1_27 dX1_copyFrom_31 ?_
  refine lv_aload_n hx hb dX1_copyFrom_34 rfl (lv_at hl 1 rfl) ?_
  refine g1_3 CX hM hk_r1 wf_X1_27 dX1_copyFrom_35 ?_
  obtain ⟨q3, eq3, h⟩ := bd_h h
  refine x_callV (As := [.ref (B + (r1 + 4))]) CX hM (kdl (kd1_f hk_k).2.2.2 rfl) (ly4 (kd1_f hk_k).2.2.2 _) rfl lk_X1_41 (c_X4_copyFrom l E B ((kd1_f hk_k).2.2.2) ((kd1_f hk_r1).2.2.2) eq3) ⟨rfl, rfl, by decide, by decide⟩ rfl hl.1 rfl (Nat.le_of_ble_eq_true rfl) dX1_copyFrom_38 (fun H locs hM => ?_)
  refine W.eq (g2 := F0 m 41 ls []) rfl ?_
  refine lv_aload_n hx hb dX1_copyFrom_41 rfl (lv_at hl 0 rfl) ?_
  refine lv_aload_n hx hb dX1_copyFrom_42 rfl (lv_at hl 1 rfl) ?_
  refine g1_4 CX hM hk_r1 wf_X1_45 dX1_copyFrom_43 ?_
  refine p1_4 (y := (q3.2 r1 4)) CX hM hk_k wf_X1_45 dX1_copyFrom_46 (fun H locs σ4 eσ4 hM => ?_)
  replace h := nm_h eσ4 h
  refine lv_aload_n hx hb dX1_copyFrom_49 rfl (lv_at hl 0 rfl) ?_
  refine lv_aload_n hx hb dX1_copyFrom_50 rfl (lv_at hl 1 rfl) ?_
  refine g1_5 CX hM hk_r1 wf_X1_49 dX1_copyFrom_51 ?_
  refine p1_5 (y := (σ4 r1 5)) CX hM hk_k wf_X1_49 dX1_copyFrom_54 (fun H locs σ5 eσ5 hM => ?_)
  replace h := nm_h eσ5 h
  refine lv_iconst (v := 0) hx hb dX1_copyFrom_57 (by decide) ?_
  refine lv_istore_n (lv' := [(2, .int 0), (0, .ref (B + k)), (1, .ref (B + r1))]) hx hb dX1_copyFrom_58 rfl hl (by decide) rfl (fun ls hl => ?_)
  exact L59 _ _ _  _ _ _ hM (lv_sub hl [1, 2, 0] rfl) h
def rm_X1_number : Jvm.Room := { frames := 0, cells := 0, slots := 0, locals := 0 }
set_option maxHeartbeats 4000000 in
set_option maxRecDepth 100000 in
theorem c_X1_number (l : Launch) (E : xE) (B : Nat) {k : Nat} {x1 : Int32} {σ : xM} {q : Int32 × xM} (hk_k : kd k = 1) (h : F_X1_number k x1 σ = some q) : Met l yX1_number (Cond.code yX1_number cX1_number 2 (some .int) :: AL) rm_X1_number (xP E B 160 (layX E B) [.ref (B + k), .int x1] σ) (xQ E B 160 (layX E B) (some (.int q.1)) q.2) 0 0 (wA B 160) := by
  refine x_met (plainFor_of_name (by decide +kernel)) (Nat.le_of_ble_eq_true rfl) rfl ?_
  intro p e s m below meth c ls CX hr hlk hM hl
  have hx := CX.1.1
  have hb := CX.1.2.1
  unfold F_X1_number at h
  refine lv_iload_n hx hb dX1_number_0 rfl (lv_at hl 1 rfl) ?_
  refine lv_if_lt (tgt := 22) hx hb dX1_number_1 (by decide) (fun c1 => ?_) (fun c1 => ?_)
  · replace h := it_h c1 h
    refine lv_iconst (v := 0) hx hb dX1_number_22 (by decide) ?_
    obtain rfl := Option.some.inj h
    exact x_iret CX hr hlk hM rfl dX1_number_23
  · replace h := if_h c1 h
    refine lv_iload_n hx hb dX1_number_4 rfl (lv_at hl 1 rfl) ?_
    refine lv_aload_n hx hb dX1_number_5 rfl (lv_at hl 0 rfl) ?_
    refine g1_0 CX hM hk_k wf_X1_9 dX1_number_6 ?_
    refine x_alen (v := 7) CX hM 0 (kdl (kd1_f hk_k).1 rfl) (ly10 (kd1_f hk_k).1 _) rfl rfl dX1_number_9 ?_
    refine lv_icmp_ge (tgt := 22) hx hb dX1_number_10 (by decide) (fun c2 => ?_) (fun c2 => ?_)
    · replace h := it_h c2 h
      refine lv_iconst (v := 0) hx hb dX1_number_22 (by decide) ?_
      obtain rfl := Option.some.inj h
      exact x_iret CX hr hlk hM rfl dX1_number_23
    · replace h := if_h c2 h
      refine lv_aload_n hx hb dX1_number_13 rfl (lv_at hl 0 rfl) ?_
      refine g1_0 CX hM hk_k wf_X1_9 dX1_number_14 ?_
      refine lv_iload_n hx hb dX1_number_17 rfl (lv_at hl 1 rfl) ?_
      obtain ⟨g3, h⟩ := ck_h h
      refine x_iald CX hM (kdl (kd1_f hk_k).1 rfl) (ly10 (kd1_f hk_k).1 _) g3 dX1_number_18 ?_
      refine lv_goto (tgt := 23) hx hb dX1_number_19 (by decide) ?_
      obtain rfl := Option.some.inj h
      exact x_iret CX hr hlk hM rfl dX1_number_23
def rm_X1_putNumber : Jvm.Room := { frames := 0, cells := 0, slots := 0, locals := 0 }
set_option maxHeartbeats 4000000 in
set_option maxRecDepth 100000 in
theorem c_X1_putNumber (l : Launch) (E : xE) (B : Nat) {k : Nat} {x1 : Int32} {x2 : Int32} {σ : xM} {q : Unit × xM} (hk_k : kd k = 1) (h : F_X1_putNumber k x1 x2 σ = some q) : Met l yX1_putNumber (Cond.code yX1_putNumber cX1_putNumber 3 none :: AL) rm_X1_putNumber (xP E B 160 (layX E B) [.ref (B + k), .int x1, .int x2] σ) (xQ E B 160 (layX E B) none q.2) 0 0 (wA B 160) := by
  refine x_met (plainFor_of_name (by decide +kernel)) (Nat.le_of_ble_eq_true rfl) rfl ?_
  intro p e s m below meth c ls CX hr hlk hM hl
  have hx := CX.1.1
  have hb := CX.1.2.1
  unfold F_X1_putNumber at h
  refine lv_iload_n hx hb dX1_putNumber_0 rfl (lv_at hl 1 rfl) ?_
  refine lv_if_lt (tgt := 20) hx hb dX1_putNumber_1 (by decide) (fun c1 => ?_) (fun c1 => ?_)
  · replace h := it_h c1 h
    obtain rfl := Option.some.inj h
    exact x_vret CX hr hlk hM rfl dX1_putNumber_20
  · replace h := if_h c1 h
    refine lv_iload_n hx hb dX1_putNumber_4 rfl (lv_at hl 1 rfl) ?_
    refine lv_aload_n hx hb dX1_putNumber_5 rfl (lv_at hl 0 rfl) ?_
    refine g1_0 CX hM hk_k wf_X1_9 dX1_putNumber_6 ?_
    refine x_alen (v := 7) CX hM 0 (kdl (kd1_f hk_k).1 rfl) (ly10 (kd1_f hk_k).1 _) rfl rfl dX1_putNumber_9 ?_
    refine lv_icmp_ge (tgt := 20) hx hb dX1_putNumber_10 (by decide) (fun c2 => ?_) (fun c2 => ?_)
    · replace h := it_h c2 h
      obtain rfl := Option.some.inj h
      exact x_vret CX hr hlk hM rfl dX1_putNumber_20
    · replace h := if_h c2 h
      refine lv_aload_n hx hb dX1_putNumber_13 rfl (lv_at hl 0 rfl) ?_
      refine g1_0 CX hM hk_k wf_X1_9 dX1_putNumber_14 ?_
      refine lv_iload_n hx hb dX1_putNumber_17 rfl (lv_at hl 1 rfl) ?_
      refine lv_iload_n hx hb dX1_putNumber_18 rfl (lv_at hl 2 rfl) ?_
      obtain ⟨g3, h⟩ := ck_h h
      refine x_iast CX hM (kdl (kd1_f hk_k).1 rfl) (fun f => ly10 (kd1_f hk_k).1 f) g3 dX1_putNumber_19 (fun H locs σ4 eσ4 hM => ?_)
      replace h := nm_h eσ4 h
      obtain rfl := Option.some.inj h
      exact x_vret CX hr hlk hM rfl dX1_putNumber_20
def rm_J9_floorDiv_7cf53 : Jvm.Room := { frames := 0, cells := 0, slots := 0, locals := 0 }
set_option maxHeartbeats 4000000 in
set_option maxRecDepth 100000 in
theorem c_J9_floorDiv_7cf53 (l : Launch) (E : xE) (B : Nat) {x0 : Int32} {x1 : Int32} {σ : xM} {q : Int32 × xM}  (h : F_J9_floorDiv_7cf53 x0 x1 σ = some q) : Met l yJ9_floorDiv_7cf53 (Cond.code yJ9_floorDiv_7cf53 cJ9_floorDiv_7cf53 3 (some .int) :: AL) rm_J9_floorDiv_7cf53 (xP E B 160 (layX E B) [.int x0, .int x1] σ) (xQ E B 160 (layX E B) (some (.int q.1)) q.2) 0 0 (wA B 160) := by
  refine x_met (by decide +kernel) (Nat.le_of_ble_eq_true rfl) rfl ?_
  intro p e s m below meth c ls CX hr hlk hM hl
  have hx := CX.1.1
  have hb := CX.1.2.1
  unfold F_J9_floorDiv_7cf53 at h
  refine lv_iload_n hx hb dJ9_floorDiv_7cf53_0 rfl (lv_at hl 0 rfl) ?_
  refine lv_iload_n hx hb dJ9_floorDiv_7cf53_1 rfl (lv_at hl 1 rfl) ?_
  obtain ⟨g4, h⟩ := nz_h h
  refine lv_idiv hx hb dJ9_floorDiv_7cf53_2 g4 ?_
  refine lv_topi (fun x2_1 ex2_1 => ?_)
  replace h := nm_h ex2_1 h
  refine lv_istore_n (lv' := [(2, .int x2_1), (0, .int x0), (1, .int x1)]) hx hb dJ9_floorDiv_7cf53_3 rfl hl (by decide) rfl (fun ls hl => ?_)
  refine lv_iload_n hx hb dJ9_floorDiv_7cf53_4 rfl (lv_at hl 1 rfl) ?_
  refine lv_iload_n hx hb dJ9_floorDiv_7cf53_5 rfl (lv_at hl 2 rfl) ?_
  refine lv_ixor hx hb dJ9_floorDiv_7cf53_6 ?_
  refine lv_if_ge (tgt := 21) hx hb dJ9_floorDiv_7cf53_7 (by decide) (fun c2 => ?_) (fun c2 => ?_)
  · replace h := it_h c2 h
    refine lv_iload_n hx hb dJ9_floorDiv_7cf53_21 rfl (lv_at hl 0 rfl) ?_
    obtain rfl := Option.some.inj h
    exact x_iret CX hr hlk hM rfl dJ9_floorDiv_7cf53_22
  · replace h := if_h c2 h
    refine lv_iload_n hx hb dJ9_floorDiv_7cf53_10 rfl (lv_at hl 0 rfl) ?_
    refine lv_iload_n hx hb dJ9_floorDiv_7cf53_11 rfl (lv_at hl 2 rfl) ?_
    refine lv_imul hx hb dJ9_floorDiv_7cf53_12 ?_
    refine lv_iload_n hx hb dJ9_floorDiv_7cf53_13 rfl (lv_at hl 1 rfl) ?_
    refine lv_icmp_eq (tgt := 21) hx hb dJ9_floorDiv_7cf53_14 (by decide) (fun c3 => ?_) (fun c3 => ?_)
    · replace h := it_h c3 h
      refine lv_iload_n hx hb dJ9_floorDiv_7cf53_21 rfl (lv_at hl 0 rfl) ?_
      obtain rfl := Option.some.inj h
      exact x_iret CX hr hlk hM rfl dJ9_floorDiv_7cf53_22
    · replace h := if_h c3 h
      refine lv_iload_n hx hb dJ9_floorDiv_7cf53_17 rfl (lv_at hl 0 rfl) ?_
      refine lv_iconst (v := 1) hx hb dJ9_floorDiv_7cf53_18 (by decide) ?_
      refine lv_isub hx hb dJ9_floorDiv_7cf53_19 ?_
      obtain rfl := Option.some.inj h
      exact x_iret CX hr hlk hM rfl dJ9_floorDiv_7cf53_20
def rm_X3_temperatureWith : Jvm.Room := { frames := 1, cells := 0, slots := 0, locals := 22 }
set_option maxHeartbeats 4000000 in
set_option maxRecDepth 100000 in
theorem c_X3_temperatureWith (l : Launch) (E : xE) (B : Nat) {k : Nat} {x1 : Int32} {σ : xM} {q : Int32 × xM} (hk_k : kd k = 3) (h : F_X3_temperatureWith k x1 σ = some q) : Met l yX3_temperatureWith (Cond.code yX3_temperatureWith cX3_temperatureWith 2 (some .int) :: AL) rm_X3_temperatureWith (xP E B 160 (layX E B) [.ref (B + k), .int x1] σ) (xQ E B 160 (layX E B) (some (.int q.1)) q.2) 0 0 (wA B 160) := by
  refine x_met (plainFor_of_name (by decide +kernel)) (Nat.le_of_ble_eq_true rfl) rfl ?_
  intro p e s m below meth c ls CX hr hlk hM hl
  have hx := CX.1.1
  have hb := CX.1.2.1
  unfold F_X3_temperatureWith at h
  refine lv_aload_n hx hb dX3_temperatureWith_0 rfl (lv_at hl 0 rfl) ?_
  refine g3_1 CX hM hk_k wf_X3_18 dX3_temperatureWith_1 ?_
  refine lv_if_le (tgt := 22) hx hb dX3_temperatureWith_4 (by decide) (fun c1 => ?_) (fun c1 => ?_)
  · replace h := it_h c1 h
    refine lv_iconst (v := 0) hx hb dX3_temperatureWith_22 (by decide) ?_
    obtain rfl := Option.some.inj h
    exact x_iret CX hr hlk hM rfl dX3_temperatureWith_23
  · replace h := if_h c1 h
    refine lv_sipush (v := 1000) hx hb dX3_temperatureWith_7 (by decide) ?_
    refine lv_iload_n hx hb dX3_temperatureWith_10 rfl (lv_at hl 1 rfl) ?_
    refine lv_imul hx hb dX3_temperatureWith_11 ?_
    refine lv_aload_n hx hb dX3_temperatureWith_12 rfl (lv_at hl 0 rfl) ?_
    refine g3_1 CX hM hk_k wf_X3_18 dX3_temperatureWith_13 ?_
    obtain ⟨q2, eq2, h⟩ := bd_h h
    refine x_callS (As := [.int (1000 * x1), .int (σ k 1)]) CX hM lk_X3_88 (c_J9_floorDiv_7cf53 l E B  eq2) ⟨rfl, rfl, by decide, by decide⟩ rfl hl.1 rfl (Nat.le_of_ble_eq_true rfl) dX3_temperatureWith_16 (fun H locs hM => ?_)
    refine W.eq (g2 := F0 m 19 ls [.int q2.1]) rfl ?_
    refine lv_goto (tgt := 23) hx hb dX3_temperatureWith_19 (by decide) ?_
    obtain rfl := Option.some.inj h
    exact x_iret CX hr hlk hM rfl dX3_temperatureWith_23
def rm_X3_temperature : Jvm.Room := { frames := 2, cells := 0, slots := 0, locals := 43 }
set_option maxHeartbeats 4000000 in
set_option maxRecDepth 100000 in
theorem c_X3_temperature (l : Launch) (E : xE) (B : Nat) {k : Nat} {σ : xM} {q : Int32 × xM} (hk_k : kd k = 3) (h : F_X3_temperature k σ = some q) : Met l yX3_temperature (Cond.code yX3_temperature cX3_temperature 1 (some .int) :: AL) rm_X3_temperature (xP E B 160 (layX E B) [.ref (B + k)] σ) (xQ E B 160 (layX E B) (some (.int q.1)) q.2) 0 0 (wA B 160) := by
  refine x_met (plainFor_of_name (by decide +kernel)) (Nat.le_of_ble_eq_true rfl) rfl ?_
  intro p e s m below meth c ls CX hr hlk hM hl
  have hx := CX.1.1
  have hb := CX.1.2.1
  unfold F_X3_temperature at h
  refine lv_aload_n hx hb dX3_temperature_0 rfl (lv_at hl 0 rfl) ?_
  refine lv_aload_n hx hb dX3_temperature_1 rfl (lv_at hl 0 rfl) ?_
  refine g3_4 CX hM hk_k wf_X3_28 dX3_temperature_2 ?_
  obtain ⟨q1, eq1, h⟩ := bd_h h
  refine x_callV (As := [.int (σ k 4)]) CX hM (kdl hk_k rfl) (ly3 hk_k _) rfl lk_X3_84 (c_X3_temperatureWith l E B hk_k eq1) ⟨rfl, rfl, by decide, by decide⟩ rfl hl.1 rfl (Nat.le_of_ble_eq_true rfl) dX3_temperature_5 (fun H locs hM => ?_)
  refine W.eq (g2 := F0 m 8 ls [.int q1.1]) rfl ?_
  obtain rfl := Option.some.inj h
  exact x_iret CX hr hlk hM rfl dX3_temperature_8
