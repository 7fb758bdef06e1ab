def rm_X6_isNumberInRange : Jvm.Room := { frames := 1, cells := 0, slots := 0, locals := 22 }
set_option maxHeartbeats 4000000 in
set_option maxRecDepth 100000 in
theorem c_X6_isNumberInRange (l : Launch) (E : xE) (B : Nat) {x0 : Int32} {x1 : Int32} {σ : xM} {q : Int32 × xM}  (h : F_X6_isNumberInRange x0 x1 σ = some q) : Met l yX6_isNumberInRange (Cond.code yX6_isNumberInRange cX6_isNumberInRange 2 (some .boolean) :: AL) rm_X6_isNumberInRange (xP E B 160 (layX E B) [.int x0, .int x1] σ) (xQ E B 160 (layX E B) (some (.int (bz q.1))) q.2) 0 0 (wA B 160) := by
  refine x_met (plainFor_of_name (by decide +kernel)) (Nat.le_of_ble_eq_true rfl) rfl ?_
  intro p e s m below meth c ls CX hr hlk hM hl
  have hx := CX.1.1
  have hb := CX.1.2.1
  unfold F_X6_isNumberInRange at h
  refine lv_iload_n hx hb dX6_isNumberInRange_0 rfl (lv_at hl 0 rfl) ?_
  refine lv_if_lt (tgt := 41) hx hb dX6_isNumberInRange_1 (by decide) (fun c1 => ?_) (fun c1 => ?_)
  · replace h := it_h c1 h
    refine lv_iconst (v := 0) hx hb dX6_isNumberInRange_41 (by decide) ?_
    obtain rfl := Option.some.inj h
    exact x_zret (y := 0) CX hr hlk hM rfl rfl dX6_isNumberInRange_42
  · replace h := if_h c1 h
    refine lv_iload_n hx hb dX6_isNumberInRange_4 rfl (lv_at hl 0 rfl) ?_
    refine x_gets CX hM CX.2.2.2.1.2.1 wf_X6_202 dX6_isNumberInRange_5 ?_
    refine x_slen CX hM (CX.2.2.2.2 1 (by decide)) dX6_isNumberInRange_8 ?_
    refine lv_icmp_ge (tgt := 41) hx hb dX6_isNumberInRange_9 (by decide) (fun c2 => ?_) (fun c2 => ?_)
    · replace h := it_h c2 h
      refine lv_iconst (v := 0) hx hb dX6_isNumberInRange_41 (by decide) ?_
      obtain rfl := Option.some.inj h
      exact x_zret (y := 0) CX hr hlk hM rfl rfl dX6_isNumberInRange_42
    · replace h := if_h c2 h
      refine lv_iload_n hx hb dX6_isNumberInRange_12 rfl (lv_at hl 0 rfl) ?_
      refine x_gets CX hM CX.2.2.2.1.2.2 wf_X6_206 dX6_isNumberInRange_13 ?_
      refine x_slen CX hM (CX.2.2.2.2 2 (by decide)) dX6_isNumberInRange_16 ?_
      refine lv_icmp_ge (tgt := 41) hx hb dX6_isNumberInRange_17 (by decide) (fun c3 => ?_) (fun c3 => ?_)
      · replace h := it_h c3 h
        refine lv_iconst (v := 0) hx hb dX6_isNumberInRange_41 (by decide) ?_
        obtain rfl := Option.some.inj h
        exact x_zret (y := 0) CX hr hlk hM rfl rfl dX6_isNumberInRange_42
      · replace h := if_h c3 h
        refine lv_iload_n hx hb dX6_isNumberInRange_20 rfl (lv_at hl 1 rfl) ?_
        refine x_gets CX hM CX.2.2.2.1.2.1 wf_X6_202 dX6_isNumberInRange_21 ?_
        refine lv_iload_n hx hb dX6_isNumberInRange_24 rfl (lv_at hl 0 rfl) ?_
        obtain ⟨g4, h⟩ := ck_h h
        refine x_sald CX hM (CX.2.2.2.2 1 (by decide)) g4 rfl dX6_isNumberInRange_25 ?_
        refine x_gets CX hM CX.2.2.2.1.2.2 wf_X6_206 dX6_isNumberInRange_26 ?_
        refine lv_iload_n hx hb dX6_isNumberInRange_29 rfl (lv_at hl 0 rfl) ?_
        obtain ⟨g5, h⟩ := ck_h h
        refine x_sald CX hM (CX.2.2.2.2 2 (by decide)) g5 rfl dX6_isNumberInRange_30 ?_
        obtain ⟨q6, eq6, h⟩ := bd_h h
        refine x_callS (As := [.int x1, .int (stI 1 (Int32.toNatClampNeg x0)), .int (stI 2 (Int32.toNatClampNeg x0))]) CX hM lk_X6_40 (c_X6_within l E B  eq6) ⟨rfl, rfl, by decide, by decide⟩ rfl hl.1 rfl (Nat.le_of_ble_eq_true rfl) dX6_isNumberInRange_31 (fun H locs hM => ?_)
        refine W.eq (g2 := F0 m 34 ls [.int (bz q6.1)]) rfl ?_
        refine lv_if_eq (tgt := 41) hx hb dX6_isNumberInRange_34 (by decide) (fun c7 => ?_) (fun c7 => ?_)
        · replace h := it_h c7 h
          refine lv_iconst (v := 0) hx hb dX6_isNumberInRange_41 (by decide) ?_
          obtain rfl := Option.some.inj h
          exact x_zret (y := 0) CX hr hlk hM rfl rfl dX6_isNumberInRange_42
        · replace h := if_h c7 h
          refine lv_iconst (v := 1) hx hb dX6_isNumberInRange_37 (by decide) ?_
          refine lv_goto (tgt := 42) hx hb dX6_isNumberInRange_38 (by decide) ?_
          obtain rfl := Option.some.inj h
          exact x_zret (y := 1) CX hr hlk hM rfl rfl dX6_isNumberInRange_42
def rm_X6_setNumber : Jvm.Room := { frames := 4, cells := 0, slots := 0, locals := 93 }
set_option maxHeartbeats 4000000 in
set_option maxRecDepth 100000 in
theorem c_X6_setNumber (l : Launch) (E : xE) (B : Nat) {k : Nat} {x1 : Int32} {x2 : Int32} {σ : xM} {q : Int32 × xM} (hk_k : kd k = 6) (h : F_X6_setNumber k x1 x2 σ = some q) : Met l yX6_setNumber (Cond.code yX6_setNumber cX6_setNumber 4 (some .int) :: AL) rm_X6_setNumber (xP E B 160 (layX E B) [.ref (B + k), .int x1, .int x2] σ) (xQ E B 160 (layX E B) (some (.int q.1)) q.2) 0 0 (wA B 160) := by
  refine x_met (plainFor_of_name (by decide +kernel)) (Nat.le_of_ble_eq_true rfl) rfl ?_
  intro p e s m below meth c ls CX hr hlk hM hl
  have hx := CX.1.1
  have hb := CX.1.2.1
  unfold F_X6_setNumber at h
  refine lv_iload_n hx hb dX6_setNumber_0 rfl (lv_at hl 1 rfl) ?_
  refine lv_iload_n hx hb dX6_setNumber_1 rfl (lv_at hl 2 rfl) ?_
  obtain ⟨q1, eq1, h⟩ := bd_h h
  refine x_callS (As := [.int x1, .int x2]) CX hM lk_X6_87 (c_X6_isNumberInRange l E B  eq1) ⟨rfl, rfl, by decide, by decide⟩ rfl hl.1 rfl (Nat.le_of_ble_eq_true rfl) dX6_setNumber_2 (fun H locs hM => ?_)
  refine W.eq (g2 := F0 m 5 ls [.int (bz q1.1)]) rfl ?_
  refine lv_if_ne (tgt := 11) hx hb dX6_setNumber_5 (by decide) (fun c2 => ?_) (fun c2 => ?_)
  · replace h := if_h c2 h
    refine lv_aload_n hx hb dX6_setNumber_11 rfl (lv_at hl 0 rfl) ?_
    refine g6_2 CX hM hk_k wf_X6_22 dX6_setNumber_12 ?_
    refine lv_aload_n hx hb dX6_setNumber_15 rfl (lv_at hl 0 rfl) ?_
    refine g6_0 CX hM hk_k wf_X6_10 dX6_setNumber_16 ?_
    obtain ⟨q3, eq3, h⟩ := bd_h h
    refine x_callV (As := [.ref (B + (k + 1))]) CX hM (kdl (kd6_f hk_k).2.2.1 rfl) (ly2 (kd6_f hk_k).2.2.1 _) rfl lk_X6_50 (c_X2_save l E B ((kd6_f hk_k).2.2.1) ((kd6_f hk_k).1) eq3) ⟨rfl, rfl, by decide, by decide⟩ rfl hl.1 rfl (Nat.le_of_ble_eq_true rfl) dX6_setNumber_19 (fun H locs hM => ?_)
    refine W.eq (g2 := F0 m 22 ls []) rfl ?_
    refine lv_aload_n hx hb dX6_setNumber_22 rfl (lv_at hl 0 rfl) ?_
    refine g6_0 CX hM hk_k wf_X6_10 dX6_setNumber_23 ?_
    refine lv_iload_n hx hb dX6_setNumber_26 rfl (lv_at hl 1 rfl) ?_
    obtain ⟨q4, eq4, h⟩ := bd_h h
    refine x_callV (As := [.int x1]) CX hM (kdl (kd6_f hk_k).1 rfl) (ly1 (kd6_f hk_k).1 _) rfl lk_X6_90 (c_X1_number l E B ((kd6_f hk_k).1) eq4) ⟨rfl, rfl, by decide, by decide⟩ rfl hl.1 rfl (Nat.le_of_ble_eq_true rfl) dX6_setNumber_27 (fun H locs hM => ?_)
    refine W.eq (g2 := F0 m 30 ls [.int q4.1]) rfl ?_
    refine lv_istore_n (lv' := [(3, .int q4.1), (0, .ref (B + k)), (1, .int x1), (2, .int x2)]) hx hb dX6_setNumber_30 rfl hl (by decide) rfl (fun ls hl => ?_)
    refine lv_aload_n hx hb dX6_setNumber_31 rfl (lv_at hl 1 rfl) ?_
    refine g6_0 CX hM hk_k wf_X6_10 dX6_setNumber_32 ?_
    refine lv_iload_n hx hb dX6_setNumber_35 rfl (lv_at hl 2 rfl) ?_
    refine lv_iload_n hx hb dX6_setNumber_36 rfl (lv_at hl 3 rfl) ?_
    obtain ⟨q5, eq5, h⟩ := bd_h h
    refine x_callV (As := [.int x1, .int x2]) CX hM (kdl (kd6_f hk_k).1 rfl) (ly1 (kd6_f hk_k).1 _) rfl lk_X6_94 (c_X1_putNumber l E B ((kd6_f hk_k).1) eq5) ⟨rfl, rfl, by decide, by decide⟩ rfl hl.1 rfl (Nat.le_of_ble_eq_true rfl) dX6_setNumber_37 (fun H locs hM => ?_)
    refine W.eq (g2 := F0 m 40 ls []) rfl ?_
    refine lv_iload_n hx hb dX6_setNumber_40 rfl (lv_at hl 0 rfl) ?_
    obtain rfl := Option.some.inj h
    exact x_iret CX hr hlk hM rfl dX6_setNumber_41
  · replace h := it_h c2 h
    refine lv_ldc (v := (-1000001)) hx hb CX.1.2.2.2.1 (x_hts CX wc_X6_44) dX6_setNumber_8 ?_
    obtain rfl := Option.some.inj h
    exact x_iret CX hr hlk hM rfl dX6_setNumber_10
def rm_X6_warm : Jvm.Room := { frames := 4, cells := 0, slots := 0, locals := 93 }
set_option maxHeartbeats 4000000 in
set_option maxRecDepth 100000 in
theorem c_X6_warm (l : Launch) (E : xE) (B : Nat) {k : Nat} {x1 : Int32} {x2 : Int32} {σ : xM} {q : Int32 × xM} (hk_k : kd k = 6) (h : F_X6_warm k x1 x2 σ = some q) : Met l yX6_warm (Cond.code yX6_warm cX6_warm 5 (some .int) :: AL) rm_X6_warm (xP E B 160 (layX E B) [.ref (B + k), .int x1, .int x2] σ) (xQ E B 160 (layX E B) (some (.int q.1)) q.2) 0 0 (wA B 160) := by
  refine x_met (plainFor_of_name (by decide +kernel)) (Nat.le_of_ble_eq_true rfl) rfl ?_
  intro p e s m below meth c ls CX hr hlk hM hl
  have hx := CX.1.1
  have hb := CX.1.2.1
  unfold F_X6_warm at h
  refine lv_aload_n hx hb dX6_warm_0 rfl (lv_at hl 0 rfl) ?_
  refine g6_0 CX hM hk_k wf_X6_10 dX6_warm_1 ?_
  refine lv_iload_n hx hb dX6_warm_4 rfl (lv_at hl 1 rfl) ?_
  obtain ⟨q1, eq1, h⟩ := bd_h h
  refine x_callV (As := [.int x1]) CX hM (kdl (kd6_f hk_k).1 rfl) (ly1 (kd6_f hk_k).1 _) rfl lk_X6_74 (c_X1_roomAt l E B ((kd6_f hk_k).1) eq1) ⟨rfl, rfl, by decide, by decide⟩ rfl hl.1 rfl (Nat.le_of_ble_eq_true rfl) dX6_warm_5 (fun H locs hM => ?_)
  rcases hq1 : q1.1 with _ | r2
  · rw [hq1] at h
    replace h := oc_n h
    refine W.eq (g2 := F0 m 8 ls [.null]) rfl ?_
    refine lv_astore_nN (lv' := [(3, .null), (0, .ref (B + k)), (1, .int x1), (2, .int x2)]) hx hb dX6_warm_8 rfl hl (by decide) rfl (fun ls hl => ?_)
    refine lv_aload_nN hx hb dX6_warm_9 rfl (lv_at hl 0 rfl) ?_
    refine lv_ifnullN (tgt := 24) hx hb dX6_warm_10 (by decide) ?_
    refine lv_ldc (v := (-1000001)) hx hb CX.1.2.2.2.1 (x_hts CX wc_X6_44) dX6_warm_24 ?_
    obtain rfl := Option.some.inj h
    exact x_iret CX hr hlk hM rfl dX6_warm_26
  · rw [hq1] at h
    replace h := oc_s h
    obtain ⟨hk_r2, h⟩ := ck_h h
    refine W.eq (g2 := F0 m 8 ls [.ref (B + r2)]) rfl ?_
    refine lv_astore_n (lv' := [(3, .ref (B + r2)), (0, .ref (B + k)), (1, .int x1), (2, .int x2)]) hx hb dX6_warm_8 rfl hl (by decide) rfl (fun ls hl => ?_)
    refine lv_aload_n hx hb dX6_warm_9 rfl (lv_at hl 0 rfl) ?_
    refine lv_ifnull hx hb dX6_warm_10 ?_
    refine lv_iload_n hx hb dX6_warm_13 rfl (lv_at hl 3 rfl) ?_
    refine lv_ldc (v := (-50000)) hx hb CX.1.2.2.2.1 (x_hts CX wc_X6_98) dX6_warm_14 ?_
    refine lv_ldc (v := 50000) hx hb CX.1.2.2.2.1 (x_hts CX wc_X6_99) dX6_warm_16 ?_
    obtain ⟨q3, eq3, h⟩ := bd_h h
    refine x_callS (As := [.int x2, .int (-50000), .int 50000]) CX hM lk_X6_40 (c_X6_within l E B  eq3) ⟨rfl, rfl, by decide, by decide⟩ rfl hl.1 rfl (Nat.le_of_ble_eq_true rfl) dX6_warm_18 (fun H locs hM => ?_)
    refine W.eq (g2 := F0 m 21 ls [.int (bz q3.1)]) rfl ?_
    refine lv_if_ne (tgt := 27) hx hb dX6_warm_21 (by decide) (fun c4 => ?_) (fun c4 => ?_)
    · replace h := if_h c4 h
      refine lv_aload_n hx hb dX6_warm_27 rfl (lv_at hl 0 rfl) ?_
      refine lv_aload_n hx hb dX6_warm_28 rfl (lv_at hl 0 rfl) ?_
      refine g3_4 CX hM hk_r2 wf_X6_100 dX6_warm_29 ?_
      refine lv_iload_n hx hb dX6_warm_32 rfl (lv_at hl 3 rfl) ?_
      refine lv_iadd hx hb dX6_warm_33 ?_
      obtain ⟨q5, eq5, h⟩ := bd_h h
      refine x_callV (As := [.int ((q3.2 r2 4) + x2)]) CX hM (kdl hk_r2 rfl) (ly3 hk_r2 _) rfl lk_X6_103 (c_X3_temperatureWith l E B hk_r2 eq5) ⟨rfl, rfl, by decide, by decide⟩ rfl hl.1 rfl (Nat.le_of_ble_eq_true rfl) dX6_warm_34 (fun H locs hM => ?_)
      refine W.eq (g2 := F0 m 37 ls [.int q5.1]) rfl ?_
      refine lv_istore (lv' := [(4, .int q5.1), (3, .ref (B + r2)), (0, .ref (B + k)), (1, .int x1), (2, .int x2)]) hx hb dX6_warm_37 hl (by decide) rfl (fun ls hl => ?_)
      refine lv_iload hx hb dX6_warm_39 (lv_at hl 0 rfl) ?_
      refine lv_ldc (v := (-200000)) hx hb CX.1.2.2.2.1 (x_hts CX wc_X6_106) dX6_warm_41 ?_
      refine lv_ldc (v := 200000) hx hb CX.1.2.2.2.1 (x_hts CX wc_X6_107) dX6_warm_43 ?_
      obtain ⟨q6, eq6, h⟩ := bd_h h
      refine x_callS (As := [.int q5.1, .int (-200000), .int 200000]) CX hM lk_X6_40 (c_X6_within l E B  eq6) ⟨rfl, rfl, by decide, by decide⟩ rfl hl.1 rfl (Nat.le_of_ble_eq_true rfl) dX6_warm_45 (fun H locs hM => ?_)
      refine W.eq (g2 := F0 m 48 ls [.int (bz q6.1)]) rfl ?_
      refine lv_if_ne (tgt := 54) hx hb dX6_warm_48 (by decide) (fun c7 => ?_) (fun c7 => ?_)
      · replace h := if_h c7 h
        refine lv_aload_n hx hb dX6_warm_54 rfl (lv_at hl 2 rfl) ?_
        refine g6_2 CX hM hk_k wf_X6_22 dX6_warm_55 ?_
        refine lv_aload_n hx hb dX6_warm_58 rfl (lv_at hl 2 rfl) ?_
        refine g6_0 CX hM hk_k wf_X6_10 dX6_warm_59 ?_
        obtain ⟨q8, eq8, h⟩ := bd_h h
        refine x_callV (As := [.ref (B + (k + 1))]) CX hM (kdl (kd6_f hk_k).2.2.1 rfl) (ly2 (kd6_f hk_k).2.2.1 _) rfl lk_X6_50 (c_X2_save l E B ((kd6_f hk_k).2.2.1) ((kd6_f hk_k).1) eq8) ⟨rfl, rfl, by decide, by decide⟩ rfl hl.1 rfl (Nat.le_of_ble_eq_true rfl) dX6_warm_62 (fun H locs hM => ?_)
        refine W.eq (g2 := F0 m 65 ls []) rfl ?_
        refine lv_aload_n hx hb dX6_warm_65 rfl (lv_at hl 1 rfl) ?_
        refine lv_iload_n hx hb dX6_warm_66 rfl (lv_at hl 4 rfl) ?_
        obtain ⟨q9, eq9, h⟩ := bd_h h
        refine x_callV (As := [.int x2]) CX hM (kdl hk_r2 rfl) (ly3 hk_r2 _) rfl lk_X6_108 (c_X3_bringIn l E B hk_r2 eq9) ⟨rfl, rfl, by decide, by decide⟩ rfl hl.1 rfl (Nat.le_of_ble_eq_true rfl) dX6_warm_67 (fun H locs hM => ?_)
        refine W.eq (g2 := F0 m 70 ls []) rfl ?_
        refine lv_iload hx hb dX6_warm_70 (lv_at hl 0 rfl) ?_
        obtain rfl := Option.some.inj h
        exact x_iret CX hr hlk hM rfl dX6_warm_72
      · replace h := it_h c7 h
        refine lv_ldc (v := (-1000002)) hx hb CX.1.2.2.2.1 (x_hts CX wc_X6_69) dX6_warm_51 ?_
        obtain rfl := Option.some.inj h
        exact x_iret CX hr hlk hM rfl dX6_warm_53
    · replace h := it_h c4 h
      refine lv_ldc (v := (-1000001)) hx hb CX.1.2.2.2.1 (x_hts CX wc_X6_44) dX6_warm_24 ?_
      obtain rfl := Option.some.inj h
      exact x_iret CX hr hlk hM rfl dX6_warm_26
def rm_X6_service : Jvm.Room := { frames := 4, cells := 0, slots := 0, locals := 93 }
set_option maxHeartbeats 4000000 in
set_option maxRecDepth 100000 in
theorem c_X6_service (l : Launch) (E : xE) (B : Nat) {k : Nat} {x1 : Int32} {σ : xM} {q : Int32 × xM} (hk_k : kd k = 6) (h : F_X6_service k x1 σ = some q) : Met l yX6_service (Cond.code yX6_service cX6_service 4 (some .int) :: AL) rm_X6_service (xP E B 160 (layX E B) [.ref (B + k), .int x1] σ) (xQ E B 160 (layX E B) (some (.int q.1)) q.2) 0 0 (wA B 160) := by
  refine x_met (plainFor_of_name (by decide +kernel)) (Nat.le_of_ble_eq_true rfl) rfl ?_
  intro p e s m below meth c ls CX hr hlk hM hl
  have hx := CX.1.1
  have hb := CX.1.2.1
  unfold F_X6_service at h
  refine lv_aload_n hx hb dX6_service_0 rfl (lv_at hl 0 rfl) ?_
  refine g6_0 CX hM hk_k wf_X6_10 dX6_service_1 ?_
  refine lv_iload_n hx hb dX6_service_4 rfl (lv_at hl 1 rfl) ?_
  obtain ⟨q1, eq1, h⟩ := bd_h h
  refine x_callV (As := [.int x1]) CX hM (kdl (kd6_f hk_k).1 rfl) (ly1 (kd6_f hk_k).1 _) rfl lk_X6_74 (c_X1_roomAt l E B ((kd6_f hk_k).1) eq1) ⟨rfl, rfl, by decide, by decide⟩ rfl hl.1 rfl (Nat.le_of_ble_eq_true rfl) dX6_service_5 (fun H locs hM => ?_)
  rcases hq1 : q1.1 with _ | r2
  · rw [hq1] at h
    replace h := oc_n h
    refine W.eq (g2 := F0 m 8 ls [.null]) rfl ?_
    refine lv_astore_nN (lv' := [(2, .null), (0, .ref (B + k)), (1, .int x1)]) hx hb dX6_service_8 rfl hl (by decide) rfl (fun ls hl => ?_)
    refine lv_aload_nN hx hb dX6_service_9 rfl (lv_at hl 0 rfl) ?_
    refine lv_ifnonnullN hx hb dX6_service_10 ?_
    refine lv_ldc (v := (-1000001)) hx hb CX.1.2.2.2.1 (x_hts CX wc_X6_44) dX6_service_13 ?_
    obtain rfl := Option.some.inj h
    exact x_iret CX hr hlk hM rfl dX6_service_15
  · rw [hq1] at h
    replace h := oc_s h
    obtain ⟨hk_r2, h⟩ := ck_h h
    refine W.eq (g2 := F0 m 8 ls [.ref (B + r2)]) rfl ?_
    refine lv_astore_n (lv' := [(2, .ref (B + r2)), (0, .ref (B + k)), (1, .int x1)]) hx hb dX6_service_8 rfl hl (by decide) rfl (fun ls hl => ?_)
    refine lv_aload_n hx hb dX6_service_9 rfl (lv_at hl 0 rfl) ?_
    refine lv_ifnonnull (tgt := 16) hx hb dX6_service_10 (by decide) ?_
    refine lv_aload_n hx hb dX6_service_16 rfl (lv_at hl 1 rfl) ?_
    refine g6_2 CX hM hk_k wf_X6_22 dX6_service_17 ?_
    refine lv_aload_n hx hb dX6_service_20 rfl (lv_at hl 1 rfl) ?_
    refine g6_0 CX hM hk_k wf_X6_10 dX6_service_21 ?_
    obtain ⟨q3, eq3, h⟩ := bd_h h
    refine x_callV (As := [.ref (B + (k + 1))]) CX hM (kdl (kd6_f hk_k).2.2.1 rfl) (ly2 (kd6_f hk_k).2.2.1 _) rfl lk_X6_50 (c_X2_save l E B ((kd6_f hk_k).2.2.1) ((kd6_f hk_k).1) eq3) ⟨rfl, rfl, by decide, by decide⟩ rfl hl.1 rfl (Nat.le_of_ble_eq_true rfl) dX6_service_24 (fun H locs hM => ?_)
    refine W.eq (g2 := F0 m 27 ls []) rfl ?_
    refine lv_aload_n hx hb dX6_service_27 rfl (lv_at hl 0 rfl) ?_
    refine g3_11 CX hM hk_r2 wf_X6_112 dX6_service_28 ?_
    refine lv_topi (fun x3_4 ex3_4 => ?_)
    replace h := nm_h ex3_4 h
    refine lv_istore_n (lv' := [(3, .int x3_4), (2, .ref (B + r2)), (0, .ref (B + k)), (1, .int x1)]) hx hb dX6_service_31 rfl hl (by decide) rfl (fun ls hl => ?_)
    refine lv_aload_n hx hb dX6_service_32 rfl (lv_at hl 1 rfl) ?_
    obtain ⟨q5, eq5, h⟩ := bd_h h
    refine x_callV (As := []) CX hM (kdl hk_r2 rfl) (ly3 hk_r2 _) rfl lk_X6_115 (c_X3_renewContact l E B hk_r2 eq5) ⟨rfl, rfl, by decide, by decide⟩ rfl hl.1 rfl (Nat.le_of_ble_eq_true rfl) dX6_service_33 (fun H locs hM => ?_)
    refine W.eq (g2 := F0 m 36 ls []) rfl ?_
    refine lv_iload_n hx hb dX6_service_36 rfl (lv_at hl 0 rfl) ?_
    obtain rfl := Option.some.inj h
    exact x_iret CX hr hlk hM rfl dX6_service_37
def rm_X6_resetCutout : Jvm.Room := { frames := 4, cells := 0, slots := 0, locals := 93 }
set_option maxHeartbeats 4000000 in
set_option maxRecDepth 100000 in
theorem c_X6_resetCutout (l : Launch) (E : xE) (B : Nat) {k : Nat} {x1 : Int32} {σ : xM} {q : Int32 × xM} (hk_k : kd k = 6) (h : F_X6_resetCutout k x1 σ = some q) : Met l yX6_resetCutout (Cond.code yX6_resetCutout cX6_resetCutout 4 (some .int) :: AL) rm_X6_resetCutout (xP E B 160 (layX E B) [.ref (B + k), .int x1] σ) (xQ E B 160 (layX E B) (some (.int q.1)) q.2) 0 0 (wA B 160) := by
  refine x_met (plainFor_of_name (by decide +kernel)) (Nat.le_of_ble_eq_true rfl) rfl ?_
  intro p e s m below meth c ls CX hr hlk hM hl
  have hx := CX.1.1
  have hb := CX.1.2.1
  unfold F_X6_resetCutout at h
  refine lv_aload_n hx hb dX6_resetCutout_0 rfl (lv_at hl 0 rfl) ?_
  refine g6_0 CX hM hk_k wf_X6_10 dX6_resetCutout_1 ?_
  refine lv_iload_n hx hb dX6_resetCutout_4 rfl (lv_at hl 1 rfl) ?_
  obtain ⟨q1, eq1, h⟩ := bd_h h
  refine x_callV (As := [.int x1]) CX hM (kdl (kd6_f hk_k).1 rfl) (ly1 (kd6_f hk_k).1 _) rfl lk_X6_74 (c_X1_roomAt l E B ((kd6_f hk_k).1) eq1) ⟨rfl, rfl, by decide, by decide⟩ rfl hl.1 rfl (Nat.le_of_ble_eq_true rfl) dX6_resetCutout_5 (fun H locs hM => ?_)
  rcases hq1 : q1.1 with _ | r2
  · rw [hq1] at h
    replace h := oc_n h
    refine W.eq (g2 := F0 m 8 ls [.null]) rfl ?_
    refine lv_astore_nN (lv' := [(2, .null), (0, .ref (B + k)), (1, .int x1)]) hx hb dX6_resetCutout_8 rfl hl (by decide) rfl (fun ls hl => ?_)
    refine lv_aload_nN hx hb dX6_resetCutout_9 rfl (lv_at hl 0 rfl) ?_
    refine lv_ifnonnullN hx hb dX6_resetCutout_10 ?_
    refine lv_ldc (v := (-1000001)) hx hb CX.1.2.2.2.1 (x_hts CX wc_X6_44) dX6_resetCutout_13 ?_
    obtain rfl := Option.some.inj h
    exact x_iret CX hr hlk hM rfl dX6_resetCutout_15
  · rw [hq1] at h
    replace h := oc_s h
    obtain ⟨hk_r2, h⟩ := ck_h h
    refine W.eq (g2 := F0 m 8 ls [.ref (B + r2)]) rfl ?_
    refine lv_astore_n (lv' := [(2, .ref (B + r2)), (0, .ref (B + k)), (1, .int x1)]) hx hb dX6_resetCutout_8 rfl hl (by decide) rfl (fun ls hl => ?_)
    refine lv_aload_n hx hb dX6_resetCutout_9 rfl (lv_at hl 0 rfl) ?_
    refine lv_ifnonnull (tgt := 16) hx hb dX6_resetCutout_10 (by decide) ?_
    refine lv_aload_n hx hb dX6_resetCutout_16 rfl (lv_at hl 0 rfl) ?_
    obtain ⟨q3, eq3, h⟩ := bd_h h
    refine x_callV (As := []) CX hM (kdl hk_r2 rfl) (ly3 hk_r2 _) rfl lk_X6_118 (c_X3_temperature l E B hk_r2 eq3) ⟨rfl, rfl, by decide, by decide⟩ rfl hl.1 rfl (Nat.le_of_ble_eq_true rfl) dX6_resetCutout_17 (fun H locs hM => ?_)
    refine W.eq (g2 := F0 m 20 ls [.int q3.1]) rfl ?_
    refine lv_istore_n (lv' := [(3, .int q3.1), (2, .ref (B + r2)), (0, .ref (B + k)), (1, .int x1)]) hx hb dX6_resetCutout_20 rfl hl (by decide) rfl (fun ls hl => ?_)
    refine lv_aload_n hx hb dX6_resetCutout_21 rfl (lv_at hl 1 rfl) ?_
    refine g3_10 CX hM hk_r2 wf_X6_122 dX6_resetCutout_22 ?_
    refine lv_if_eq (tgt := 40) hx hb dX6_resetCutout_25 (by decide) (fun c4 => ?_) (fun c4 => ?_)
    · replace h := it_h c4 h
      refine lv_ldc (v := (-1000002)) hx hb CX.1.2.2.2.1 (x_hts CX wc_X6_69) dX6_resetCutout_40 ?_
      obtain rfl := Option.some.inj h
      exact x_iret CX hr hlk hM rfl dX6_resetCutout_42
    · replace h := if_h c4 h
      refine lv_iload_n hx hb dX6_resetCutout_28 rfl (lv_at hl 0 rfl) ?_
      refine lv_aload_n hx hb dX6_resetCutout_29 rfl (lv_at hl 2 rfl) ?_
      refine g6_0 CX hM hk_k wf_X6_10 dX6_resetCutout_30 ?_
      refine lv_iconst (v := 5) hx hb dX6_resetCutout_33 (by decide) ?_
      obtain ⟨q5, eq5, h⟩ := bd_h h
      refine x_callV (As := [.int 5]) CX hM (kdl (kd6_f hk_k).1 rfl) (ly1 (kd6_f hk_k).1 _) rfl lk_X6_90 (c_X1_number l E B ((kd6_f hk_k).1) eq5) ⟨rfl, rfl, by decide, by decide⟩ rfl hl.1 rfl (Nat.le_of_ble_eq_true rfl) dX6_resetCutout_34 (fun H locs hM => ?_)
      refine W.eq (g2 := F0 m 37 ls [.int q5.1, .int q3.1]) rfl ?_
      refine lv_icmp_le (tgt := 43) hx hb dX6_resetCutout_37 (by decide) (fun c6 => ?_) (fun c6 => ?_)
      · replace h := it_h c6 h
        refine lv_aload_n hx hb dX6_resetCutout_43 rfl (lv_at hl 2 rfl) ?_
        refine g6_2 CX hM hk_k wf_X6_22 dX6_resetCutout_44 ?_
        refine lv_aload_n hx hb dX6_resetCutout_47 rfl (lv_at hl 2 rfl) ?_
        refine g6_0 CX hM hk_k wf_X6_10 dX6_resetCutout_48 ?_
        obtain ⟨q7, eq7, h⟩ := bd_h h
        refine x_callV (As := [.ref (B + (k + 1))]) CX hM (kdl (kd6_f hk_k).2.2.1 rfl) (ly2 (kd6_f hk_k).2.2.1 _) rfl lk_X6_50 (c_X2_save l E B ((kd6_f hk_k).2.2.1) ((kd6_f hk_k).1) eq7) ⟨rfl, rfl, by decide, by decide⟩ rfl hl.1 rfl (Nat.le_of_ble_eq_true rfl) dX6_resetCutout_51 (fun H locs hM => ?_)
        refine W.eq (g2 := F0 m 54 ls []) rfl ?_
        refine lv_aload_n hx hb dX6_resetCutout_54 rfl (lv_at hl 1 rfl) ?_
        refine lv_iconst (v := 0) hx hb dX6_resetCutout_55 (by decide) ?_
        refine p3_10 (y := 0) CX hM hk_r2 wf_X6_122 dX6_resetCutout_56 (fun H locs σ8 eσ8 hM => ?_)
        replace h := nm_h eσ8 h
        refine lv_iload_n hx hb dX6_resetCutout_59 rfl (lv_at hl 0 rfl) ?_
        obtain rfl := Option.some.inj h
        exact x_iret CX hr hlk hM rfl dX6_resetCutout_60
      · replace h := if_h c6 h
        refine lv_ldc (v := (-1000002)) hx hb CX.1.2.2.2.1 (x_hts CX wc_X6_69) dX6_resetCutout_40 ?_
        obtain rfl := Option.some.inj h
        exact x_iret CX hr hlk hM rfl dX6_resetCutout_42
def rm_X6_room : Jvm.Room := { frames := 4, cells := 0, slots := 0, locals := 84 }
set_option maxHeartbeats 4000000 in
set_option maxRecDepth 100000 in
theorem c_X6_room (l : Launch) (E : xE) (B : Nat) {k : Nat} {x1 : Int32} {x2 : Int32} {σ : xM} {q : Int32 × xM} (hk_k : kd k = 6) (h : F_X6_room k x1 x2 σ = some q) : Met l yX6_room (Cond.code yX6_room cX6_room 4 (some .int) :: AL) rm_X6_room (xP E B 160 (layX E B) [.ref (B + k), .int x1, .int x2] σ) (xQ E B 160 (layX E B) (some (.int q.1)) q.2) 0 0 (wA B 160) := by
  refine x_met (plainFor_of_name (by decide +kernel)) (Nat.le_of_ble_eq_true rfl) rfl ?_
  intro p e s m below meth c ls CX hr hlk hM hl
  have hx := CX.1.1
  have hb := CX.1.2.1
  unfold F_X6_room at h
  refine lv_aload_n hx hb dX6_room_0 rfl (lv_at hl 0 rfl) ?_
  refine g6_0 CX hM hk_k wf_X6_10 dX6_room_1 ?_
  refine lv_iload_n hx hb dX6_room_4 rfl (lv_at hl 1 rfl) ?_
  obtain ⟨q1, eq1, h⟩ := bd_h h
  refine x_callV (As := [.int x1]) CX hM (kdl (kd6_f hk_k).1 rfl) (ly1 (kd6_f hk_k).1 _) rfl lk_X6_74 (c_X1_roomAt l E B ((kd6_f hk_k).1) eq1) ⟨rfl, rfl, by decide, by decide⟩ rfl hl.1 rfl (Nat.le_of_ble_eq_true rfl) dX6_room_5 (fun H locs hM => ?_)
  rcases hq1 : q1.1 with _ | r2
  · rw [hq1] at h
    replace h := oc_n h
    refine W.eq (g2 := F0 m 8 ls [.null]) rfl ?_
    refine lv_astore_nN (lv' := [(3, .null), (0, .ref (B + k)), (1, .int x1), (2, .int x2)]) hx hb dX6_room_8 rfl hl (by decide) rfl (fun ls hl => ?_)
    refine lv_aload_nN hx hb dX6_room_9 rfl (lv_at hl 0 rfl) ?_
    refine lv_ifnonnullN hx hb dX6_room_10 ?_
    refine lv_ldc (v := (-1000001)) hx hb CX.1.2.2.2.1 (x_hts CX wc_X6_44) dX6_room_13 ?_
    refine lv_goto (tgt := 23) hx hb dX6_room_15 (by decide) ?_
    obtain rfl := Option.some.inj h
    exact x_iret CX hr hlk hM rfl dX6_room_23
  · rw [hq1] at h
    replace h := oc_s h
    obtain ⟨hk_r2, h⟩ := ck_h h
    refine W.eq (g2 := F0 m 8 ls [.ref (B + r2)]) rfl ?_
    refine lv_astore_n (lv' := [(3, .ref (B + r2)), (0, .ref (B + k)), (1, .int x1), (2, .int x2)]) hx hb dX6_room_8 rfl hl (by decide) rfl (fun ls hl => ?_)
    refine lv_aload_n hx hb dX6_room_9 rfl (lv_at hl 0 rfl) ?_
    refine lv_ifnonnull (tgt := 18) hx hb dX6_room_10 (by decide) ?_
    refine lv_aload_n hx hb dX6_room_18 rfl (lv_at hl 0 rfl) ?_
    refine lv_iload_n hx hb dX6_room_19 rfl (lv_at hl 3 rfl) ?_
    obtain ⟨q3, eq3, h⟩ := bd_h h
    refine x_callV (As := [.int x2]) CX hM (kdl hk_r2 rfl) (ly3 hk_r2 _) rfl lk_X6_126 (c_X3_property l E B hk_r2 eq3) ⟨rfl, rfl, by decide, by decide⟩ rfl hl.1 rfl (Nat.le_of_ble_eq_true rfl) dX6_room_20 (fun H locs hM => ?_)
    refine W.eq (g2 := F0 m 23 ls [.int q3.1]) rfl ?_
    obtain rfl := Option.some.inj h
    exact x_iret CX hr hlk hM rfl dX6_room_23
def rm_X6_book : Jvm.Room := { frames := 1, cells := 0, slots := 0, locals := 21 }
set_option maxHeartbeats 4000000 in
set_option maxRecDepth 100000 in
theorem c_X6_book (l : Launch) (E : xE) (B : Nat) {k : Nat} {x1 : Int32} {x2 : Int32} {σ : xM} {q : Int32 × xM} (hk_k : kd k = 6) (h : F_X6_book k x1 x2 σ = some q) : Met l yX6_book (Cond.code yX6_book cX6_book 4 (some .int) :: AL) rm_X6_book (xP E B 160 (layX E B) [.ref (B + k), .int x1, .int x2] σ) (xQ E B 160 (layX E B) (some (.int q.1)) q.2) 0 0 (wA B 160) := by
  refine x_met (plainFor_of_name (by decide +kernel)) (Nat.le_of_ble_eq_true rfl) rfl ?_
  intro p e s m below meth c ls CX hr hlk hM hl
  have hx := CX.1.1
  have hb := CX.1.2.1
  unfold F_X6_book at h
  refine lv_aload_n hx hb dX6_book_0 rfl (lv_at hl 0 rfl) ?_
  refine g6_0 CX hM hk_k wf_X6_10 dX6_book_1 ?_
  refine lv_iload_n hx hb dX6_book_4 rfl (lv_at hl 1 rfl) ?_
  obtain ⟨q1, eq1, h⟩ := bd_h h
  refine x_callV (As := [.int x1]) CX hM (kdl (kd6_f hk_k).1 rfl) (ly1 (kd6_f hk_k).1 _) rfl lk_X6_74 (c_X1_roomAt l E B ((kd6_f hk_k).1) eq1) ⟨rfl, rfl, by decide, by decide⟩ rfl hl.1 rfl (Nat.le_of_ble_eq_true rfl) dX6_book_5 (fun H locs hM => ?_)
  rcases hq1 : q1.1 with _ | r2
  · rw [hq1] at h
    replace h := oc_n h
    refine W.eq (g2 := F0 m 8 ls [.null]) rfl ?_
    refine lv_astore_nN (lv' := [(3, .null), (0, .ref (B + k)), (1, .int x1), (2, .int x2)]) hx hb dX6_book_8 rfl hl (by decide) rfl (fun ls hl => ?_)
    refine lv_aload_nN hx hb dX6_book_9 rfl (lv_at hl 0 rfl) ?_
    refine lv_ifnonnullN hx hb dX6_book_10 ?_
    refine lv_ldc (v := (-1000001)) hx hb CX.1.2.2.2.1 (x_hts CX wc_X6_44) dX6_book_13 ?_
    refine lv_goto (tgt := 26) hx hb dX6_book_15 (by decide) ?_
    obtain rfl := Option.some.inj h
    exact x_iret CX hr hlk hM rfl dX6_book_26
  · rw [hq1] at h
    replace h := oc_s h
    obtain ⟨hk_r2, h⟩ := ck_h h
    refine W.eq (g2 := F0 m 8 ls [.ref (B + r2)]) rfl ?_
    refine lv_astore_n (lv' := [(3, .ref (B + r2)), (0, .ref (B + k)), (1, .int x1), (2, .int x2)]) hx hb dX6_book_8 rfl hl (by decide) rfl (fun ls hl => ?_)
    refine lv_aload_n hx hb dX6_book_9 rfl (lv_at hl 0 rfl) ?_
    refine lv_ifnonnull (tgt := 18) hx hb dX6_book_10 (by decide) ?_
    refine lv_aload_n hx hb dX6_book_18 rfl (lv_at hl 0 rfl) ?_
    refine g3_0 CX hM hk_r2 wf_X6_129 dX6_book_19 ?_
    refine lv_iload_n hx hb dX6_book_22 rfl (lv_at hl 3 rfl) ?_
    obtain ⟨q3, eq3, h⟩ := bd_h h
    refine x_callV (As := [.int x2]) CX hM (kdl (kd3_f hk_r2) rfl) (ly0 (kd3_f hk_r2) _) rfl lk_X6_133 (c_X0_sum l E B (kd3_f hk_r2) eq3) ⟨rfl, rfl, by decide, by decide⟩ rfl hl.1 rfl (Nat.le_of_ble_eq_true rfl) dX6_book_23 (fun H locs hM => ?_)
    refine W.eq (g2 := F0 m 26 ls [.int q3.1]) rfl ?_
    obtain rfl := Option.some.inj h
    exact x_iret CX hr hlk hM rfl dX6_book_26
def rm_X6_link : Jvm.Room := { frames := 2, cells := 0, slots := 0, locals := 44 }
set_option maxHeartbeats 4000000 in
set_option maxRecDepth 100000 in
theorem c_X6_link (l : Launch) (E : xE) (B : Nat) {k : Nat} {x1 : Int32} {x2 : Int32} {σ : xM} {q : Int32 × xM} (hk_k : kd k = 6) (h : F_X6_link k x1 x2 σ = some q) : Met l yX6_link (Cond.code yX6_link cX6_link 3 (some .int) :: AL) rm_X6_link (xP E B 160 (layX E B) [.ref (B + k), .int x1, .int x2] σ) (xQ E B 160 (layX E B) (some (.int q.1)) q.2) 0 0 (wA B 160) := by
  refine x_met (plainFor_of_name (by decide +kernel)) (Nat.le_of_ble_eq_true rfl) rfl ?_
  intro p e s m below meth c ls CX hr hlk hM hl
  have hx := CX.1.1
  have hb := CX.1.2.1
  unfold F_X6_link at h
  refine lv_aload_n hx hb dX6_link_0 rfl (lv_at hl 0 rfl) ?_
  refine g6_0 CX hM hk_k wf_X6_10 dX6_link_1 ?_
  refine lv_iload_n hx hb dX6_link_4 rfl (lv_at hl 1 rfl) ?_
  refine lv_iload_n hx hb dX6_link_5 rfl (lv_at hl 2 rfl) ?_
  obtain ⟨q1, eq1, h⟩ := bd_h h
  refine x_callV (As := [.int x1, .int x2]) CX hM (kdl (kd6_f hk_k).1 rfl) (ly1 (kd6_f hk_k).1 _) rfl lk_X6_58 (c_X1_hasPair l E B ((kd6_f hk_k).1) eq1) ⟨rfl, rfl, by decide, by decide⟩ rfl hl.1 rfl (Nat.le_of_ble_eq_true rfl) dX6_link_6 (fun H locs hM => ?_)
  refine W.eq (g2 := F0 m 9 ls [.int (bz q1.1)]) rfl ?_
  refine lv_if_eq (tgt := 24) hx hb dX6_link_9 (by decide) (fun c2 => ?_) (fun c2 => ?_)
  · replace h := it_h c2 h
    refine lv_ldc (v := (-1000001)) hx hb CX.1.2.2.2.1 (x_hts CX wc_X6_44) dX6_link_24 ?_
    obtain rfl := Option.some.inj h
    exact x_iret CX hr hlk hM rfl dX6_link_26
  · replace h := if_h c2 h
    refine lv_aload_n hx hb dX6_link_12 rfl (lv_at hl 0 rfl) ?_
    refine g6_0 CX hM hk_k wf_X6_10 dX6_link_13 ?_
    refine lv_iload_n hx hb dX6_link_16 rfl (lv_at hl 1 rfl) ?_
    refine lv_iload_n hx hb dX6_link_17 rfl (lv_at hl 2 rfl) ?_
    obtain ⟨q3, eq3, h⟩ := bd_h h
    refine x_callV (As := [.int x1, .int x2]) CX hM (kdl (kd6_f hk_k).1 rfl) (ly1 (kd6_f hk_k).1 _) rfl lk_X6_62 (c_X1_linkOf l E B ((kd6_f hk_k).1) eq3) ⟨rfl, rfl, by decide, by decide⟩ rfl hl.1 rfl (Nat.le_of_ble_eq_true rfl) dX6_link_18 (fun H locs hM => ?_)
    refine W.eq (g2 := F0 m 21 ls [.int q3.1]) rfl ?_
    refine lv_goto (tgt := 26) hx hb dX6_link_21 (by decide) ?_
    obtain rfl := Option.some.inj h
    exact x_iret CX hr hlk hM rfl dX6_link_26
def rm_X6_count : Jvm.Room := { frames := 3, cells := 0, slots := 0, locals := 65 }
set_option maxHeartbeats 4000000 in
set_option maxRecDepth 100000 in
theorem c_X6_count (l : Launch) (E : xE) (B : Nat) {k : Nat} {x1 : Int32} {σ : xM} {q : Int32 × xM} (hk_k : kd k = 6) (h : F_X6_count k x1 σ = some q) : Met l yX6_count (Cond.code yX6_count cX6_count 2 (some .int) :: AL) rm_X6_count (xP E B 160 (layX E B) [.ref (B + k), .int x1] σ) (xQ E B 160 (layX E B) (some (.int q.1)) q.2) 0 0 (wA B 160) := by
  refine x_met (plainFor_of_name (by decide +kernel)) (Nat.le_of_ble_eq_true rfl) rfl ?_
  intro p e s m below meth c ls CX hr hlk hM hl
  have hx := CX.1.1
  have hb := CX.1.2.1
  unfold F_X6_count at h
  refine lv_iload_n hx hb dX6_count_0 rfl (lv_at hl 1 rfl) ?_
  refine lv_iconst (v := 0) hx hb dX6_count_1 (by decide) ?_
  refine lv_bipush (v := 6) hx hb dX6_count_2 (by decide) ?_
  obtain ⟨q1, eq1, h⟩ := bd_h h
  refine x_callS (As := [.int x1, .int 0, .int 6]) CX hM lk_X6_40 (c_X6_within l E B  eq1) ⟨rfl, rfl, by decide, by decide⟩ rfl hl.1 rfl (Nat.le_of_ble_eq_true rfl) dX6_count_4 (fun H locs hM => ?_)
  refine W.eq (g2 := F0 m 7 ls [.int (bz q1.1)]) rfl ?_
  refine lv_if_eq (tgt := 19) hx hb dX6_count_7 (by decide) (fun c2 => ?_) (fun c2 => ?_)
  · replace h := it_h c2 h
    refine lv_iload_n hx hb dX6_count_19 rfl (lv_at hl 1 rfl) ?_
    by_cases c3 : x1 = 7
    · replace h := it_h c3 h
      refine lv_tableIn (off := 44) (tgt := 64) hx hb dX6_count_20 (by rw [c3]; decide) (by rw [c3]; decide) (by rw [c3]; decide) (by decide) ?_
      refine lv_aload_n hx hb dX6_count_64 rfl (lv_at hl 0 rfl) ?_
      refine g6_0 CX hM hk_k wf_X6_10 dX6_count_65 ?_
      refine g1_4 CX hM (kd6_f hk_k).1 wf_X6_45 dX6_count_68 ?_
      obtain rfl := Option.some.inj h
      exact x_iret CX hr hlk hM rfl dX6_count_71
    · replace h := if_h c3 h
      by_cases c4 : x1 = 8
      · replace h := it_h c4 h
        refine lv_tableIn (off := 52) (tgt := 72) hx hb dX6_count_20 (by rw [c4]; decide) (by rw [c4]; decide) (by rw [c4]; decide) (by decide) ?_
        refine lv_aload_n hx hb dX6_count_72 rfl (lv_at hl 0 rfl) ?_
        refine g6_0 CX hM hk_k wf_X6_10 dX6_count_73 ?_
        refine g1_5 CX hM (kd6_f hk_k).1 wf_X6_138 dX6_count_76 ?_
        obtain rfl := Option.some.inj h
        exact x_iret CX hr hlk hM rfl dX6_count_79
      · replace h := if_h c4 h
        by_cases c5 : x1 = 9
        · replace h := it_h c5 h
          refine lv_tableIn (off := 60) (tgt := 80) hx hb dX6_count_20 (by rw [c5]; decide) (by rw [c5]; decide) (by rw [c5]; decide) (by decide) ?_
          refine lv_aload_n hx hb dX6_count_80 rfl (lv_at hl 0 rfl) ?_
          refine g6_0 CX hM hk_k wf_X6_10 dX6_count_81 ?_
          refine g1_3 CX hM (kd6_f hk_k).1 wf_X6_141 dX6_count_84 ?_
          refine g4_2 CX hM (kd1_f (kd6_f hk_k).1).2.2.2 wf_X6_144 dX6_count_87 ?_
          obtain rfl := Option.some.inj h
          exact x_iret CX hr hlk hM rfl dX6_count_90
        · replace h := if_h c5 h
          by_cases c6 : x1 = 10
          · replace h := it_h c6 h
            refine lv_tableIn (off := 71) (tgt := 91) hx hb dX6_count_20 (by rw [c6]; decide) (by rw [c6]; decide) (by rw [c6]; decide) (by decide) ?_
            refine lv_aload_n hx hb dX6_count_91 rfl (lv_at hl 0 rfl) ?_
            refine g6_0 CX hM hk_k wf_X6_10 dX6_count_92 ?_
            obtain ⟨q7, eq7, h⟩ := bd_h h
            refine x_callV (As := []) CX hM (kdl (kd6_f hk_k).1 rfl) (ly1 (kd6_f hk_k).1 _) rfl lk_X6_147 (c_X1_suspectRooms l E B ((kd6_f hk_k).1) eq7) ⟨rfl, rfl, by decide, by decide⟩ rfl hl.1 rfl (Nat.le_of_ble_eq_true rfl) dX6_count_95 (fun H locs hM => ?_)
            refine W.eq (g2 := F0 m 98 ls [.int q7.1]) rfl ?_
            obtain rfl := Option.some.inj h
            exact x_iret CX hr hlk hM rfl dX6_count_98
          · replace h := if_h c6 h
            by_cases c8 : x1 = 11
            · replace h := it_h c8 h
              refine lv_tableIn (off := 79) (tgt := 99) hx hb dX6_count_20 (by rw [c8]; decide) (by rw [c8]; decide) (by rw [c8]; decide) (by decide) ?_
              refine lv_aload_n hx hb dX6_count_99 rfl (lv_at hl 0 rfl) ?_
              refine g6_0 CX hM hk_k wf_X6_10 dX6_count_100 ?_
              obtain ⟨q9, eq9, h⟩ := bd_h h
              refine x_callV (As := []) CX hM (kdl (kd6_f hk_k).1 rfl) (ly1 (kd6_f hk_k).1 _) rfl lk_X6_150 (c_X1_allFines l E B ((kd6_f hk_k).1) eq9) ⟨rfl, rfl, by decide, by decide⟩ rfl hl.1 rfl (Nat.le_of_ble_eq_true rfl) dX6_count_103 (fun H locs hM => ?_)
              refine W.eq (g2 := F0 m 106 ls [.int q9.1]) rfl ?_
              obtain rfl := Option.some.inj h
              exact x_iret CX hr hlk hM rfl dX6_count_106
            · replace h := if_h c8 h
              by_cases c10 : x1 = 12
              · replace h := it_h c10 h
                refine lv_tableIn (off := 87) (tgt := 107) hx hb dX6_count_20 (by rw [c10]; decide) (by rw [c10]; decide) (by rw [c10]; decide) (by decide) ?_
                refine lv_aload_n hx hb dX6_count_107 rfl (lv_at hl 0 rfl) ?_
                refine g6_3 CX hM hk_k wf_X6_29 dX6_count_108 ?_
                refine g5_1 CX hM (kd6_f hk_k).2.2.2.1 wf_X6_153 dX6_count_111 ?_
                obtain rfl := Option.some.inj h
                exact x_iret CX hr hlk hM rfl dX6_count_114
              · replace h := if_h c10 h
                by_cases c11 : x1 = 13
                · replace h := it_h c11 h
                  refine lv_tableIn (off := 95) (tgt := 115) hx hb dX6_count_20 (by rw [c11]; decide) (by rw [c11]; decide) (by rw [c11]; decide) (by decide) ?_
                  refine lv_aload_n hx hb dX6_count_115 rfl (lv_at hl 0 rfl) ?_
                  refine g6_2 CX hM hk_k wf_X6_22 dX6_count_116 ?_
                  refine g2_2 CX hM (kd6_f hk_k).2.2.1 wf_X6_156 dX6_count_119 ?_
                  obtain rfl := Option.some.inj h
                  exact x_iret CX hr hlk hM rfl dX6_count_122
                · replace h := if_h c11 h
                  refine lv_tableOut (tgt := 123) hx hb dX6_count_20 (tsw_out [7, 8, 9, 10, 11, 12, 13] (by decide) (by decide) (List.forall_mem_cons.mpr ⟨c3, (List.forall_mem_cons.mpr ⟨c4, (List.forall_mem_cons.mpr ⟨c5, (List.forall_mem_cons.mpr ⟨c6, (List.forall_mem_cons.mpr ⟨c8, (List.forall_mem_cons.mpr ⟨c10, (List.forall_mem_cons.mpr ⟨c11, (fun _ h => absurd h List.not_mem_nil)⟩)⟩)⟩)⟩)⟩)⟩)⟩)) (by decide) ?_
                  refine lv_ldc (v := (-1000001)) hx hb CX.1.2.2.2.1 (x_hts CX wc_X6_44) dX6_count_123 ?_
                  obtain rfl := Option.some.inj h
                  exact x_iret CX hr hlk hM rfl dX6_count_125
  · replace h := if_h c2 h
    refine lv_aload_n hx hb dX6_count_10 rfl (lv_at hl 0 rfl) ?_
    refine g6_0 CX hM hk_k wf_X6_10 dX6_count_11 ?_
    refine lv_iload_n hx hb dX6_count_14 rfl (lv_at hl 1 rfl) ?_
    obtain ⟨q12, eq12, h⟩ := bd_h h
    refine x_callV (As := [.int x1]) CX hM (kdl (kd6_f hk_k).1 rfl) (ly1 (kd6_f hk_k).1 _) rfl lk_X6_90 (c_X1_number l E B ((kd6_f hk_k).1) eq12) ⟨rfl, rfl, by decide, by decide⟩ rfl hl.1 rfl (Nat.le_of_ble_eq_true rfl) dX6_count_15 (fun H locs hM => ?_)
    refine W.eq (g2 := F0 m 18 ls [.int q12.1]) rfl ?_
    obtain rfl := Option.some.inj h
    exact x_iret CX hr hlk hM rfl dX6_count_18
def rm_X6_pass : Jvm.Room := { frames := 7, cells := 0, slots := 0, locals := 154 }
set_option maxHeartbeats 4000000 in
set_option maxRecDepth 100000 in
theorem c_X6_pass (l : Launch) (E : xE) (B : Nat) {k : Nat} {x1 : Int32} {σ : xM} {q : Int32 × xM} (hk_k : kd k = 6) (h : F_X6_pass k x1 σ = some q) : Met l yX6_pass (Cond.code yX6_pass cX6_pass 2 (some .int) :: AL) rm_X6_pass (xP E B 160 (layX E B) [.ref (B + k), .int x1] σ) (xQ E B 160 (layX E B) (some (.int q.1)) q.2) 0 0 (wA B 160) := by
  refine x_met (plainFor_of_name (by decide +kernel)) (Nat.le_of_ble_eq_true rfl) rfl ?_
  intro p e s m below meth c ls CX hr hlk hM hl
  have hx := CX.1.1
  have hb := CX.1.2.1
  unfold F_X6_pass at h
  refine lv_iload_n hx hb dX6_pass_0 rfl (lv_at hl 1 rfl) ?_
  refine lv_iconst (v := 1) hx hb dX6_pass_1 (by decide) ?_
  refine lv_sipush (v := 500) hx hb dX6_pass_2 (by decide) ?_
  obtain ⟨q1, eq1, h⟩ := bd_h h
  refine x_callS (As := [.int x1, .int 1, .int 500]) CX hM lk_X6_40 (c_X6_within l E B  eq1) ⟨rfl, rfl, by decide, by decide⟩ rfl hl.1 rfl (Nat.le_of_ble_eq_true rfl) dX6_pass_5 (fun H locs hM => ?_)
  refine W.eq (g2 := F0 m 8 ls [.int (bz q1.1)]) rfl ?_
  refine lv_if_ne (tgt := 14) hx hb dX6_pass_8 (by decide) (fun c2 => ?_) (fun c2 => ?_)
  · replace h := if_h c2 h
    refine lv_aload_n hx hb dX6_pass_14 rfl (lv_at hl 0 rfl) ?_
    refine g6_0 CX hM hk_k wf_X6_10 dX6_pass_15 ?_
    refine g1_4 CX hM (kd6_f hk_k).1 wf_X6_45 dX6_pass_18 ?_
    refine lv_if_ne (tgt := 27) hx hb dX6_pass_21 (by decide) (fun c3 => ?_) (fun c3 => ?_)
    · replace h := if_h c3 h
      refine lv_iload_n hx hb dX6_pass_27 rfl (lv_at hl 1 rfl) ?_
      refine lv_sipush (v := 20000) hx hb dX6_pass_28 (by decide) ?_
      refine lv_aload_n hx hb dX6_pass_31 rfl (lv_at hl 0 rfl) ?_
      refine g6_0 CX hM hk_k wf_X6_10 dX6_pass_32 ?_
      refine g1_5 CX hM (kd6_f hk_k).1 wf_X6_138 dX6_pass_35 ?_
      refine lv_isub hx hb dX6_pass_38 ?_
      refine lv_icmp_le (tgt := 45) hx hb dX6_pass_39 (by decide) (fun c4 => ?_) (fun c4 => ?_)
      · replace h := it_h c4 h
        refine lv_aload_n hx hb dX6_pass_45 rfl (lv_at hl 0 rfl) ?_
        refine g6_2 CX hM hk_k wf_X6_22 dX6_pass_46 ?_
        refine lv_aload_n hx hb dX6_pass_49 rfl (lv_at hl 0 rfl) ?_
        refine g6_0 CX hM hk_k wf_X6_10 dX6_pass_50 ?_
        obtain ⟨q5, eq5, h⟩ := bd_h h
        refine x_callV (As := [.ref (B + (k + 1))]) CX hM (kdl (kd6_f hk_k).2.2.1 rfl) (ly2 (kd6_f hk_k).2.2.1 _) rfl lk_X6_50 (c_X2_save l E B ((kd6_f hk_k).2.2.1) ((kd6_f hk_k).1) eq5) ⟨rfl, rfl, by decide, by decide⟩ rfl hl.1 rfl (Nat.le_of_ble_eq_true rfl) dX6_pass_53 (fun H locs hM => ?_)
        refine W.eq (g2 := F0 m 56 ls []) rfl ?_
        refine lv_aload_n hx hb dX6_pass_56 rfl (lv_at hl 0 rfl) ?_
        refine g6_0 CX hM hk_k wf_X6_10 dX6_pass_57 ?_
        refine lv_iload_n hx hb dX6_pass_60 rfl (lv_at hl 1 rfl) ?_
        obtain ⟨q6, eq6, h⟩ := bd_h h
        refine x_callV (As := [.int x1]) CX hM (kdl (kd6_f hk_k).1 rfl) (ly1 (kd6_f hk_k).1 _) rfl lk_X6_172 (c_X1_passMinutes l E B ((kd6_f hk_k).1) eq6) ⟨rfl, rfl, by decide, by decide⟩ rfl hl.1 rfl (Nat.le_of_ble_eq_true rfl) dX6_pass_61 (fun H locs hM => ?_)
        refine W.eq (g2 := F0 m 64 ls [.int q6.1]) rfl ?_
        obtain rfl := Option.some.inj h
        exact x_iret CX hr hlk hM rfl dX6_pass_64
      · replace h := if_h c4 h
        refine lv_ldc (v := (-1000003)) hx hb CX.1.2.2.2.1 (x_hts CX wc_X6_49) dX6_pass_42 ?_
        obtain rfl := Option.some.inj h
        exact x_iret CX hr hlk hM rfl dX6_pass_44
    · replace h := it_h c3 h
      refine lv_ldc (v := (-1000002)) hx hb CX.1.2.2.2.1 (x_hts CX wc_X6_69) dX6_pass_24 ?_
      obtain rfl := Option.some.inj h
      exact x_iret CX hr hlk hM rfl dX6_pass_26
  · replace h := it_h c2 h
    refine lv_ldc (v := (-1000001)) hx hb CX.1.2.2.2.1 (x_hts CX wc_X6_44) dX6_pass_11 ?_
    obtain rfl := Option.some.inj h
    exact x_iret CX hr hlk hM rfl dX6_pass_13
