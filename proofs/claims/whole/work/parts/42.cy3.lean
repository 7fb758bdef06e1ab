def rm_X7_warm : Jvm.Room := { frames := 2, cells := 0, slots := 0, locals := 43 }
set_option maxHeartbeats 4000000 in
set_option maxRecDepth 100000 in
theorem c_X7_warm (l : Launch) (E : xE) (B : Nat) {k : Nat} {x1 : Int32} {x2 : Int32} {σ : xM} {q : Int32 × xM} (hk_k : kdY k = 7) (h : F_X7_warm k x1 x2 σ = some q) : Met l yX7_warm (Cond.code yX7_warm cX7_warm 7 (some .int) :: AL) rm_X7_warm (xP E B 7 (layY E B) [.ref (B + k), .int x1, .int x2] σ) (xQ E B 7 (layY E B) (some (.int q.1)) q.2) 0 0 (wA B 7) := by
  refine x_met (plainFor_of_name (by decide +kernel)) (Nat.le_of_ble_eq_true rfl) rfl ?_
  intro p e s m below meth c ls CX hr hlk hM hl
  have hx := CX.1.1
  have hb := CX.1.2.1
  unfold F_X7_warm at h
  have J81 : ∀ (v1 : Int32) (v2 : Int32) (σ : xM), ∀ (H : Heap) (locs : List Loc) (ls : Array Slot), xS E B 7 (layY E B) s σ H locs → lv_has ls 7 [(0, .ref (B + k)), (1, .int v1), (2, .int v2)] → F_X7_warm_J81 k v1 v2 σ = some q → W p l e rm_X7_warm s m ([.ref (B + k), .int x1, .int x2] : List Value).toArray below meth c H locs 0 0 (MQ below (xQ E B 7 (layY E B) (some (.int q.1)) q.2) ([.ref (B + k), .int x1, .int x2] : List Value).toArray s 0 0 (wA B 7)) (F0 m 81 ls []) := by
    clear hM hl h
    intro v1 v2 σ  H locs ls hM hl h
    unfold F_X7_warm_J81 at h
    refine lv_aload_n hx hb dX7_warm_81 rfl (lv_at hl 0 rfl) ?_
    obtain ⟨q11, eq11, h⟩ := bd_h h
    refine x_callV (As := []) CX hM (kdYl hk_k rfl) (ly7 hk_k _) rfl lk_X7_48 (c_X7_notes l E B hk_k eq11) ⟨rfl, rfl, by decide, by decide⟩ rfl hl.1 rfl (Nat.le_of_ble_eq_true rfl) dX7_warm_82 (fun H locs hM => ?_)
    refine W.eq (g2 := F0 m 85 ls []) rfl ?_
    refine lv_aload_n hx hb dX7_warm_85 rfl (lv_at hl 0 rfl) ?_
    refine lv_iload_n hx hb dX7_warm_86 rfl (lv_at hl 1 rfl) ?_
    refine lv_iconst (v := 1) hx hb dX7_warm_87 (by decide) ?_
    refine lv_iload_n hx hb dX7_warm_88 rfl (lv_at hl 2 rfl) ?_
    obtain ⟨q12, eq12, h⟩ := bd_h h
    refine x_callV (As := [.int v1, .int 1, .int v2]) CX hM (kdYl hk_k rfl) (ly7 hk_k _) rfl lk_X7_81 (c_X7_grows l E B hk_k eq12) ⟨rfl, rfl, by decide, by decide⟩ rfl hl.1 rfl (Nat.le_of_ble_eq_true rfl) dX7_warm_89 (fun H locs hM => ?_)
    refine W.eq (g2 := F0 m 92 ls []) rfl ?_
    refine lv_aload_n hx hb dX7_warm_92 rfl (lv_at hl 0 rfl) ?_
    refine lv_iload_n hx hb dX7_warm_93 rfl (lv_at hl 1 rfl) ?_
    refine lv_bipush (v := 20) hx hb dX7_warm_94 (by decide) ?_
    refine lv_iload_n hx hb dX7_warm_96 rfl (lv_at hl 2 rfl) ?_
    obtain ⟨q13, eq13, h⟩ := bd_h h
    refine x_callV (As := [.int v1, .int 20, .int v2]) CX hM (kdYl hk_k rfl) (ly7 hk_k _) rfl lk_X7_81 (c_X7_grows l E B hk_k eq13) ⟨rfl, rfl, by decide, by decide⟩ rfl hl.1 rfl (Nat.le_of_ble_eq_true rfl) dX7_warm_97 (fun H locs hM => ?_)
    refine W.eq (g2 := F0 m 100 ls []) rfl ?_
    refine lv_aload_n hx hb dX7_warm_100 rfl (lv_at hl 0 rfl) ?_
    refine lv_iload_n hx hb dX7_warm_101 rfl (lv_at hl 1 rfl) ?_
    obtain ⟨q14, eq14, h⟩ := bd_h h
    refine x_callV (As := [.int v1]) CX hM (kdYl hk_k rfl) (ly7 hk_k _) rfl lk_X7_84 (c_X7_temperature l E B hk_k eq14) ⟨rfl, rfl, by decide, by decide⟩ rfl hl.1 rfl (Nat.le_of_ble_eq_true rfl) dX7_warm_102 (fun H locs hM => ?_)
    refine W.eq (g2 := F0 m 105 ls [.int q14.1]) rfl ?_
    obtain rfl := Option.some.inj h
    exact x_iret CX hr hlk hM rfl dX7_warm_105
  refine lv_aload_n hx hb dX7_warm_0 rfl (lv_at hl 0 rfl) ?_
  refine lv_iload_n hx hb dX7_warm_1 rfl (lv_at hl 1 rfl) ?_
  obtain ⟨q1, eq1, h⟩ := bd_h h
  refine x_callV (As := [.int x1]) CX hM (kdYl hk_k rfl) (ly7 hk_k _) rfl lk_X7_56 (c_X7_isRoom l E B hk_k eq1) ⟨rfl, rfl, by decide, by decide⟩ rfl hl.1 rfl (Nat.le_of_ble_eq_true rfl) dX7_warm_2 (fun H locs hM => ?_)
  refine W.eq (g2 := F0 m 5 ls [.int (bz q1.1)]) rfl ?_
  refine lv_if_eq (tgt := 19) hx hb dX7_warm_5 (by decide) (fun c2 => ?_) (fun c2 => ?_)
  · replace h := it_h c2 h
    refine lv_ldc (v := (-1000001)) hx hb CX.1.2.2.2.1 (x_hts CX wc_X7_46) dX7_warm_19 ?_
    obtain rfl := Option.some.inj h
    exact x_iret CX hr hlk hM rfl dX7_warm_21
  · replace h := if_h c2 h
    refine lv_iload_n hx hb dX7_warm_8 rfl (lv_at hl 2 rfl) ?_
    refine lv_ldc (v := (-50000)) hx hb CX.1.2.2.2.1 (x_hts CX wc_X7_76) dX7_warm_9 ?_
    refine lv_ldc (v := 50000) hx hb CX.1.2.2.2.1 (x_hts CX wc_X7_77) dX7_warm_11 ?_
    obtain ⟨q3, eq3, h⟩ := bd_h h
    refine x_callS (As := [.int x2, .int (-50000), .int 50000]) CX hM lk_X7_35 (c_X7_in l E B  eq3) ⟨rfl, rfl, by decide, by decide⟩ rfl hl.1 rfl (Nat.le_of_ble_eq_true rfl) dX7_warm_13 (fun H locs hM => ?_)
    refine W.eq (g2 := F0 m 16 ls [.int (bz q3.1)]) rfl ?_
    refine lv_if_ne (tgt := 22) hx hb dX7_warm_16 (by decide) (fun c4 => ?_) (fun c4 => ?_)
    · replace h := if_h c4 h
      refine lv_ldc2 (v := 200) hx hb CX.1.2.2.2.1 (x_hts CX wc_X7_78) dX7_warm_22 ?_
      refine lv_aload_n hx hb dX7_warm_25 rfl (lv_at hl 0 rfl) ?_
      refine lv_iload_n hx hb dX7_warm_26 rfl (lv_at hl 1 rfl) ?_
      refine lv_iconst (v := 0) hx hb dX7_warm_27 (by decide) ?_
      obtain ⟨q5, eq5, h⟩ := bd_h h
      refine x_callV (As := [.int x1, .int 0]) CX hM (kdYl hk_k rfl) (ly7 hk_k _) rfl lk_X7_39 (c_X7_of l E B hk_k eq5) ⟨rfl, rfl, by decide, by decide⟩ rfl hl.1 rfl (Nat.le_of_ble_eq_true rfl) dX7_warm_28 (fun H locs hM => ?_)
      refine W.eq (g2 := F0 m 31 ls [.int q5.1, .long 200]) rfl ?_
      refine lv_i2l hx hb dX7_warm_31 rfl ?_
      refine lv_lmul hx hb dX7_warm_32 ?_
      refine lv_topl (fun j3_6 ej3_6 => ?_)
      replace h := nm_h ej3_6 h
      refine lv_lstore_n (lv' := [(3, .long j3_6), (0, .ref (B + k)), (1, .int x1), (2, .int x2)]) hx hb dX7_warm_33 rfl hl (by decide) rfl (fun ls hl => ?_)
      refine lv_aload_n hx hb dX7_warm_34 rfl (lv_at hl 1 rfl) ?_
      refine lv_iload_n hx hb dX7_warm_35 rfl (lv_at hl 2 rfl) ?_
      refine lv_iconst (v := 1) hx hb dX7_warm_36 (by decide) ?_
      obtain ⟨q7, eq7, h⟩ := bd_h h
      refine x_callV (As := [.int x1, .int 1]) CX hM (kdYl hk_k rfl) (ly7 hk_k _) rfl lk_X7_39 (c_X7_of l E B hk_k eq7) ⟨rfl, rfl, by decide, by decide⟩ rfl hl.1 rfl (Nat.le_of_ble_eq_true rfl) dX7_warm_37 (fun H locs hM => ?_)
      refine W.eq (g2 := F0 m 40 ls [.int q7.1]) rfl ?_
      refine lv_i2l hx hb dX7_warm_40 rfl ?_
      refine lv_iload_n hx hb dX7_warm_41 rfl (lv_at hl 3 rfl) ?_
      refine lv_i2l hx hb dX7_warm_42 rfl ?_
      refine lv_ladd hx hb dX7_warm_43 ?_
      refine lv_topl (fun j5_8 ej5_8 => ?_)
      replace h := nm_h ej5_8 h
      refine lv_lstore (lv' := [(5, .long j5_8), (3, .long j3_6), (0, .ref (B + k)), (1, .int x1), (2, .int x2)]) hx hb dX7_warm_44 hl (by decide) rfl (fun ls hl => ?_)
      refine lv_lload hx hb dX7_warm_46 (lv_at hl 0 rfl) ?_
      refine lv_lload_n hx hb dX7_warm_48 rfl (lv_at hl 1 rfl) ?_
      refine lv_lneg hx hb dX7_warm_49 ?_
      refine W.lcmp hx hb dX7_warm_50 ?_
      refine lv_if_lt (tgt := 78) hx hb dX7_warm_51 (by decide) (fun c9 => ?_) (fun c9 => ?_)
      · replace h := it_h c9 h
        refine lv_ldc (v := (-1000002)) hx hb CX.1.2.2.2.1 (x_hts CX wc_X7_34) dX7_warm_78 ?_
        obtain rfl := Option.some.inj h
        exact x_iret CX hr hlk hM rfl dX7_warm_80
      · replace h := if_h c9 h
        refine lv_lload hx hb dX7_warm_54 (lv_at hl 0 rfl) ?_
        refine lv_lload_n hx hb dX7_warm_56 rfl (lv_at hl 1 rfl) ?_
        refine W.lcmp hx hb dX7_warm_57 ?_
        refine lv_if_lt (tgt := 81) hx hb dX7_warm_58 (by decide) (fun c10 => ?_) (fun c10 => ?_)
        · replace h := it_h c10 h
          exact J81 _ _ _  _ _ _ hM (lv_sub hl [2, 3, 4] rfl) h
        · replace h := if_h c10 h
          refine lv_lload hx hb dX7_warm_61 (lv_at hl 0 rfl) ?_
          refine lv_l2i hx hb dX7_warm_63 rfl ?_
          refine lv_aload_n hx hb dX7_warm_64 rfl (lv_at hl 2 rfl) ?_
          refine lv_iload_n hx hb dX7_warm_65 rfl (lv_at hl 3 rfl) ?_
          refine lv_iconst (v := 0) hx hb dX7_warm_66 (by decide) ?_
          obtain ⟨q15, eq15, h⟩ := bd_h h
          refine x_callV (As := [.int x1, .int 0]) CX hM (kdYl hk_k rfl) (ly7 hk_k _) rfl lk_X7_39 (c_X7_of l E B hk_k eq15) ⟨rfl, rfl, by decide, by decide⟩ rfl hl.1 rfl (Nat.le_of_ble_eq_true rfl) dX7_warm_67 (fun H locs hM => ?_)
          refine W.eq (g2 := F0 m 70 ls [.int q15.1, .int ((j5_8).toInt32)]) rfl ?_
          obtain ⟨q16, eq16, h⟩ := bd_h h
          refine x_callS (As := [.int ((j5_8).toInt32), .int q15.1]) CX hM lk_X7_43 (c_X7_degrees l E B  eq16) ⟨rfl, rfl, by decide, by decide⟩ rfl hl.1 rfl (Nat.le_of_ble_eq_true rfl) dX7_warm_70 (fun H locs hM => ?_)
          refine W.eq (g2 := F0 m 73 ls [.int q16.1]) rfl ?_
          refine lv_ldc (v := 200000) hx hb CX.1.2.2.2.1 (x_hts CX wc_X7_80) dX7_warm_73 ?_
          refine lv_icmp_le (tgt := 81) hx hb dX7_warm_75 (by decide) (fun c17 => ?_) (fun c17 => ?_)
          · replace h := it_h c17 h
            exact J81 _ _ _  _ _ _ hM (lv_sub hl [2, 3, 4] rfl) h
          · replace h := if_h c17 h
            refine lv_ldc (v := (-1000002)) hx hb CX.1.2.2.2.1 (x_hts CX wc_X7_34) dX7_warm_78 ?_
            obtain rfl := Option.some.inj h
            exact x_iret CX hr hlk hM rfl dX7_warm_80
    · replace h := it_h c4 h
      refine lv_ldc (v := (-1000001)) hx hb CX.1.2.2.2.1 (x_hts CX wc_X7_46) dX7_warm_19 ?_
      obtain rfl := Option.some.inj h
      exact x_iret CX hr hlk hM rfl dX7_warm_21
def rm_X7_service : Jvm.Room := { frames := 2, cells := 0, slots := 0, locals := 43 }
set_option maxHeartbeats 4000000 in
set_option maxRecDepth 100000 in
theorem c_X7_service (l : Launch) (E : xE) (B : Nat) {k : Nat} {x1 : Int32} {σ : xM} {q : Int32 × xM} (hk_k : kdY k = 7) (h : F_X7_service k x1 σ = some q) : Met l yX7_service (Cond.code yX7_service cX7_service 3 (some .int) :: AL) rm_X7_service (xP E B 7 (layY E B) [.ref (B + k), .int x1] σ) (xQ E B 7 (layY E B) (some (.int q.1)) q.2) 0 0 (wA B 7) := by
  refine x_met (plainFor_of_name (by decide +kernel)) (Nat.le_of_ble_eq_true rfl) rfl ?_
  intro p e s m below meth c ls CX hr hlk hM hl
  have hx := CX.1.1
  have hb := CX.1.2.1
  unfold F_X7_service at h
  refine lv_aload_n hx hb dX7_service_0 rfl (lv_at hl 0 rfl) ?_
  refine lv_iload_n hx hb dX7_service_1 rfl (lv_at hl 1 rfl) ?_
  obtain ⟨q1, eq1, h⟩ := bd_h h
  refine x_callV (As := [.int x1]) CX hM (kdYl hk_k rfl) (ly7 hk_k _) rfl lk_X7_56 (c_X7_isRoom l E B hk_k eq1) ⟨rfl, rfl, by decide, by decide⟩ rfl hl.1 rfl (Nat.le_of_ble_eq_true rfl) dX7_service_2 (fun H locs hM => ?_)
  refine W.eq (g2 := F0 m 5 ls [.int (bz q1.1)]) rfl ?_
  refine lv_if_ne (tgt := 11) hx hb dX7_service_5 (by decide) (fun c2 => ?_) (fun c2 => ?_)
  · replace h := if_h c2 h
    refine lv_aload_n hx hb dX7_service_11 rfl (lv_at hl 0 rfl) ?_
    obtain ⟨q3, eq3, h⟩ := bd_h h
    refine x_callV (As := []) CX hM (kdYl hk_k rfl) (ly7 hk_k _) rfl lk_X7_48 (c_X7_notes l E B hk_k eq3) ⟨rfl, rfl, by decide, by decide⟩ rfl hl.1 rfl (Nat.le_of_ble_eq_true rfl) dX7_service_12 (fun H locs hM => ?_)
    refine W.eq (g2 := F0 m 15 ls []) rfl ?_
    refine lv_aload_n hx hb dX7_service_15 rfl (lv_at hl 0 rfl) ?_
    refine lv_iload_n hx hb dX7_service_16 rfl (lv_at hl 1 rfl) ?_
    refine lv_bipush (v := 9) hx hb dX7_service_17 (by decide) ?_
    obtain ⟨q4, eq4, h⟩ := bd_h h
    refine x_callV (As := [.int x1, .int 9]) CX hM (kdYl hk_k rfl) (ly7 hk_k _) rfl lk_X7_39 (c_X7_of l E B hk_k eq4) ⟨rfl, rfl, by decide, by decide⟩ rfl hl.1 rfl (Nat.le_of_ble_eq_true rfl) dX7_service_19 (fun H locs hM => ?_)
    refine W.eq (g2 := F0 m 22 ls [.int q4.1]) rfl ?_
    refine lv_istore_n (lv' := [(2, .int q4.1), (0, .ref (B + k)), (1, .int x1)]) hx hb dX7_service_22 rfl hl (by decide) rfl (fun ls hl => ?_)
    refine lv_aload_n hx hb dX7_service_23 rfl (lv_at hl 1 rfl) ?_
    refine lv_iload_n hx hb dX7_service_24 rfl (lv_at hl 2 rfl) ?_
    refine lv_bipush (v := 9) hx hb dX7_service_25 (by decide) ?_
    refine lv_iconst (v := 0) hx hb dX7_service_27 (by decide) ?_
    obtain ⟨q5, eq5, h⟩ := bd_h h
    refine x_callV (As := [.int x1, .int 9, .int 0]) CX hM (kdYl hk_k rfl) (ly7 hk_k _) rfl lk_X7_51 (c_X7_puts l E B hk_k eq5) ⟨rfl, rfl, by decide, by decide⟩ rfl hl.1 rfl (Nat.le_of_ble_eq_true rfl) dX7_service_28 (fun H locs hM => ?_)
    refine W.eq (g2 := F0 m 31 ls []) rfl ?_
    refine lv_aload_n hx hb dX7_service_31 rfl (lv_at hl 1 rfl) ?_
    refine lv_iload_n hx hb dX7_service_32 rfl (lv_at hl 2 rfl) ?_
    refine lv_bipush (v := 10) hx hb dX7_service_33 (by decide) ?_
    refine lv_iconst (v := 0) hx hb dX7_service_35 (by decide) ?_
    obtain ⟨q6, eq6, h⟩ := bd_h h
    refine x_callV (As := [.int x1, .int 10, .int 0]) CX hM (kdYl hk_k rfl) (ly7 hk_k _) rfl lk_X7_51 (c_X7_puts l E B hk_k eq6) ⟨rfl, rfl, by decide, by decide⟩ rfl hl.1 rfl (Nat.le_of_ble_eq_true rfl) dX7_service_36 (fun H locs hM => ?_)
    refine W.eq (g2 := F0 m 39 ls []) rfl ?_
    refine lv_aload_n hx hb dX7_service_39 rfl (lv_at hl 1 rfl) ?_
    refine lv_iload_n hx hb dX7_service_40 rfl (lv_at hl 2 rfl) ?_
    refine lv_bipush (v := 8) hx hb dX7_service_41 (by decide) ?_
    refine lv_iconst (v := 0) hx hb dX7_service_43 (by decide) ?_
    obtain ⟨q7, eq7, h⟩ := bd_h h
    refine x_callV (As := [.int x1, .int 8, .int 0]) CX hM (kdYl hk_k rfl) (ly7 hk_k _) rfl lk_X7_51 (c_X7_puts l E B hk_k eq7) ⟨rfl, rfl, by decide, by decide⟩ rfl hl.1 rfl (Nat.le_of_ble_eq_true rfl) dX7_service_44 (fun H locs hM => ?_)
    refine W.eq (g2 := F0 m 47 ls []) rfl ?_
    refine lv_aload_n hx hb dX7_service_47 rfl (lv_at hl 1 rfl) ?_
    refine lv_iload_n hx hb dX7_service_48 rfl (lv_at hl 2 rfl) ?_
    refine lv_bipush (v := 7) hx hb dX7_service_49 (by decide) ?_
    refine lv_iconst (v := 0) hx hb dX7_service_51 (by decide) ?_
    obtain ⟨q8, eq8, h⟩ := bd_h h
    refine x_callV (As := [.int x1, .int 7, .int 0]) CX hM (kdYl hk_k rfl) (ly7 hk_k _) rfl lk_X7_51 (c_X7_puts l E B hk_k eq8) ⟨rfl, rfl, by decide, by decide⟩ rfl hl.1 rfl (Nat.le_of_ble_eq_true rfl) dX7_service_52 (fun H locs hM => ?_)
    refine W.eq (g2 := F0 m 55 ls []) rfl ?_
    refine lv_iload_n hx hb dX7_service_55 rfl (lv_at hl 0 rfl) ?_
    obtain rfl := Option.some.inj h
    exact x_iret CX hr hlk hM rfl dX7_service_56
  · replace h := it_h c2 h
    refine lv_ldc (v := (-1000001)) hx hb CX.1.2.2.2.1 (x_hts CX wc_X7_46) dX7_service_8 ?_
    obtain rfl := Option.some.inj h
    exact x_iret CX hr hlk hM rfl dX7_service_10
def rm_X7_resetCutout : Jvm.Room := { frames := 2, cells := 0, slots := 0, locals := 43 }
set_option maxHeartbeats 4000000 in
set_option maxRecDepth 100000 in
theorem c_X7_resetCutout (l : Launch) (E : xE) (B : Nat) {k : Nat} {x1 : Int32} {σ : xM} {q : Int32 × xM} (hk_k : kdY k = 7) (h : F_X7_resetCutout k x1 σ = some q) : Met l yX7_resetCutout (Cond.code yX7_resetCutout cX7_resetCutout 2 (some .int) :: AL) rm_X7_resetCutout (xP E B 7 (layY E B) [.ref (B + k), .int x1] σ) (xQ E B 7 (layY E B) (some (.int q.1)) q.2) 0 0 (wA B 7) := by
  refine x_met (plainFor_of_name (by decide +kernel)) (Nat.le_of_ble_eq_true rfl) rfl ?_
  intro p e s m below meth c ls CX hr hlk hM hl
  have hx := CX.1.1
  have hb := CX.1.2.1
  unfold F_X7_resetCutout at h
  refine lv_aload_n hx hb dX7_resetCutout_0 rfl (lv_at hl 0 rfl) ?_
  refine lv_iload_n hx hb dX7_resetCutout_1 rfl (lv_at hl 1 rfl) ?_
  obtain ⟨q1, eq1, h⟩ := bd_h h
  refine x_callV (As := [.int x1]) CX hM (kdYl hk_k rfl) (ly7 hk_k _) rfl lk_X7_56 (c_X7_isRoom l E B hk_k eq1) ⟨rfl, rfl, by decide, by decide⟩ rfl hl.1 rfl (Nat.le_of_ble_eq_true rfl) dX7_resetCutout_2 (fun H locs hM => ?_)
  refine W.eq (g2 := F0 m 5 ls [.int (bz q1.1)]) rfl ?_
  refine lv_if_ne (tgt := 11) hx hb dX7_resetCutout_5 (by decide) (fun c2 => ?_) (fun c2 => ?_)
  · replace h := if_h c2 h
    refine lv_aload_n hx hb dX7_resetCutout_11 rfl (lv_at hl 0 rfl) ?_
    refine lv_iload_n hx hb dX7_resetCutout_12 rfl (lv_at hl 1 rfl) ?_
    refine lv_bipush (v := 14) hx hb dX7_resetCutout_13 (by decide) ?_
    obtain ⟨q3, eq3, h⟩ := bd_h h
    refine x_callV (As := [.int x1, .int 14]) CX hM (kdYl hk_k rfl) (ly7 hk_k _) rfl lk_X7_39 (c_X7_of l E B hk_k eq3) ⟨rfl, rfl, by decide, by decide⟩ rfl hl.1 rfl (Nat.le_of_ble_eq_true rfl) dX7_resetCutout_15 (fun H locs hM => ?_)
    refine W.eq (g2 := F0 m 18 ls [.int q3.1]) rfl ?_
    refine lv_if_eq (tgt := 35) hx hb dX7_resetCutout_18 (by decide) (fun c4 => ?_) (fun c4 => ?_)
    · replace h := it_h c4 h
      refine lv_ldc (v := (-1000002)) hx hb CX.1.2.2.2.1 (x_hts CX wc_X7_34) dX7_resetCutout_35 ?_
      obtain rfl := Option.some.inj h
      exact x_iret CX hr hlk hM rfl dX7_resetCutout_37
    · replace h := if_h c4 h
      refine lv_aload_n hx hb dX7_resetCutout_21 rfl (lv_at hl 0 rfl) ?_
      refine lv_iload_n hx hb dX7_resetCutout_22 rfl (lv_at hl 1 rfl) ?_
      obtain ⟨q5, eq5, h⟩ := bd_h h
      refine x_callV (As := [.int x1]) CX hM (kdYl hk_k rfl) (ly7 hk_k _) rfl lk_X7_84 (c_X7_temperature l E B hk_k eq5) ⟨rfl, rfl, by decide, by decide⟩ rfl hl.1 rfl (Nat.le_of_ble_eq_true rfl) dX7_resetCutout_23 (fun H locs hM => ?_)
      refine W.eq (g2 := F0 m 26 ls [.int q5.1]) rfl ?_
      refine lv_aload_n hx hb dX7_resetCutout_26 rfl (lv_at hl 0 rfl) ?_
      refine g7_0 CX hM hk_k wf_X7_7 dX7_resetCutout_27 ?_
      refine lv_iconst (v := 5) hx hb dX7_resetCutout_30 (by decide) ?_
      obtain ⟨g6, h⟩ := ck_h h
      refine x_iald CX hM (kdYl (kd7_f hk_k).1 rfl) (ly20 (kd7_f hk_k).1 _) g6 dX7_resetCutout_31 ?_
      refine lv_icmp_le (tgt := 38) hx hb dX7_resetCutout_32 (by decide) (fun c7 => ?_) (fun c7 => ?_)
      · replace h := it_h c7 h
        refine lv_aload_n hx hb dX7_resetCutout_38 rfl (lv_at hl 0 rfl) ?_
        obtain ⟨q8, eq8, h⟩ := bd_h h
        refine x_callV (As := []) CX hM (kdYl hk_k rfl) (ly7 hk_k _) rfl lk_X7_48 (c_X7_notes l E B hk_k eq8) ⟨rfl, rfl, by decide, by decide⟩ rfl hl.1 rfl (Nat.le_of_ble_eq_true rfl) dX7_resetCutout_39 (fun H locs hM => ?_)
        refine W.eq (g2 := F0 m 42 ls []) rfl ?_
        refine lv_aload_n hx hb dX7_resetCutout_42 rfl (lv_at hl 0 rfl) ?_
        refine lv_iload_n hx hb dX7_resetCutout_43 rfl (lv_at hl 1 rfl) ?_
        refine lv_bipush (v := 14) hx hb dX7_resetCutout_44 (by decide) ?_
        refine lv_iconst (v := 0) hx hb dX7_resetCutout_46 (by decide) ?_
        obtain ⟨q9, eq9, h⟩ := bd_h h
        refine x_callV (As := [.int x1, .int 14, .int 0]) CX hM (kdYl hk_k rfl) (ly7 hk_k _) rfl lk_X7_51 (c_X7_puts l E B hk_k eq9) ⟨rfl, rfl, by decide, by decide⟩ rfl hl.1 rfl (Nat.le_of_ble_eq_true rfl) dX7_resetCutout_47 (fun H locs hM => ?_)
        refine W.eq (g2 := F0 m 50 ls []) rfl ?_
        refine lv_aload_n hx hb dX7_resetCutout_50 rfl (lv_at hl 0 rfl) ?_
        refine lv_iload_n hx hb dX7_resetCutout_51 rfl (lv_at hl 1 rfl) ?_
        obtain ⟨q10, eq10, h⟩ := bd_h h
        refine x_callV (As := [.int x1]) CX hM (kdYl hk_k rfl) (ly7 hk_k _) rfl lk_X7_84 (c_X7_temperature l E B hk_k eq10) ⟨rfl, rfl, by decide, by decide⟩ rfl hl.1 rfl (Nat.le_of_ble_eq_true rfl) dX7_resetCutout_52 (fun H locs hM => ?_)
        refine W.eq (g2 := F0 m 55 ls [.int q10.1]) rfl ?_
        obtain rfl := Option.some.inj h
        exact x_iret CX hr hlk hM rfl dX7_resetCutout_55
      · replace h := if_h c7 h
        refine lv_ldc (v := (-1000002)) hx hb CX.1.2.2.2.1 (x_hts CX wc_X7_34) dX7_resetCutout_35 ?_
        obtain rfl := Option.some.inj h
        exact x_iret CX hr hlk hM rfl dX7_resetCutout_37
  · replace h := it_h c2 h
    refine lv_ldc (v := (-1000001)) hx hb CX.1.2.2.2.1 (x_hts CX wc_X7_46) dX7_resetCutout_8 ?_
    obtain rfl := Option.some.inj h
    exact x_iret CX hr hlk hM rfl dX7_resetCutout_10
def rm_X7_room : Jvm.Room := { frames := 2, cells := 0, slots := 0, locals := 43 }
set_option maxHeartbeats 4000000 in
set_option maxRecDepth 100000 in
theorem c_X7_room (l : Launch) (E : xE) (B : Nat) {k : Nat} {x1 : Int32} {x2 : Int32} {σ : xM} {q : Int32 × xM} (hk_k : kdY k = 7) (h : F_X7_room k x1 x2 σ = some q) : Met l yX7_room (Cond.code yX7_room cX7_room 3 (some .int) :: AL) rm_X7_room (xP E B 7 (layY E B) [.ref (B + k), .int x1, .int x2] σ) (xQ E B 7 (layY E B) (some (.int q.1)) q.2) 0 0 (wA B 7) := by
  refine x_met (plainFor_of_name (by decide +kernel)) (Nat.le_of_ble_eq_true rfl) rfl ?_
  intro p e s m below meth c ls CX hr hlk hM hl
  have hx := CX.1.1
  have hb := CX.1.2.1
  unfold F_X7_room at h
  refine lv_aload_n hx hb dX7_room_0 rfl (lv_at hl 0 rfl) ?_
  refine lv_iload_n hx hb dX7_room_1 rfl (lv_at hl 1 rfl) ?_
  obtain ⟨q1, eq1, h⟩ := bd_h h
  refine x_callV (As := [.int x1]) CX hM (kdYl hk_k rfl) (ly7 hk_k _) rfl lk_X7_56 (c_X7_isRoom l E B hk_k eq1) ⟨rfl, rfl, by decide, by decide⟩ rfl hl.1 rfl (Nat.le_of_ble_eq_true rfl) dX7_room_2 (fun H locs hM => ?_)
  refine W.eq (g2 := F0 m 5 ls [.int (bz q1.1)]) rfl ?_
  refine lv_if_eq (tgt := 18) hx hb dX7_room_5 (by decide) (fun c2 => ?_) (fun c2 => ?_)
  · replace h := it_h c2 h
    refine lv_ldc (v := (-1000001)) hx hb CX.1.2.2.2.1 (x_hts CX wc_X7_46) dX7_room_18 ?_
    obtain rfl := Option.some.inj h
    exact x_iret CX hr hlk hM rfl dX7_room_20
  · replace h := if_h c2 h
    refine lv_iload_n hx hb dX7_room_8 rfl (lv_at hl 2 rfl) ?_
    refine lv_iconst (v := 0) hx hb dX7_room_9 (by decide) ?_
    refine lv_bipush (v := 13) hx hb dX7_room_10 (by decide) ?_
    obtain ⟨q3, eq3, h⟩ := bd_h h
    refine x_callS (As := [.int x2, .int 0, .int 13]) CX hM lk_X7_35 (c_X7_in l E B  eq3) ⟨rfl, rfl, by decide, by decide⟩ rfl hl.1 rfl (Nat.le_of_ble_eq_true rfl) dX7_room_12 (fun H locs hM => ?_)
    refine W.eq (g2 := F0 m 15 ls [.int (bz q3.1)]) rfl ?_
    refine lv_if_ne (tgt := 21) hx hb dX7_room_15 (by decide) (fun c4 => ?_) (fun c4 => ?_)
    · replace h := if_h c4 h
      refine lv_iload_n hx hb dX7_room_21 rfl (lv_at hl 2 rfl) ?_
      by_cases c5 : x2 = 0
      · replace h := it_h c5 h
        refine lv_lookup (off := 42) (tgt := 64) hx hb dX7_room_22 (by decide) (by rw [c5]; decide) (by decide) ?_
        refine lv_aload_n hx hb dX7_room_64 rfl (lv_at hl 0 rfl) ?_
        refine lv_iload_n hx hb dX7_room_65 rfl (lv_at hl 1 rfl) ?_
        obtain ⟨q6, eq6, h⟩ := bd_h h
        refine x_callV (As := [.int x1]) CX hM (kdYl hk_k rfl) (ly7 hk_k _) rfl lk_X7_84 (c_X7_temperature l E B hk_k eq6) ⟨rfl, rfl, by decide, by decide⟩ rfl hl.1 rfl (Nat.le_of_ble_eq_true rfl) dX7_room_66 (fun H locs hM => ?_)
        refine W.eq (g2 := F0 m 69 ls [.int q6.1]) rfl ?_
        obtain rfl := Option.some.inj h
        exact x_iret CX hr hlk hM rfl dX7_room_69
      · replace h := if_h c5 h
        by_cases c7 : x2 = 1
        · replace h := it_h c7 h
          refine lv_lookup (off := 48) (tgt := 70) hx hb dX7_room_22 (by decide) (by rw [c7]; decide) (by decide) ?_
          refine lv_aload_n hx hb dX7_room_70 rfl (lv_at hl 0 rfl) ?_
          refine lv_iload_n hx hb dX7_room_71 rfl (lv_at hl 1 rfl) ?_
          refine lv_iconst (v := 1) hx hb dX7_room_72 (by decide) ?_
          obtain ⟨q8, eq8, h⟩ := bd_h h
          refine x_callV (As := [.int x1, .int 1]) CX hM (kdYl hk_k rfl) (ly7 hk_k _) rfl lk_X7_39 (c_X7_of l E B hk_k eq8) ⟨rfl, rfl, by decide, by decide⟩ rfl hl.1 rfl (Nat.le_of_ble_eq_true rfl) dX7_room_73 (fun H locs hM => ?_)
          refine W.eq (g2 := F0 m 76 ls [.int q8.1]) rfl ?_
          obtain rfl := Option.some.inj h
          exact x_iret CX hr hlk hM rfl dX7_room_76
        · replace h := if_h c7 h
          by_cases c9 : x2 = 12
          · replace h := it_h c9 h
            refine lv_lookup (off := 55) (tgt := 77) hx hb dX7_room_22 (by decide) (by rw [c9]; decide) (by decide) ?_
            refine lv_aload_n hx hb dX7_room_77 rfl (lv_at hl 0 rfl) ?_
            refine lv_iload_n hx hb dX7_room_78 rfl (lv_at hl 1 rfl) ?_
            refine lv_iconst (v := 4) hx hb dX7_room_79 (by decide) ?_
            obtain ⟨q10, eq10, h⟩ := bd_h h
            refine x_callV (As := [.int x1, .int 4]) CX hM (kdYl hk_k rfl) (ly7 hk_k _) rfl lk_X7_39 (c_X7_of l E B hk_k eq10) ⟨rfl, rfl, by decide, by decide⟩ rfl hl.1 rfl (Nat.le_of_ble_eq_true rfl) dX7_room_80 (fun H locs hM => ?_)
            refine W.eq (g2 := F0 m 83 ls [.int q10.1]) rfl ?_
            obtain rfl := Option.some.inj h
            exact x_iret CX hr hlk hM rfl dX7_room_83
          · replace h := if_h c9 h
            by_cases c11 : x2 = 13
            · replace h := it_h c11 h
              refine lv_lookup (off := 62) (tgt := 84) hx hb dX7_room_22 (by decide) (by rw [c11]; decide) (by decide) ?_
              refine lv_aload_n hx hb dX7_room_84 rfl (lv_at hl 0 rfl) ?_
              refine lv_iload_n hx hb dX7_room_85 rfl (lv_at hl 1 rfl) ?_
              refine lv_iconst (v := 5) hx hb dX7_room_86 (by decide) ?_
              obtain ⟨q12, eq12, h⟩ := bd_h h
              refine x_callV (As := [.int x1, .int 5]) CX hM (kdYl hk_k rfl) (ly7 hk_k _) rfl lk_X7_39 (c_X7_of l E B hk_k eq12) ⟨rfl, rfl, by decide, by decide⟩ rfl hl.1 rfl (Nat.le_of_ble_eq_true rfl) dX7_room_87 (fun H locs hM => ?_)
              refine W.eq (g2 := F0 m 90 ls [.int q12.1]) rfl ?_
              obtain rfl := Option.some.inj h
              exact x_iret CX hr hlk hM rfl dX7_room_90
            · replace h := if_h c11 h
              refine lv_lookup (off := 69) (tgt := 91) hx hb dX7_room_22 (by decide) (lsw_out [0, 1, 12, 13] [(0, 42), (1, 48), (12, 55), (13, 62)] (by decide) (List.forall_mem_cons.mpr ⟨c5, (List.forall_mem_cons.mpr ⟨c7, (List.forall_mem_cons.mpr ⟨c9, (List.forall_mem_cons.mpr ⟨c11, (fun _ h => absurd h List.not_mem_nil)⟩)⟩)⟩)⟩)) (by decide) ?_
              refine lv_aload_n hx hb dX7_room_91 rfl (lv_at hl 0 rfl) ?_
              refine lv_iload_n hx hb dX7_room_92 rfl (lv_at hl 1 rfl) ?_
              refine lv_bipush (v := 6) hx hb dX7_room_93 (by decide) ?_
              refine lv_iload_n hx hb dX7_room_95 rfl (lv_at hl 2 rfl) ?_
              refine lv_iadd hx hb dX7_room_96 ?_
              refine lv_iconst (v := 2) hx hb dX7_room_97 (by decide) ?_
              refine lv_isub hx hb dX7_room_98 ?_
              obtain ⟨q13, eq13, h⟩ := bd_h h
              refine x_callV (As := [.int x1, .int ((6 + x2) - 2)]) CX hM (kdYl hk_k rfl) (ly7 hk_k _) rfl lk_X7_39 (c_X7_of l E B hk_k eq13) ⟨rfl, rfl, by decide, by decide⟩ rfl hl.1 rfl (Nat.le_of_ble_eq_true rfl) dX7_room_99 (fun H locs hM => ?_)
              refine W.eq (g2 := F0 m 102 ls [.int q13.1]) rfl ?_
              obtain rfl := Option.some.inj h
              exact x_iret CX hr hlk hM rfl dX7_room_102
    · replace h := it_h c4 h
      refine lv_ldc (v := (-1000001)) hx hb CX.1.2.2.2.1 (x_hts CX wc_X7_46) dX7_room_18 ?_
      obtain rfl := Option.some.inj h
      exact x_iret CX hr hlk hM rfl dX7_room_20
def rm_X7_book : Jvm.Room := { frames := 2, cells := 0, slots := 0, locals := 43 }
set_option maxHeartbeats 4000000 in
set_option maxRecDepth 100000 in
theorem c_X7_book (l : Launch) (E : xE) (B : Nat) {k : Nat} {x1 : Int32} {x2 : Int32} {σ : xM} {q : Int32 × xM} (hk_k : kdY k = 7) (h : F_X7_book k x1 x2 σ = some q) : Met l yX7_book (Cond.code yX7_book cX7_book 3 (some .int) :: AL) rm_X7_book (xP E B 7 (layY E B) [.ref (B + k), .int x1, .int x2] σ) (xQ E B 7 (layY E B) (some (.int q.1)) q.2) 0 0 (wA B 7) := by
  refine x_met (plainFor_of_name (by decide +kernel)) (Nat.le_of_ble_eq_true rfl) rfl ?_
  intro p e s m below meth c ls CX hr hlk hM hl
  have hx := CX.1.1
  have hb := CX.1.2.1
  unfold F_X7_book at h
  refine lv_aload_n hx hb dX7_book_0 rfl (lv_at hl 0 rfl) ?_
  refine lv_iload_n hx hb dX7_book_1 rfl (lv_at hl 1 rfl) ?_
  obtain ⟨q1, eq1, h⟩ := bd_h h
  refine x_callV (As := [.int x1]) CX hM (kdYl hk_k rfl) (ly7 hk_k _) rfl lk_X7_56 (c_X7_isRoom l E B hk_k eq1) ⟨rfl, rfl, by decide, by decide⟩ rfl hl.1 rfl (Nat.le_of_ble_eq_true rfl) dX7_book_2 (fun H locs hM => ?_)
  refine W.eq (g2 := F0 m 5 ls [.int (bz q1.1)]) rfl ?_
  refine lv_if_eq (tgt := 17) hx hb dX7_book_5 (by decide) (fun c2 => ?_) (fun c2 => ?_)
  · replace h := it_h c2 h
    refine lv_ldc (v := (-1000001)) hx hb CX.1.2.2.2.1 (x_hts CX wc_X7_46) dX7_book_17 ?_
    refine lv_goto (tgt := 31) hx hb dX7_book_19 (by decide) ?_
    obtain rfl := Option.some.inj h
    exact x_iret CX hr hlk hM rfl dX7_book_31
  · replace h := if_h c2 h
    refine lv_iload_n hx hb dX7_book_8 rfl (lv_at hl 2 rfl) ?_
    refine lv_iconst (v := 0) hx hb dX7_book_9 (by decide) ?_
    refine lv_iconst (v := 4) hx hb dX7_book_10 (by decide) ?_
    obtain ⟨q3, eq3, h⟩ := bd_h h
    refine x_callS (As := [.int x2, .int 0, .int 4]) CX hM lk_X7_35 (c_X7_in l E B  eq3) ⟨rfl, rfl, by decide, by decide⟩ rfl hl.1 rfl (Nat.le_of_ble_eq_true rfl) dX7_book_11 (fun H locs hM => ?_)
    refine W.eq (g2 := F0 m 14 ls [.int (bz q3.1)]) rfl ?_
    refine lv_if_ne (tgt := 22) hx hb dX7_book_14 (by decide) (fun c4 => ?_) (fun c4 => ?_)
    · replace h := if_h c4 h
      refine lv_aload_n hx hb dX7_book_22 rfl (lv_at hl 0 rfl) ?_
      refine lv_iload_n hx hb dX7_book_23 rfl (lv_at hl 1 rfl) ?_
      refine lv_bipush (v := 16) hx hb dX7_book_24 (by decide) ?_
      refine lv_iload_n hx hb dX7_book_26 rfl (lv_at hl 2 rfl) ?_
      refine lv_iadd hx hb dX7_book_27 ?_
      obtain ⟨q5, eq5, h⟩ := bd_h h
      refine x_callV (As := [.int x1, .int (16 + x2)]) CX hM (kdYl hk_k rfl) (ly7 hk_k _) rfl lk_X7_39 (c_X7_of l E B hk_k eq5) ⟨rfl, rfl, by decide, by decide⟩ rfl hl.1 rfl (Nat.le_of_ble_eq_true rfl) dX7_book_28 (fun H locs hM => ?_)
      refine W.eq (g2 := F0 m 31 ls [.int q5.1]) rfl ?_
      obtain rfl := Option.some.inj h
      exact x_iret CX hr hlk hM rfl dX7_book_31
    · replace h := it_h c4 h
      refine lv_ldc (v := (-1000001)) hx hb CX.1.2.2.2.1 (x_hts CX wc_X7_46) dX7_book_17 ?_
      refine lv_goto (tgt := 31) hx hb dX7_book_19 (by decide) ?_
      obtain rfl := Option.some.inj h
      exact x_iret CX hr hlk hM rfl dX7_book_31
def rm_X7_isSuspect : Jvm.Room := { frames := 1, cells := 0, slots := 0, locals := 22 }
set_option maxHeartbeats 4000000 in
set_option maxRecDepth 100000 in
theorem c_X7_isSuspect (l : Launch) (E : xE) (B : Nat) {k : Nat} {x1 : Int32} {σ : xM} {q : Int32 × xM} (hk_k : kdY k = 7) (h : F_X7_isSuspect k x1 σ = some q) : Met l yX7_isSuspect (Cond.code yX7_isSuspect cX7_isSuspect 2 (some .boolean) :: AL) rm_X7_isSuspect (xP E B 7 (layY E B) [.ref (B + k), .int x1] σ) (xQ E B 7 (layY E B) (some (.int (bz q.1))) q.2) 0 0 (wA B 7) := by
  refine x_met (plainFor_of_name (by decide +kernel)) (Nat.le_of_ble_eq_true rfl) rfl ?_
  intro p e s m below meth c ls CX hr hlk hM hl
  have hx := CX.1.1
  have hb := CX.1.2.1
  unfold F_X7_isSuspect at h
  refine lv_aload_n hx hb dX7_isSuspect_0 rfl (lv_at hl 0 rfl) ?_
  refine lv_iload_n hx hb dX7_isSuspect_1 rfl (lv_at hl 1 rfl) ?_
  refine lv_bipush (v := 13) hx hb dX7_isSuspect_2 (by decide) ?_
  obtain ⟨q1, eq1, h⟩ := bd_h h
  refine x_callV (As := [.int x1, .int 13]) CX hM (kdYl hk_k rfl) (ly7 hk_k _) rfl lk_X7_39 (c_X7_of l E B hk_k eq1) ⟨rfl, rfl, by decide, by decide⟩ rfl hl.1 rfl (Nat.le_of_ble_eq_true rfl) dX7_isSuspect_4 (fun H locs hM => ?_)
  refine W.eq (g2 := F0 m 7 ls [.int q1.1]) rfl ?_
  refine lv_aload_n hx hb dX7_isSuspect_7 rfl (lv_at hl 0 rfl) ?_
  refine g7_0 CX hM hk_k wf_X7_7 dX7_isSuspect_8 ?_
  refine lv_bipush (v := 6) hx hb dX7_isSuspect_11 (by decide) ?_
  obtain ⟨g2, h⟩ := ck_h h
  refine x_iald CX hM (kdYl (kd7_f hk_k).1 rfl) (ly20 (kd7_f hk_k).1 _) g2 dX7_isSuspect_13 ?_
  refine lv_icmp_lt (tgt := 21) hx hb dX7_isSuspect_14 (by decide) (fun c3 => ?_) (fun c3 => ?_)
  · replace h := it_h c3 h
    refine lv_iconst (v := 0) hx hb dX7_isSuspect_21 (by decide) ?_
    obtain rfl := Option.some.inj h
    exact x_zret (y := 0) CX hr hlk hM rfl rfl dX7_isSuspect_22
  · replace h := if_h c3 h
    refine lv_iconst (v := 1) hx hb dX7_isSuspect_17 (by decide) ?_
    refine lv_goto (tgt := 22) hx hb dX7_isSuspect_18 (by decide) ?_
    obtain rfl := Option.some.inj h
    exact x_zret (y := 1) CX hr hlk hM rfl rfl dX7_isSuspect_22
def rm_X7_count : Jvm.Room := { frames := 2, cells := 0, slots := 0, locals := 43 }
set_option maxHeartbeats 4000000 in
set_option maxRecDepth 100000 in
theorem c_X7_count (l : Launch) (E : xE) (B : Nat) {k : Nat} {x1 : Int32} {σ : xM} {q : Int32 × xM} (hk_k : kdY k = 7) (h : F_X7_count k x1 σ = some q) : Met l yX7_count (Cond.code yX7_count cX7_count 4 (some .int) :: AL) rm_X7_count (xP E B 7 (layY E B) [.ref (B + k), .int x1] σ) (xQ E B 7 (layY E B) (some (.int q.1)) q.2) 0 0 (wA B 7) := by
  refine x_met (plainFor_of_name (by decide +kernel)) (Nat.le_of_ble_eq_true rfl) rfl ?_
  intro p e s m below meth c ls CX hr hlk hM hl
  have hx := CX.1.1
  have hb := CX.1.2.1
  unfold F_X7_count at h
  have L34 : ∀ (N : Nat) (v2 : Int32) (v3 : Int32) (σ : xM), ∀ (H : Heap) (locs : List Loc) (ls : Array Slot), xS E B 7 (layY E B) s σ H locs → lv_has ls 4 [(0, .ref (B + k)), (2, .int v2), (3, .int v3)] → F_X7_count_L34 k N v2 v3 σ = some q → W p l e rm_X7_count s m ([.ref (B + k), .int x1] : List Value).toArray below meth c H locs 0 0 (MQ below (xQ E B 7 (layY E B) (some (.int q.1)) q.2) ([.ref (B + k), .int x1] : List Value).toArray s 0 0 (wA B 7)) (F0 m 34 ls []) := by
    clear hM hl h
    intro N
    induction N with
    | zero =>
      intro v2 v3 σ  H locs ls hM hl h
      cases h
    | succ N ih =>
      intro v2 v3 σ  H locs ls hM hl h
      rw [F_X7_count_L34] at h
      refine lv_iload_n hx hb dX7_count_34 rfl (lv_at hl 2 rfl) ?_
      refine lv_aload_n hx hb dX7_count_35 rfl (lv_at hl 0 rfl) ?_
      refine g7_0 CX hM hk_k wf_X7_7 dX7_count_36 ?_
      refine lv_bipush (v := 7) hx hb dX7_count_39 (by decide) ?_
      obtain ⟨g2, h⟩ := ck_h h
      refine x_iald CX hM (kdYl (kd7_f hk_k).1 rfl) (ly20 (kd7_f hk_k).1 _) g2 dX7_count_41 ?_
      refine lv_icmp_ge (tgt := 67) hx hb dX7_count_42 (by decide) (fun c3 => ?_) (fun c3 => ?_)
      · replace h := it_h c3 h
        refine lv_iload_n hx hb dX7_count_67 rfl (lv_at hl 1 rfl) ?_
        obtain rfl := Option.some.inj h
        exact x_iret CX hr hlk hM rfl dX7_count_68
      · replace h := if_h c3 h
        refine lv_iload_n hx hb dX7_count_45 rfl (lv_at hl 1 rfl) ?_
        refine lv_aload_n hx hb dX7_count_46 rfl (lv_at hl 0 rfl) ?_
        refine lv_iload_n hx hb dX7_count_47 rfl (lv_at hl 2 rfl) ?_
        obtain ⟨q4, eq4, h⟩ := bd_h h
        refine x_callV (As := [.int v3]) CX hM (kdYl hk_k rfl) (ly7 hk_k _) rfl lk_X7_87 (c_X7_isSuspect l E B hk_k eq4) ⟨rfl, rfl, by decide, by decide⟩ rfl hl.1 rfl (Nat.le_of_ble_eq_true rfl) dX7_count_48 (fun H locs hM => ?_)
        refine W.eq (g2 := F0 m 51 ls [.int (bz q4.1), .int v2]) rfl ?_
        refine lv_if_eq (tgt := 58) hx hb dX7_count_51 (by decide) (fun c5 => ?_) (fun c5 => ?_)
        · replace h := it_h c5 h
          refine lv_iconst (v := 0) hx hb dX7_count_58 (by decide) ?_
          refine lv_iadd hx hb dX7_count_59 ?_
          refine lv_topi (fun x2_6 ex2_6 => ?_)
          replace h := nm_h ex2_6 h
          refine lv_istore_n (lv' := [(2, .int x2_6), (0, .ref (B + k)), (3, .int v3)]) hx hb dX7_count_60 rfl hl (by decide) rfl (fun ls hl => ?_)
          refine lv_iinc (v := (v3 + 1)) (lv' := [(3, .int (v3 + 1)), (2, .int x2_6), (0, .ref (B + k))]) hx hb dX7_count_61 hl (k := 2) rfl rfl (by decide) rfl (fun ls hl => ?_)
          refine lv_goto (tgt := 34) hx hb dX7_count_64 (by decide) ?_
          exact ih _ _ _  _ _ _ hM (lv_sub hl [2, 1, 0] rfl) h
        · replace h := if_h c5 h
          refine lv_iconst (v := 1) hx hb dX7_count_54 (by decide) ?_
          refine lv_goto (tgt := 59) hx hb dX7_count_55 (by decide) ?_
          refine lv_iadd hx hb dX7_count_59 ?_
          refine lv_topi (fun x2_7 ex2_7 => ?_)
          replace h := nm_h ex2_7 h
          refine lv_istore_n (lv' := [(2, .int x2_7), (0, .ref (B + k)), (3, .int v3)]) hx hb dX7_count_60 rfl hl (by decide) rfl (fun ls hl => ?_)
          refine lv_iinc (v := (v3 + 1)) (lv' := [(3, .int (v3 + 1)), (2, .int x2_7), (0, .ref (B + k))]) hx hb dX7_count_61 hl (k := 2) rfl rfl (by decide) rfl (fun ls hl => ?_)
          refine lv_goto (tgt := 34) hx hb dX7_count_64 (by decide) ?_
          exact ih _ _ _  _ _ _ hM (lv_sub hl [2, 1, 0] rfl) h
  have L71 : ∀ (N : Nat) (v2 : Int32) (v3 : Int32) (σ : xM), ∀ (H : Heap) (locs : List Loc) (ls : Array Slot), xS E B 7 (layY E B) s σ H locs → lv_has ls 4 [(0, .ref (B + k)), (2, .int v2), (3, .int v3)] → F_X7_count_L71 k N v2 v3 σ = some q → W p l e rm_X7_count s m ([.ref (B + k), .int x1] : List Value).toArray below meth c H locs 0 0 (MQ below (xQ E B 7 (layY E B) (some (.int q.1)) q.2) ([.ref (B + k), .int x1] : List Value).toArray s 0 0 (wA B 7)) (F0 m 71 ls []) := by
    clear hM hl h
    intro N
    induction N with
    | zero =>
      intro v2 v3 σ  H locs ls hM hl h
      cases h
    | succ N ih =>
      intro v2 v3 σ  H locs ls hM hl h
      rw [F_X7_count_L71] at h
      refine lv_iload_n hx hb dX7_count_71 rfl (lv_at hl 2 rfl) ?_
      refine lv_aload_n hx hb dX7_count_72 rfl (lv_at hl 0 rfl) ?_
      refine g7_0 CX hM hk_k wf_X7_7 dX7_count_73 ?_
      refine lv_bipush (v := 7) hx hb dX7_count_76 (by decide) ?_
      obtain ⟨g9, h⟩ := ck_h h
      refine x_iald CX hM (kdYl (kd7_f hk_k).1 rfl) (ly20 (kd7_f hk_k).1 _) g9 dX7_count_78 ?_
      refine lv_icmp_ge (tgt := 98) hx hb dX7_count_79 (by decide) (fun c10 => ?_) (fun c10 => ?_)
      · replace h := it_h c10 h
        refine lv_iload_n hx hb dX7_count_98 rfl (lv_at hl 1 rfl) ?_
        obtain rfl := Option.some.inj h
        exact x_iret CX hr hlk hM rfl dX7_count_99
      · replace h := if_h c10 h
        refine lv_iload_n hx hb dX7_count_82 rfl (lv_at hl 1 rfl) ?_
        refine lv_aload_n hx hb dX7_count_83 rfl (lv_at hl 0 rfl) ?_
        refine lv_iload_n hx hb dX7_count_84 rfl (lv_at hl 2 rfl) ?_
        refine lv_bipush (v := 12) hx hb dX7_count_85 (by decide) ?_
        obtain ⟨q11, eq11, h⟩ := bd_h h
        refine x_callV (As := [.int v3, .int 12]) CX hM (kdYl hk_k rfl) (ly7 hk_k _) rfl lk_X7_39 (c_X7_of l E B hk_k eq11) ⟨rfl, rfl, by decide, by decide⟩ rfl hl.1 rfl (Nat.le_of_ble_eq_true rfl) dX7_count_87 (fun H locs hM => ?_)
        refine W.eq (g2 := F0 m 90 ls [.int q11.1, .int v2]) rfl ?_
        refine lv_iadd hx hb dX7_count_90 ?_
        refine lv_topi (fun x2_12 ex2_12 => ?_)
        replace h := nm_h ex2_12 h
        refine lv_istore_n (lv' := [(2, .int x2_12), (0, .ref (B + k)), (3, .int v3)]) hx hb dX7_count_91 rfl hl (by decide) rfl (fun ls hl => ?_)
        refine lv_iinc (v := (v3 + 1)) (lv' := [(3, .int (v3 + 1)), (2, .int x2_12), (0, .ref (B + k))]) hx hb dX7_count_92 hl (k := 2) rfl rfl (by decide) rfl (fun ls hl => ?_)
        refine lv_goto (tgt := 71) hx hb dX7_count_95 (by decide) ?_
        exact ih _ _ _  _ _ _ hM (lv_sub hl [2, 1, 0] rfl) h
  refine lv_iconst (v := 0) hx hb dX7_count_0 (by decide) ?_
  refine lv_istore_n (lv' := [(2, .int 0), (0, .ref (B + k)), (1, .int x1)]) hx hb dX7_count_1 rfl hl (by decide) rfl (fun ls hl => ?_)
  refine lv_iload_n hx hb dX7_count_2 rfl (lv_at hl 2 rfl) ?_
  by_cases c1 : x1 = 10
  · replace h := it_h c1 h
    refine lv_tableIn (off := 29) (tgt := 32) hx hb dX7_count_3 (by rw [c1]; decide) (by rw [c1]; decide) (by rw [c1]; decide) (by decide) ?_
    refine lv_iconst (v := 0) hx hb dX7_count_32 (by decide) ?_
    refine lv_istore_n (lv' := [(3, .int 0), (2, .int 0), (0, .ref (B + k)), (1, .int x1)]) hx hb dX7_count_33 rfl hl (by decide) rfl (fun ls hl => ?_)
    exact L34 _ _ _ _  _ _ _ hM (lv_sub hl [2, 1, 0] rfl) h
  · replace h := if_h c1 h
    by_cases c8 : x1 = 11
    · replace h := it_h c8 h
      refine lv_tableIn (off := 66) (tgt := 69) hx hb dX7_count_3 (by rw [c8]; decide) (by rw [c8]; decide) (by rw [c8]; decide) (by decide) ?_
      refine lv_iconst (v := 0) hx hb dX7_count_69 (by decide) ?_
      refine lv_istore_n (lv' := [(3, .int 0), (2, .int 0), (0, .ref (B + k)), (1, .int x1)]) hx hb dX7_count_70 rfl hl (by decide) rfl (fun ls hl => ?_)
      exact L71 _ _ _ _  _ _ _ hM (lv_sub hl [2, 1, 0] rfl) h
    · replace h := if_h c8 h
      by_cases c13 : x1 = 12
      · replace h := it_h c13 h
        refine lv_tableIn (off := 97) (tgt := 100) hx hb dX7_count_3 (by rw [c13]; decide) (by rw [c13]; decide) (by rw [c13]; decide) (by decide) ?_
        refine lv_aload_n hx hb dX7_count_100 rfl (lv_at hl 1 rfl) ?_
        refine g7_4 CX hM hk_k wf_X7_90 dX7_count_101 ?_
        obtain rfl := Option.some.inj h
        exact x_iret CX hr hlk hM rfl dX7_count_104
      · replace h := if_h c13 h
        by_cases c14 : x1 = 13
        · replace h := it_h c14 h
          refine lv_tableIn (off := 102) (tgt := 105) hx hb dX7_count_3 (by rw [c14]; decide) (by rw [c14]; decide) (by rw [c14]; decide) (by decide) ?_
          refine lv_aload_n hx hb dX7_count_105 rfl (lv_at hl 1 rfl) ?_
          refine g7_2 CX hM hk_k wf_X7_30 dX7_count_106 ?_
          obtain rfl := Option.some.inj h
          exact x_iret CX hr hlk hM rfl dX7_count_109
        · replace h := if_h c14 h
          refine lv_tableOut (tgt := 110) hx hb dX7_count_3 (tsw_out [10, 11, 12, 13] (by decide) (by decide) (List.forall_mem_cons.mpr ⟨c1, (List.forall_mem_cons.mpr ⟨c8, (List.forall_mem_cons.mpr ⟨c13, (List.forall_mem_cons.mpr ⟨c14, (fun _ h => absurd h List.not_mem_nil)⟩)⟩)⟩)⟩)) (by decide) ?_
          refine lv_iload_n hx hb dX7_count_110 rfl (lv_at hl 2 rfl) ?_
          refine lv_iconst (v := 0) hx hb dX7_count_111 (by decide) ?_
          refine lv_bipush (v := 9) hx hb dX7_count_112 (by decide) ?_
          obtain ⟨q15, eq15, h⟩ := bd_h h
          refine x_callS (As := [.int x1, .int 0, .int 9]) CX hM lk_X7_35 (c_X7_in l E B  eq15) ⟨rfl, rfl, by decide, by decide⟩ rfl hl.1 rfl (Nat.le_of_ble_eq_true rfl) dX7_count_114 (fun H locs hM => ?_)
          refine W.eq (g2 := F0 m 117 ls [.int (bz q15.1)]) rfl ?_
          refine lv_if_eq (tgt := 129) hx hb dX7_count_117 (by decide) (fun c16 => ?_) (fun c16 => ?_)
          · replace h := it_h c16 h
            refine lv_ldc (v := (-1000001)) hx hb CX.1.2.2.2.1 (x_hts CX wc_X7_46) dX7_count_129 ?_
            obtain rfl := Option.some.inj h
            exact x_iret CX hr hlk hM rfl dX7_count_131
          · replace h := if_h c16 h
            refine lv_aload_n hx hb dX7_count_120 rfl (lv_at hl 1 rfl) ?_
            refine g7_0 CX hM hk_k wf_X7_7 dX7_count_121 ?_
            refine lv_iload_n hx hb dX7_count_124 rfl (lv_at hl 2 rfl) ?_
            obtain ⟨g17, h⟩ := ck_h h
            refine x_iald CX hM (kdYl (kd7_f hk_k).1 rfl) (ly20 (kd7_f hk_k).1 _) g17 dX7_count_125 ?_
            refine lv_goto (tgt := 131) hx hb dX7_count_126 (by decide) ?_
            obtain rfl := Option.some.inj h
            exact x_iret CX hr hlk hM rfl dX7_count_131
