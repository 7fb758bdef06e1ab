def rm_X6_minutesToSuspect : Jvm.Room := { frames := 6, cells := 0, slots := 0, locals := 131 }
set_option maxHeartbeats 4000000 in
set_option maxRecDepth 100000 in
theorem c_X6_minutesToSuspect (l : Launch) (E : xE) (B : Nat) {k : Nat} {x1 : Int32} {σ : xM} {q : Int32 × xM} (hk_k : kd k = 6) (h : F_X6_minutesToSuspect k x1 σ = some q) : Met l yX6_minutesToSuspect (Cond.code yX6_minutesToSuspect cX6_minutesToSuspect 4 (some .int) :: AL) rm_X6_minutesToSuspect (xP E B 160 (layX E B) [.ref (B + k), .int x1] σ) (xQ E B 160 (layX E B) (some (.int q.1)) q.2) 0 0 (wA B 160) := by
  refine x_met (plainFor_of_name (by decide +kernel)) (Nat.le_of_ble_eq_true rfl) rfl ?_
  intro p e s m below meth c ls CX hr hlk hM hl
  have hx := CX.1.1
  have hb := CX.1.2.1
  unfold F_X6_minutesToSuspect at h
  have L29 : ∀ (N : Nat) (u2 : Nat) (v3 : Int32) (σ : xM), kd u2 = 3 → ∀ (H : Heap) (locs : List Loc) (ls : Array Slot), xS E B 160 (layX E B) s σ H locs → lv_has ls 4 [(0, .ref (B + k)), (2, .ref (B + u2)), (3, .int v3)] → F_X6_minutesToSuspect_L29 k N u2 v3 σ = some q → W p l e rm_X6_minutesToSuspect s m ([.ref (B + k), .int x1] : List Value).toArray below meth c H locs 0 0 (MQ below (xQ E B 160 (layX E B) (some (.int q.1)) q.2) ([.ref (B + k), .int x1] : List Value).toArray s 0 0 (wA B 160)) (F0 m 29 ls []) := by
    clear hM hl h
    intro N
    induction N with
    | zero =>
      intro u2 v3 σ hk_u2 H locs ls hM hl h
      cases h
    | succ N ih =>
      intro u2 v3 σ hk_u2 H locs ls hM hl h
      rw [F_X6_minutesToSuspect_L29] at h
      refine lv_iload_n hx hb dX6_minutesToSuspect_29 rfl (lv_at hl 2 rfl) ?_
      refine lv_sipush (v := 1000) hx hb dX6_minutesToSuspect_30 (by decide) ?_
      refine lv_icmp_ge (tgt := 63) hx hb dX6_minutesToSuspect_33 (by decide) (fun c4 => ?_) (fun c4 => ?_)
      · replace h := it_h c4 h
        refine lv_aload_n hx hb dX6_minutesToSuspect_63 rfl (lv_at hl 0 rfl) ?_
        refine g6_1 CX hM hk_k wf_X6_16 dX6_minutesToSuspect_64 ?_
        refine lv_aload_n hx hb dX6_minutesToSuspect_67 rfl (lv_at hl 1 rfl) ?_
        obtain ⟨q5, eq5, h⟩ := bd_h h
        refine x_callV (As := [.ref (B + u2)]) CX hM (kdl (kd6_f hk_k).2.1 rfl) (ly1 (kd6_f hk_k).2.1 _) rfl lk_X6_177 (c_X1_isSuspect l E B ((kd6_f hk_k).2.1) hk_u2 eq5) ⟨rfl, rfl, by decide, by decide⟩ rfl hl.1 rfl (Nat.le_of_ble_eq_true rfl) dX6_minutesToSuspect_68 (fun H locs hM => ?_)
        refine W.eq (g2 := F0 m 71 ls [.int (bz q5.1)]) rfl ?_
        refine lv_if_eq (tgt := 80) hx hb dX6_minutesToSuspect_71 (by decide) (fun c6 => ?_) (fun c6 => ?_)
        · replace h := it_h c6 h
          refine lv_ldc (v := (-1000009)) hx hb CX.1.2.2.2.1 (x_hts CX wc_X6_184) dX6_minutesToSuspect_80 ?_
          obtain rfl := Option.some.inj h
          exact x_iret CX hr hlk hM rfl dX6_minutesToSuspect_82
        · replace h := if_h c6 h
          refine lv_sipush (v := 1000) hx hb dX6_minutesToSuspect_74 (by decide) ?_
          refine lv_goto (tgt := 82) hx hb dX6_minutesToSuspect_77 (by decide) ?_
          obtain rfl := Option.some.inj h
          exact x_iret CX hr hlk hM rfl dX6_minutesToSuspect_82
      · replace h := if_h c4 h
        refine lv_aload_n hx hb dX6_minutesToSuspect_36 rfl (lv_at hl 0 rfl) ?_
        refine g6_1 CX hM hk_k wf_X6_16 dX6_minutesToSuspect_37 ?_
        refine lv_aload_n hx hb dX6_minutesToSuspect_40 rfl (lv_at hl 1 rfl) ?_
        obtain ⟨q7, eq7, h⟩ := bd_h h
        refine x_callV (As := [.ref (B + u2)]) CX hM (kdl (kd6_f hk_k).2.1 rfl) (ly1 (kd6_f hk_k).2.1 _) rfl lk_X6_177 (c_X1_isSuspect l E B ((kd6_f hk_k).2.1) hk_u2 eq7) ⟨rfl, rfl, by decide, by decide⟩ rfl hl.1 rfl (Nat.le_of_ble_eq_true rfl) dX6_minutesToSuspect_41 (fun H locs hM => ?_)
        refine W.eq (g2 := F0 m 44 ls [.int (bz q7.1)]) rfl ?_
        refine lv_if_eq (tgt := 49) hx hb dX6_minutesToSuspect_44 (by decide) (fun c8 => ?_) (fun c8 => ?_)
        · replace h := it_h c8 h
          refine lv_aload_n hx hb dX6_minutesToSuspect_49 rfl (lv_at hl 0 rfl) ?_
          refine g6_1 CX hM hk_k wf_X6_16 dX6_minutesToSuspect_50 ?_
          obtain ⟨q9, eq9, h⟩ := bd_h h
          refine x_callV (As := []) CX hM (kdl (kd6_f hk_k).2.1 rfl) (ly1 (kd6_f hk_k).2.1 _) rfl lk_X6_181 (c_X1_passMinute l E B ((kd6_f hk_k).2.1) eq9) ⟨rfl, rfl, by decide, by decide⟩ rfl hl.1 rfl (Nat.le_of_ble_eq_true rfl) dX6_minutesToSuspect_53 (fun H locs hM => ?_)
          refine W.eq (g2 := F0 m 56 ls [.int q9.1]) rfl ?_
          refine lv_pop hx hb dX6_minutesToSuspect_56 rfl ?_
          refine lv_iinc (v := (v3 + 1)) (lv' := [(3, .int (v3 + 1)), (0, .ref (B + k)), (2, .ref (B + u2))]) hx hb dX6_minutesToSuspect_57 hl (k := 2) rfl rfl (by decide) rfl (fun ls hl => ?_)
          refine lv_goto (tgt := 29) hx hb dX6_minutesToSuspect_60 (by decide) ?_
          exact ih _ _ _ hk_u2 _ _ _ hM (lv_sub hl [1, 2, 0] rfl) h
        · replace h := if_h c8 h
          refine lv_iload_n hx hb dX6_minutesToSuspect_47 rfl (lv_at hl 2 rfl) ?_
          obtain rfl := Option.some.inj h
          exact x_iret CX hr hlk hM rfl dX6_minutesToSuspect_48
  refine lv_aload_n hx hb dX6_minutesToSuspect_0 rfl (lv_at hl 0 rfl) ?_
  refine g6_1 CX hM hk_k wf_X6_16 dX6_minutesToSuspect_1 ?_
  refine lv_aload_n hx hb dX6_minutesToSuspect_4 rfl (lv_at hl 0 rfl) ?_
  refine g6_0 CX hM hk_k wf_X6_10 dX6_minutesToSuspect_5 ?_
  obtain ⟨q1, eq1, h⟩ := bd_h h
  refine x_callV (As := [.ref (B + (k + 1))]) CX hM (kdl (kd6_f hk_k).2.1 rfl) (ly1 (kd6_f hk_k).2.1 _) rfl lk_X6_175 (c_X1_copyFrom l E B ((kd6_f hk_k).2.1) ((kd6_f hk_k).1) eq1) ⟨rfl, rfl, by decide, by decide⟩ rfl hl.1 rfl (Nat.le_of_ble_eq_true rfl) dX6_minutesToSuspect_8 (fun H locs hM => ?_)
  refine W.eq (g2 := F0 m 11 ls []) rfl ?_
  refine lv_aload_n hx hb dX6_minutesToSuspect_11 rfl (lv_at hl 0 rfl) ?_
  refine g6_1 CX hM hk_k wf_X6_16 dX6_minutesToSuspect_12 ?_
  refine lv_iload_n hx hb dX6_minutesToSuspect_15 rfl (lv_at hl 1 rfl) ?_
  obtain ⟨q2, eq2, h⟩ := bd_h h
  refine x_callV (As := [.int x1]) CX hM (kdl (kd6_f hk_k).2.1 rfl) (ly1 (kd6_f hk_k).2.1 _) rfl lk_X6_74 (c_X1_roomAt l E B ((kd6_f hk_k).2.1) eq2) ⟨rfl, rfl, by decide, by decide⟩ rfl hl.1 rfl (Nat.le_of_ble_eq_true rfl) dX6_minutesToSuspect_16 (fun H locs hM => ?_)
  rcases hq2 : q2.1 with _ | r3
  · rw [hq2] at h
    replace h := oc_n h
    refine W.eq (g2 := F0 m 19 ls [.null]) rfl ?_
    refine lv_astore_nN (lv' := [(2, .null), (0, .ref (B + k)), (1, .int x1)]) hx hb dX6_minutesToSuspect_19 rfl hl (by decide) rfl (fun ls hl => ?_)
    refine lv_aload_nN hx hb dX6_minutesToSuspect_20 rfl (lv_at hl 0 rfl) ?_
    refine lv_ifnonnullN hx hb dX6_minutesToSuspect_21 ?_
    refine lv_ldc (v := (-1000001)) hx hb CX.1.2.2.2.1 (x_hts CX wc_X6_44) dX6_minutesToSuspect_24 ?_
    obtain rfl := Option.some.inj h
    exact x_iret CX hr hlk hM rfl dX6_minutesToSuspect_26
  · rw [hq2] at h
    replace h := oc_s h
    obtain ⟨hk_r3, h⟩ := ck_h h
    refine W.eq (g2 := F0 m 19 ls [.ref (B + r3)]) rfl ?_
    refine lv_astore_n (lv' := [(2, .ref (B + r3)), (0, .ref (B + k)), (1, .int x1)]) hx hb dX6_minutesToSuspect_19 rfl hl (by decide) rfl (fun ls hl => ?_)
    refine lv_aload_n hx hb dX6_minutesToSuspect_20 rfl (lv_at hl 0 rfl) ?_
    refine lv_ifnonnull (tgt := 27) hx hb dX6_minutesToSuspect_21 (by decide) ?_
    refine lv_iconst (v := 0) hx hb dX6_minutesToSuspect_27 (by decide) ?_
    refine lv_istore_n (lv' := [(3, .int 0), (2, .ref (B + r3)), (0, .ref (B + k)), (1, .int x1)]) hx hb dX6_minutesToSuspect_28 rfl hl (by decide) rfl (fun ls hl => ?_)
    exact L29 _ _ _ _ hk_r3 _ _ _ hM (lv_sub hl [2, 1, 0] rfl) h
def rm_X6_heatIn : Jvm.Room := { frames := 7, cells := 0, slots := 0, locals := 154 }
set_option maxHeartbeats 4000000 in
set_option maxRecDepth 100000 in
theorem c_X6_heatIn (l : Launch) (E : xE) (B : Nat) {k : Nat} {x1 : Int32} {σ : xM} {q : Int32 × xM} (hk_k : kd k = 6) (h : F_X6_heatIn k x1 σ = some q) : Met l yX6_heatIn (Cond.code yX6_heatIn cX6_heatIn 2 (some .int) :: AL) rm_X6_heatIn (xP E B 160 (layX E B) [.ref (B + k), .int x1] σ) (xQ E B 160 (layX E B) (some (.int q.1)) q.2) 0 0 (wA B 160) := by
  refine x_met (plainFor_of_name (by decide +kernel)) (Nat.le_of_ble_eq_true rfl) rfl ?_
  intro p e s m below meth c ls CX hr hlk hM hl
  have hx := CX.1.1
  have hb := CX.1.2.1
  unfold F_X6_heatIn at h
  refine lv_iload_n hx hb dX6_heatIn_0 rfl (lv_at hl 1 rfl) ?_
  refine lv_iconst (v := 1) hx hb dX6_heatIn_1 (by decide) ?_
  refine lv_sipush (v := 1000) hx hb dX6_heatIn_2 (by decide) ?_
  obtain ⟨q1, eq1, h⟩ := bd_h h
  refine x_callS (As := [.int x1, .int 1, .int 1000]) CX hM lk_X6_40 (c_X6_within l E B  eq1) ⟨rfl, rfl, by decide, by decide⟩ rfl hl.1 rfl (Nat.le_of_ble_eq_true rfl) dX6_heatIn_5 (fun H locs hM => ?_)
  refine W.eq (g2 := F0 m 8 ls [.int (bz q1.1)]) rfl ?_
  refine lv_if_ne (tgt := 14) hx hb dX6_heatIn_8 (by decide) (fun c2 => ?_) (fun c2 => ?_)
  · replace h := if_h c2 h
    refine lv_aload_n hx hb dX6_heatIn_14 rfl (lv_at hl 0 rfl) ?_
    refine g6_1 CX hM hk_k wf_X6_16 dX6_heatIn_15 ?_
    refine lv_aload_n hx hb dX6_heatIn_18 rfl (lv_at hl 0 rfl) ?_
    refine g6_0 CX hM hk_k wf_X6_10 dX6_heatIn_19 ?_
    obtain ⟨q3, eq3, h⟩ := bd_h h
    refine x_callV (As := [.ref (B + (k + 1))]) CX hM (kdl (kd6_f hk_k).2.1 rfl) (ly1 (kd6_f hk_k).2.1 _) rfl lk_X6_175 (c_X1_copyFrom l E B ((kd6_f hk_k).2.1) ((kd6_f hk_k).1) eq3) ⟨rfl, rfl, by decide, by decide⟩ rfl hl.1 rfl (Nat.le_of_ble_eq_true rfl) dX6_heatIn_22 (fun H locs hM => ?_)
    refine W.eq (g2 := F0 m 25 ls []) rfl ?_
    refine lv_aload_n hx hb dX6_heatIn_25 rfl (lv_at hl 0 rfl) ?_
    refine g6_1 CX hM hk_k wf_X6_16 dX6_heatIn_26 ?_
    refine lv_iload_n hx hb dX6_heatIn_29 rfl (lv_at hl 1 rfl) ?_
    obtain ⟨q4, eq4, h⟩ := bd_h h
    refine x_callV (As := [.int x1]) CX hM (kdl (kd6_f hk_k).2.1 rfl) (ly1 (kd6_f hk_k).2.1 _) rfl lk_X6_172 (c_X1_passMinutes l E B ((kd6_f hk_k).2.1) eq4) ⟨rfl, rfl, by decide, by decide⟩ rfl hl.1 rfl (Nat.le_of_ble_eq_true rfl) dX6_heatIn_30 (fun H locs hM => ?_)
    refine W.eq (g2 := F0 m 33 ls [.int q4.1]) rfl ?_
    refine lv_pop hx hb dX6_heatIn_33 rfl ?_
    refine lv_aload_n hx hb dX6_heatIn_34 rfl (lv_at hl 0 rfl) ?_
    refine g6_1 CX hM hk_k wf_X6_16 dX6_heatIn_35 ?_
    obtain ⟨q5, eq5, h⟩ := bd_h h
    refine x_callV (As := []) CX hM (kdl (kd6_f hk_k).2.1 rfl) (ly1 (kd6_f hk_k).2.1 _) rfl lk_X6_185 (c_X1_heatFromHeaters l E B ((kd6_f hk_k).2.1) eq5) ⟨rfl, rfl, by decide, by decide⟩ rfl hl.1 rfl (Nat.le_of_ble_eq_true rfl) dX6_heatIn_38 (fun H locs hM => ?_)
    refine W.eq (g2 := F0 m 41 ls [.int q5.1]) rfl ?_
    refine lv_aload_n hx hb dX6_heatIn_41 rfl (lv_at hl 0 rfl) ?_
    refine g6_0 CX hM hk_k wf_X6_10 dX6_heatIn_42 ?_
    obtain ⟨q6, eq6, h⟩ := bd_h h
    refine x_callV (As := []) CX hM (kdl (kd6_f hk_k).1 rfl) (ly1 (kd6_f hk_k).1 _) rfl lk_X6_185 (c_X1_heatFromHeaters l E B ((kd6_f hk_k).1) eq6) ⟨rfl, rfl, by decide, by decide⟩ rfl hl.1 rfl (Nat.le_of_ble_eq_true rfl) dX6_heatIn_45 (fun H locs hM => ?_)
    refine W.eq (g2 := F0 m 48 ls [.int q6.1, .int q5.1]) rfl ?_
    refine lv_isub hx hb dX6_heatIn_48 ?_
    obtain rfl := Option.some.inj h
    exact x_iret CX hr hlk hM rfl dX6_heatIn_49
  · replace h := it_h c2 h
    refine lv_ldc (v := (-1000001)) hx hb CX.1.2.2.2.1 (x_hts CX wc_X6_44) dX6_heatIn_11 ?_
    obtain rfl := Option.some.inj h
    exact x_iret CX hr hlk hM rfl dX6_heatIn_13
def rm_X6_undo : Jvm.Room := { frames := 4, cells := 0, slots := 0, locals := 94 }
set_option maxHeartbeats 4000000 in
set_option maxRecDepth 100000 in
theorem c_X6_undo (l : Launch) (E : xE) (B : Nat) {k : Nat} {σ : xM} {q : Int32 × xM} (hk_k : kd k = 6) (h : F_X6_undo k σ = some q) : Met l yX6_undo (Cond.code yX6_undo cX6_undo 1 (some .int) :: AL) rm_X6_undo (xP E B 160 (layX E B) [.ref (B + k)] σ) (xQ E B 160 (layX E B) (some (.int q.1)) q.2) 0 0 (wA B 160) := by
  refine x_met (plainFor_of_name (by decide +kernel)) (Nat.le_of_ble_eq_true rfl) rfl ?_
  intro p e s m below meth c ls CX hr hlk hM hl
  have hx := CX.1.1
  have hb := CX.1.2.1
  unfold F_X6_undo at h
  refine lv_aload_n hx hb dX6_undo_0 rfl (lv_at hl 0 rfl) ?_
  refine g6_2 CX hM hk_k wf_X6_22 dX6_undo_1 ?_
  refine g2_2 CX hM (kd6_f hk_k).2.2.1 wf_X6_156 dX6_undo_4 ?_
  refine lv_if_ne (tgt := 13) hx hb dX6_undo_7 (by decide) (fun c1 => ?_) (fun c1 => ?_)
  · replace h := if_h c1 h
    refine lv_aload_n hx hb dX6_undo_13 rfl (lv_at hl 0 rfl) ?_
    refine g6_2 CX hM hk_k wf_X6_22 dX6_undo_14 ?_
    refine lv_aload_n hx hb dX6_undo_17 rfl (lv_at hl 0 rfl) ?_
    refine g6_0 CX hM hk_k wf_X6_10 dX6_undo_18 ?_
    obtain ⟨q2, eq2, h⟩ := bd_h h
    refine x_callV (As := [.ref (B + (k + 1))]) CX hM (kdl (kd6_f hk_k).2.2.1 rfl) (ly2 (kd6_f hk_k).2.2.1 _) rfl lk_X6_199 (c_X2_restore l E B ((kd6_f hk_k).2.2.1) ((kd6_f hk_k).1) eq2) ⟨rfl, rfl, by decide, by decide⟩ rfl hl.1 rfl (Nat.le_of_ble_eq_true rfl) dX6_undo_21 (fun H locs hM => ?_)
    refine W.eq (g2 := F0 m 24 ls []) rfl ?_
    refine lv_aload_n hx hb dX6_undo_24 rfl (lv_at hl 0 rfl) ?_
    refine g6_2 CX hM hk_k wf_X6_22 dX6_undo_25 ?_
    refine g2_2 CX hM (kd6_f hk_k).2.2.1 wf_X6_156 dX6_undo_28 ?_
    obtain rfl := Option.some.inj h
    exact x_iret CX hr hlk hM rfl dX6_undo_31
  · replace h := it_h c1 h
    refine lv_ldc (v := (-1000002)) hx hb CX.1.2.2.2.1 (x_hts CX wc_X6_69) dX6_undo_10 ?_
    obtain rfl := Option.some.inj h
    exact x_iret CX hr hlk hM rfl dX6_undo_12
def rm_L_low : Jvm.Room := { frames := 0, cells := 0, slots := 0, locals := 0 }
set_option maxHeartbeats 4000000 in
set_option maxRecDepth 100000 in
theorem c_L_low (l : Launch) (E : xE) (B : Nat) {x0 : Int32} {x1 : Int32} {σ : xM} {q : Int32 × xM}  (h : F_L_low x0 x1 σ = some q) : Met l yL_low (Cond.code yL_low cL_low 2 (some .int) :: AL) rm_L_low (xP E B 160 (layX E B) [.int x0, .int x1] σ) (xQ E B 160 (layX E B) (some (.int q.1)) q.2) 0 0 (wA B 160) := by
  refine x_met (plainFor_of_name (by decide +kernel)) (Nat.le_of_ble_eq_true rfl) rfl ?_
  intro p e s m below meth c ls CX hr hlk hM hl
  have hx := CX.1.1
  have hb := CX.1.2.1
  unfold F_L_low at h
  refine lv_iload_n hx hb dL_low_0 rfl (lv_at hl 0 rfl) ?_
  refine lv_ldc (v := 2147483647) hx hb CX.1.2.2.2.1 (x_hts CX wc_L_7) dL_low_1 ?_
  refine lv_iand hx hb dL_low_3 ?_
  refine lv_iload_n hx hb dL_low_4 rfl (lv_at hl 1 rfl) ?_
  obtain ⟨g1, h⟩ := nz_h h
  refine lv_irem hx hb dL_low_5 g1 ?_
  obtain rfl := Option.some.inj h
  exact x_iret CX hr hlk hM rfl dL_low_6
def rm_L_tale : Jvm.Room := { frames := 5, cells := 0, slots := 0, locals := 107 }
set_option maxHeartbeats 4000000 in
set_option maxRecDepth 100000 in
theorem c_L_tale (l : Launch) (E : xE) (B : Nat) {r0 : Nat} {σ : xM} {q : Int64 × xM} (hk_r0 : kd r0 = 6) (h : F_L_tale r0 σ = some q) : Met l yL_tale (Cond.code yL_tale cL_tale 5 (some .long) :: AL) rm_L_tale (xP E B 160 (layX E B) [.ref (B + r0)] σ) (xQ E B 160 (layX E B) (some (.long q.1)) q.2) 0 0 (wA B 160) := by
  refine x_met (plainFor_of_name (by decide +kernel)) (Nat.le_of_ble_eq_true rfl) rfl ?_
  intro p e s m below meth c ls CX hr hlk hM hl
  have hx := CX.1.1
  have hb := CX.1.2.1
  unfold F_L_tale at h
  have LL : ∀ (N : Nat), (∀ (j1 : Int64) (v3 : Int32) (σ : xM) (H : Heap) (locs : List Loc) (ls : Array Slot), xS E B 160 (layX E B) s σ H locs → lv_has ls 5 [(0, .ref (B + r0)), (1, .long j1), (3, .int v3)] → F_L_tale_LL r0 N 33 j1 v3 0 σ = some q → W p l e rm_L_tale s m ([.ref (B + r0)] : List Value).toArray below meth c H locs 0 0 (MQ below (xQ E B 160 (layX E B) (some (.long q.1)) q.2) ([.ref (B + r0)] : List Value).toArray s 0 0 (wA B 160)) (F0 m 33 ls [])) ∧ (∀ (j1 : Int64) (v3 : Int32) (v4 : Int32) (σ : xM) (H : Heap) (locs : List Loc) (ls : Array Slot), xS E B 160 (layX E B) s σ H locs → lv_has ls 5 [(0, .ref (B + r0)), (1, .long j1), (3, .int v3), (4, .int v4)] → F_L_tale_LL r0 N 46 j1 v3 v4 σ = some q → W p l e rm_L_tale s m ([.ref (B + r0)] : List Value).toArray below meth c H locs 0 0 (MQ below (xQ E B 160 (layX E B) (some (.long q.1)) q.2) ([.ref (B + r0)] : List Value).toArray s 0 0 (wA B 160)) (F0 m 46 ls [])) ∧ (∀ (j1 : Int64) (v3 : Int32) (v4 : Int32) (σ : xM) (H : Heap) (locs : List Loc) (ls : Array Slot), xS E B 160 (layX E B) s σ H locs → lv_has ls 5 [(0, .ref (B + r0)), (1, .long j1), (3, .int v3), (4, .int v4)] → F_L_tale_LL r0 N 77 j1 v3 v4 σ = some q → W p l e rm_L_tale s m ([.ref (B + r0)] : List Value).toArray below meth c H locs 0 0 (MQ below (xQ E B 160 (layX E B) (some (.long q.1)) q.2) ([.ref (B + r0)] : List Value).toArray s 0 0 (wA B 160)) (F0 m 77 ls [])) ∧ (∀ (j1 : Int64) (v3 : Int32) (v4 : Int32) (σ : xM) (H : Heap) (locs : List Loc) (ls : Array Slot), xS E B 160 (layX E B) s σ H locs → lv_has ls 5 [(0, .ref (B + r0)), (1, .long j1), (3, .int v3), (4, .int v4)] → F_L_tale_LL r0 N 107 j1 v3 v4 σ = some q → W p l e rm_L_tale s m ([.ref (B + r0)] : List Value).toArray below meth c H locs 0 0 (MQ below (xQ E B 160 (layX E B) (some (.long q.1)) q.2) ([.ref (B + r0)] : List Value).toArray s 0 0 (wA B 160)) (F0 m 107 ls [])) := by
    clear hM hl h
    intro N
    induction N with
    | zero =>
      refine ⟨?_, ?_, ?_, ?_⟩
      · intro j1 v3 σ H locs ls hM hl h
        cases h
      · intro j1 v3 v4 σ H locs ls hM hl h
        cases h
      · intro j1 v3 v4 σ H locs ls hM hl h
        cases h
      · intro j1 v3 v4 σ H locs ls hM hl h
        cases h
    | succ N ih =>
      refine ⟨?_, ?_, ?_, ?_⟩
      · intro j1 v3 σ H locs ls hM hl h
        rw [F_L_tale_LL] at h
        replace h := it_h rfl h
        refine lv_iload_n hx hb dL_tale_33 rfl (lv_at hl 2 rfl) ?_
        refine lv_aload_n hx hb dL_tale_34 rfl (lv_at hl 0 rfl) ?_
        refine lv_bipush (v := 7) hx hb dL_tale_35 (by decide) ?_
        obtain ⟨q2, eq2, h⟩ := bd_h h
        refine x_callV (As := [.int 7]) CX hM (kdl hk_r0 rfl) (ly6 hk_r0 _) rfl lk_L_12 (c_X6_count l E B hk_r0 eq2) ⟨rfl, rfl, by decide, by decide⟩ rfl hl.1 rfl (Nat.le_of_ble_eq_true rfl) dL_tale_37 (fun H locs hM => ?_)
        refine W.eq (g2 := F0 m 40 ls [.int q2.1, .int v3]) rfl ?_
        refine lv_icmp_ge (tgt := 145) hx hb dL_tale_40 (by decide) (fun c3 => ?_) (fun c3 => ?_)
        · replace h := it_h c3 h
          refine lv_lload_n hx hb dL_tale_145 rfl (lv_at hl 1 rfl) ?_
          obtain rfl := Option.some.inj h
          exact x_lret CX hr hlk hM rfl dL_tale_146
        · replace h := if_h c3 h
          refine lv_iconst (v := 0) hx hb dL_tale_43 (by decide) ?_
          refine lv_istore (lv' := [(4, .int 0), (0, .ref (B + r0)), (1, .long j1), (3, .int v3)]) hx hb dL_tale_44 hl (by decide) rfl (fun ls hl => ?_)
          exact ih.2.1 _ _ _ _ _ _ _ hM (lv_sub hl [1, 2, 3, 0] rfl) h
      · intro j1 v3 v4 σ H locs ls hM hl h
        rw [F_L_tale_LL] at h
        replace h := if_h (by decide) h
        replace h := it_h rfl h
        refine lv_iload hx hb dL_tale_46 (lv_at hl 3 rfl) ?_
        refine lv_bipush (v := 14) hx hb dL_tale_48 (by decide) ?_
        refine lv_icmp_ge (tgt := 74) hx hb dL_tale_50 (by decide) (fun c4 => ?_) (fun c4 => ?_)
        · replace h := it_h c4 h
          refine lv_iconst (v := 0) hx hb dL_tale_74 (by decide) ?_
          refine lv_istore (lv' := [(4, .int 0), (0, .ref (B + r0)), (1, .long j1), (3, .int v3)]) hx hb dL_tale_75 hl (by decide) rfl (fun ls hl => ?_)
          exact ih.2.2.1 _ _ _ _ _ _ _ hM (lv_sub hl [1, 2, 3, 0] rfl) h
        · replace h := if_h c4 h
          refine lv_lload_n hx hb dL_tale_53 rfl (lv_at hl 1 rfl) ?_
          refine lv_ldc2 (v := 37) hx hb CX.1.2.2.2.1 (x_hts CX wc_L_18) dL_tale_54 ?_
          refine lv_lmul hx hb dL_tale_57 ?_
          refine lv_aload_n hx hb dL_tale_58 rfl (lv_at hl 0 rfl) ?_
          refine lv_iload_n hx hb dL_tale_59 rfl (lv_at hl 2 rfl) ?_
          refine lv_iload hx hb dL_tale_60 (lv_at hl 3 rfl) ?_
          obtain ⟨q12, eq12, h⟩ := bd_h h
          refine x_callV (As := [.int v3, .int v4]) CX hM (kdl hk_r0 rfl) (ly6 hk_r0 _) rfl lk_L_20 (c_X6_room l E B hk_r0 eq12) ⟨rfl, rfl, by decide, by decide⟩ rfl hl.1 rfl (Nat.le_of_ble_eq_true rfl) dL_tale_62 (fun H locs hM => ?_)
          refine W.eq (g2 := F0 m 65 ls [.int q12.1, .long (j1 * 37)]) rfl ?_
          refine lv_i2l hx hb dL_tale_65 rfl ?_
          refine lv_ladd hx hb dL_tale_66 ?_
          refine lv_topl (fun j1_13 ej1_13 => ?_)
          replace h := nm_h ej1_13 h
          refine lv_lstore_n (lv' := [(1, .long j1_13), (0, .ref (B + r0)), (3, .int v3), (4, .int v4)]) hx hb dL_tale_67 rfl hl (by decide) rfl (fun ls hl => ?_)
          refine lv_iinc (v := (v4 + 1)) (lv' := [(4, .int (v4 + 1)), (1, .long j1_13), (0, .ref (B + r0)), (3, .int v3)]) hx hb dL_tale_68 hl (k := 3) rfl rfl (by decide) rfl (fun ls hl => ?_)
          refine lv_goto (tgt := 46) hx hb dL_tale_71 (by decide) ?_
          exact ih.2.1 _ _ _ _ _ _ _ hM (lv_sub hl [2, 1, 3, 0] rfl) h
      · intro j1 v3 v4 σ H locs ls hM hl h
        rw [F_L_tale_LL] at h
        replace h := if_h (by decide) h
        replace h := if_h (by decide) h
        replace h := it_h rfl h
        refine lv_iload hx hb dL_tale_77 (lv_at hl 3 rfl) ?_
        refine lv_iconst (v := 5) hx hb dL_tale_79 (by decide) ?_
        refine lv_icmp_ge (tgt := 104) hx hb dL_tale_80 (by decide) (fun c5 => ?_) (fun c5 => ?_)
        · replace h := it_h c5 h
          refine lv_iconst (v := 0) hx hb dL_tale_104 (by decide) ?_
          refine lv_istore (lv' := [(4, .int 0), (0, .ref (B + r0)), (1, .long j1), (3, .int v3)]) hx hb dL_tale_105 hl (by decide) rfl (fun ls hl => ?_)
          exact ih.2.2.2 _ _ _ _ _ _ _ hM (lv_sub hl [1, 2, 3, 0] rfl) h
        · replace h := if_h c5 h
          refine lv_lload_n hx hb dL_tale_83 rfl (lv_at hl 1 rfl) ?_
          refine lv_ldc2 (v := 41) hx hb CX.1.2.2.2.1 (x_hts CX wc_L_24) dL_tale_84 ?_
          refine lv_lmul hx hb dL_tale_87 ?_
          refine lv_aload_n hx hb dL_tale_88 rfl (lv_at hl 0 rfl) ?_
          refine lv_iload_n hx hb dL_tale_89 rfl (lv_at hl 2 rfl) ?_
          refine lv_iload hx hb dL_tale_90 (lv_at hl 3 rfl) ?_
          obtain ⟨q10, eq10, h⟩ := bd_h h
          refine x_callV (As := [.int v3, .int v4]) CX hM (kdl hk_r0 rfl) (ly6 hk_r0 _) rfl lk_L_26 (c_X6_book l E B hk_r0 eq10) ⟨rfl, rfl, by decide, by decide⟩ rfl hl.1 rfl (Nat.le_of_ble_eq_true rfl) dL_tale_92 (fun H locs hM => ?_)
          refine W.eq (g2 := F0 m 95 ls [.int q10.1, .long (j1 * 41)]) rfl ?_
          refine lv_i2l hx hb dL_tale_95 rfl ?_
          refine lv_ladd hx hb dL_tale_96 ?_
          refine lv_topl (fun j1_11 ej1_11 => ?_)
          replace h := nm_h ej1_11 h
          refine lv_lstore_n (lv' := [(1, .long j1_11), (0, .ref (B + r0)), (3, .int v3), (4, .int v4)]) hx hb dL_tale_97 rfl hl (by decide) rfl (fun ls hl => ?_)
          refine lv_iinc (v := (v4 + 1)) (lv' := [(4, .int (v4 + 1)), (1, .long j1_11), (0, .ref (B + r0)), (3, .int v3)]) hx hb dL_tale_98 hl (k := 3) rfl rfl (by decide) rfl (fun ls hl => ?_)
          refine lv_goto (tgt := 77) hx hb dL_tale_101 (by decide) ?_
          exact ih.2.2.1 _ _ _ _ _ _ _ hM (lv_sub hl [2, 1, 3, 0] rfl) h
      · intro j1 v3 v4 σ H locs ls hM hl h
        rw [F_L_tale_LL] at h
        replace h := if_h (by decide) h
        replace h := if_h (by decide) h
        replace h := if_h (by decide) h
        refine lv_iload hx hb dL_tale_107 (lv_at hl 3 rfl) ?_
        refine lv_aload_n hx hb dL_tale_109 rfl (lv_at hl 0 rfl) ?_
        refine lv_bipush (v := 7) hx hb dL_tale_110 (by decide) ?_
        obtain ⟨q6, eq6, h⟩ := bd_h h
        refine x_callV (As := [.int 7]) CX hM (kdl hk_r0 rfl) (ly6 hk_r0 _) rfl lk_L_12 (c_X6_count l E B hk_r0 eq6) ⟨rfl, rfl, by decide, by decide⟩ rfl hl.1 rfl (Nat.le_of_ble_eq_true rfl) dL_tale_112 (fun H locs hM => ?_)
        refine W.eq (g2 := F0 m 115 ls [.int q6.1, .int v4]) rfl ?_
        refine lv_icmp_ge (tgt := 139) hx hb dL_tale_115 (by decide) (fun c7 => ?_) (fun c7 => ?_)
        · replace h := it_h c7 h
          refine lv_iinc (v := (v3 + 1)) (lv' := [(3, .int (v3 + 1)), (0, .ref (B + r0)), (1, .long j1), (4, .int v4)]) hx hb dL_tale_139 hl (k := 2) rfl rfl (by decide) rfl (fun ls hl => ?_)
          refine lv_goto (tgt := 33) hx hb dL_tale_142 (by decide) ?_
          exact ih.1 _ _ _ _ _ _ hM (lv_sub hl [1, 2, 0] rfl) h
        · replace h := if_h c7 h
          refine lv_lload_n hx hb dL_tale_118 rfl (lv_at hl 1 rfl) ?_
          refine lv_ldc2 (v := 43) hx hb CX.1.2.2.2.1 (x_hts CX wc_L_29) dL_tale_119 ?_
          refine lv_lmul hx hb dL_tale_122 ?_
          refine lv_aload_n hx hb dL_tale_123 rfl (lv_at hl 0 rfl) ?_
          refine lv_iload_n hx hb dL_tale_124 rfl (lv_at hl 2 rfl) ?_
          refine lv_iload hx hb dL_tale_125 (lv_at hl 3 rfl) ?_
          obtain ⟨q8, eq8, h⟩ := bd_h h
          refine x_callV (As := [.int v3, .int v4]) CX hM (kdl hk_r0 rfl) (ly6 hk_r0 _) rfl lk_L_31 (c_X6_link l E B hk_r0 eq8) ⟨rfl, rfl, by decide, by decide⟩ rfl hl.1 rfl (Nat.le_of_ble_eq_true rfl) dL_tale_127 (fun H locs hM => ?_)
          refine W.eq (g2 := F0 m 130 ls [.int q8.1, .long (j1 * 43)]) rfl ?_
          refine lv_i2l hx hb dL_tale_130 rfl ?_
          refine lv_ladd hx hb dL_tale_131 ?_
          refine lv_topl (fun j1_9 ej1_9 => ?_)
          replace h := nm_h ej1_9 h
          refine lv_lstore_n (lv' := [(1, .long j1_9), (0, .ref (B + r0)), (3, .int v3), (4, .int v4)]) hx hb dL_tale_132 rfl hl (by decide) rfl (fun ls hl => ?_)
          refine lv_iinc (v := (v4 + 1)) (lv' := [(4, .int (v4 + 1)), (1, .long j1_9), (0, .ref (B + r0)), (3, .int v3)]) hx hb dL_tale_133 hl (k := 3) rfl rfl (by decide) rfl (fun ls hl => ?_)
          refine lv_goto (tgt := 107) hx hb dL_tale_136 (by decide) ?_
          exact ih.2.2.2 _ _ _ _ _ _ _ hM (lv_sub hl [2, 1, 3, 0] rfl) h
  have L6 : ∀ (N : Nat) (j1 : Int64) (v3 : Int32) (σ : xM), ∀ (H : Heap) (locs : List Loc) (ls : Array Slot), xS E B 160 (layX E B) s σ H locs → lv_has ls 5 [(0, .ref (B + r0)), (1, .long j1), (3, .int v3)] → F_L_tale_L6 r0 N j1 v3 σ = some q → W p l e rm_L_tale s m ([.ref (B + r0)] : List Value).toArray below meth c H locs 0 0 (MQ below (xQ E B 160 (layX E B) (some (.long q.1)) q.2) ([.ref (B + r0)] : List Value).toArray s 0 0 (wA B 160)) (F0 m 6 ls []) := by
    clear hM hl h
    intro N
    induction N with
    | zero =>
      intro j1 v3 σ  H locs ls hM hl h
      cases h
    | succ N ih =>
      intro j1 v3 σ  H locs ls hM hl h
      rw [F_L_tale_L6] at h
      refine lv_iload_n hx hb dL_tale_6 rfl (lv_at hl 2 rfl) ?_
      refine lv_bipush (v := 12) hx hb dL_tale_7 (by decide) ?_
      refine lv_icmp_ge (tgt := 31) hx hb dL_tale_9 (by decide) (fun c1 => ?_) (fun c1 => ?_)
      · replace h := it_h c1 h
        refine lv_iconst (v := 0) hx hb dL_tale_31 (by decide) ?_
        refine lv_istore_n (lv' := [(3, .int 0), (0, .ref (B + r0)), (1, .long j1)]) hx hb dL_tale_32 rfl hl (by decide) rfl (fun ls hl => ?_)
        exact (LL _).1 _ _ _ _ _ _ hM (lv_sub hl [1, 2, 0] rfl) h
      · replace h := if_h c1 h
        refine lv_lload_n hx hb dL_tale_12 rfl (lv_at hl 1 rfl) ?_
        refine lv_ldc2 (v := 31) hx hb CX.1.2.2.2.1 (x_hts CX wc_L_10) dL_tale_13 ?_
        refine lv_lmul hx hb dL_tale_16 ?_
        refine lv_aload_n hx hb dL_tale_17 rfl (lv_at hl 0 rfl) ?_
        refine lv_iload_n hx hb dL_tale_18 rfl (lv_at hl 2 rfl) ?_
        obtain ⟨q14, eq14, h⟩ := bd_h h
        refine x_callV (As := [.int v3]) CX hM (kdl hk_r0 rfl) (ly6 hk_r0 _) rfl lk_L_12 (c_X6_count l E B hk_r0 eq14) ⟨rfl, rfl, by decide, by decide⟩ rfl hl.1 rfl (Nat.le_of_ble_eq_true rfl) dL_tale_19 (fun H locs hM => ?_)
        refine W.eq (g2 := F0 m 22 ls [.int q14.1, .long (j1 * 31)]) rfl ?_
        refine lv_i2l hx hb dL_tale_22 rfl ?_
        refine lv_ladd hx hb dL_tale_23 ?_
        refine lv_topl (fun j1_15 ej1_15 => ?_)
        replace h := nm_h ej1_15 h
        refine lv_lstore_n (lv' := [(1, .long j1_15), (0, .ref (B + r0)), (3, .int v3)]) hx hb dL_tale_24 rfl hl (by decide) rfl (fun ls hl => ?_)
        refine lv_iinc (v := (v3 + 1)) (lv' := [(3, .int (v3 + 1)), (1, .long j1_15), (0, .ref (B + r0))]) hx hb dL_tale_25 hl (k := 2) rfl rfl (by decide) rfl (fun ls hl => ?_)
        refine lv_goto (tgt := 6) hx hb dL_tale_28 (by decide) ?_
        exact ih _ _ _  _ _ _ hM (lv_sub hl [2, 1, 0] rfl) h
  refine lv_ldc2 (v := 3) hx hb CX.1.2.2.2.1 (x_hts CX wc_L_8) dL_tale_0 ?_
  refine lv_lstore_n (lv' := [(1, .long 3), (0, .ref (B + r0))]) hx hb dL_tale_3 rfl hl (by decide) rfl (fun ls hl => ?_)
  refine lv_iconst (v := 0) hx hb dL_tale_4 (by decide) ?_
  refine lv_istore_n (lv' := [(3, .int 0), (1, .long 3), (0, .ref (B + r0))]) hx hb dL_tale_5 rfl hl (by decide) rfl (fun ls hl => ?_)
  exact L6 _ _ _ _  _ _ _ hM (lv_sub hl [2, 1, 0] rfl) h
