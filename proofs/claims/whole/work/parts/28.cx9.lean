def rm_X6_isQuiet : Jvm.Room := { frames := 6, cells := 0, slots := 0, locals := 131 }
set_option maxHeartbeats 4000000 in
set_option maxRecDepth 100000 in
theorem c_X6_isQuiet (l : Launch) (E : xE) (B : Nat) {k : Nat} {w1 : Option Nat} {x2 : Int32} {σ : xM} {q : Int32 × xM} (hk_k : kd k = 6) (hk_w1 : ∀ r, w1 = some r → kd r = 3) (h : F_X6_isQuiet k w1 x2 σ = some q) : Met l yX6_isQuiet (Cond.code yX6_isQuiet cX6_isQuiet 5 (some .boolean) :: AL) rm_X6_isQuiet (xP E B 160 (layX E B) [.ref (B + k), va_rf (w1.map (fun k => B + k)), .int x2] σ) (xQ E B 160 (layX E B) (some (.int (bz q.1))) q.2) 0 0 (wA B 160) := by
  rcases w1 with _ | r1
  · refine x_met (plainFor_of_name (by decide +kernel)) (Nat.le_of_ble_eq_true rfl) rfl ?_
    intro p e s m below meth c ls CX hr hlk hM hl
    have hx := CX.1.1
    have hb := CX.1.2.1
    unfold F_X6_isQuiet at h
    replace h := oc_n h
    refine lv_aload_nN hx hb dX6_isQuiet_0 rfl (lv_at hl 1 rfl) ?_
    refine lv_ifnonnullN hx hb dX6_isQuiet_1 ?_
    refine lv_iconst (v := 0) hx hb dX6_isQuiet_4 (by decide) ?_
    obtain rfl := Option.some.inj h
    exact x_zret (y := 0) CX hr hlk hM rfl rfl dX6_isQuiet_5
  · refine x_met (plainFor_of_name (by decide +kernel)) (Nat.le_of_ble_eq_true rfl) rfl ?_
    intro p e s m below meth c ls CX hr hlk hM hl
    have hx := CX.1.1
    have hb := CX.1.2.1
    unfold F_X6_isQuiet at h
    have hk_r1 : kd r1 = 3 := hk_w1 _ rfl
    have L14 : ∀ (N : Nat) (u1 : Nat) (v2 : Int32) (v3 : Int32) (v4 : Int32) (σ : xM), kd u1 = 3 → ∀ (H : Heap) (locs : List Loc) (ls : Array Slot), xS E B 160 (layX E B) s σ H locs → lv_has ls 5 [(0, .ref (B + k)), (1, .ref (B + u1)), (2, .int v2), (3, .int v3), (4, .int v4)] → F_X6_isQuiet_L14 k N u1 v2 v3 v4 σ = some q → W p l e rm_X6_isQuiet s m ([.ref (B + k), .ref (B + r1), .int x2] : List Value).toArray below meth c H locs 0 0 (MQ below (xQ E B 160 (layX E B) (some (.int (bz q.1))) q.2) ([.ref (B + k), .ref (B + r1), .int x2] : List Value).toArray s 0 0 (wA B 160)) (F0 m 14 ls []) := by
      clear hM hl h
      intro N
      induction N with
      | zero =>
        intro u1 v2 v3 v4 σ hk_u1 H locs ls hM hl h
        cases h
      | succ N ih =>
        intro u1 v2 v3 v4 σ hk_u1 H locs ls hM hl h
        rw [F_X6_isQuiet_L14] at h
        refine lv_iload hx hb dX6_isQuiet_14 (lv_at hl 4 rfl) ?_
        refine lv_iload_n hx hb dX6_isQuiet_16 rfl (lv_at hl 2 rfl) ?_
        refine lv_icmp_ge (tgt := 44) hx hb dX6_isQuiet_17 (by decide) (fun c2 => ?_) (fun c2 => ?_)
        · replace h := it_h c2 h
          refine lv_iconst (v := 1) hx hb dX6_isQuiet_44 (by decide) ?_
          obtain rfl := Option.some.inj h
          exact x_zret (y := 1) CX hr hlk hM rfl rfl dX6_isQuiet_45
        · replace h := if_h c2 h
          refine lv_aload_n hx hb dX6_isQuiet_20 rfl (lv_at hl 0 rfl) ?_
          refine g6_1 CX hM hk_k wf_X6_16 dX6_isQuiet_21 ?_
          obtain ⟨q3, eq3, h⟩ := bd_h h
          refine x_callV (As := []) CX hM (kdl (kd6_f hk_k).2.1 rfl) (ly1 (kd6_f hk_k).2.1 _) rfl lk_X6_181 (c_X1_passMinute l E B ((kd6_f hk_k).2.1) eq3) ⟨rfl, rfl, by decide, by decide⟩ rfl hl.1 rfl (Nat.le_of_ble_eq_true rfl) dX6_isQuiet_24 (fun H locs hM => ?_)
          refine W.eq (g2 := F0 m 27 ls [.int q3.1]) rfl ?_
          refine lv_pop hx hb dX6_isQuiet_27 rfl ?_
          refine lv_aload_n hx hb dX6_isQuiet_28 rfl (lv_at hl 1 rfl) ?_
          refine g3_15 CX hM hk_u1 wf_X6_192 dX6_isQuiet_29 ?_
          refine lv_iload_n hx hb dX6_isQuiet_32 rfl (lv_at hl 3 rfl) ?_
          refine lv_icmp_eq (tgt := 38) hx hb dX6_isQuiet_33 (by decide) (fun c4 => ?_) (fun c4 => ?_)
          · replace h := it_h c4 h
            refine lv_iinc (v := (v4 + 1)) (lv' := [(4, .int (v4 + 1)), (0, .ref (B + k)), (1, .ref (B + u1)), (2, .int v2), (3, .int v3)]) hx hb dX6_isQuiet_38 hl (k := 4) rfl rfl (by decide) rfl (fun ls hl => ?_)
            refine lv_goto (tgt := 14) hx hb dX6_isQuiet_41 (by decide) ?_
            exact ih _ _ _ _ _ hk_u1 _ _ _ hM (lv_sub hl [1, 2, 3, 4, 0] rfl) h
          · replace h := if_h c4 h
            refine lv_iconst (v := 0) hx hb dX6_isQuiet_36 (by decide) ?_
            obtain rfl := Option.some.inj h
            exact x_zret (y := 0) CX hr hlk hM rfl rfl dX6_isQuiet_37
    replace h := oc_s h
    refine lv_aload_n hx hb dX6_isQuiet_0 rfl (lv_at hl 1 rfl) ?_
    refine lv_ifnonnull (tgt := 6) hx hb dX6_isQuiet_1 (by decide) ?_
    refine lv_aload_n hx hb dX6_isQuiet_6 rfl (lv_at hl 1 rfl) ?_
    refine g3_15 CX hM hk_r1 wf_X6_192 dX6_isQuiet_7 ?_
    refine lv_topi (fun x3_1 ex3_1 => ?_)
    replace h := nm_h ex3_1 h
    refine lv_istore_n (lv' := [(3, .int x3_1), (0, .ref (B + k)), (1, .ref (B + r1)), (2, .int x2)]) hx hb dX6_isQuiet_10 rfl hl (by decide) rfl (fun ls hl => ?_)
    refine lv_iconst (v := 0) hx hb dX6_isQuiet_11 (by decide) ?_
    refine lv_istore (lv' := [(4, .int 0), (3, .int x3_1), (0, .ref (B + k)), (1, .ref (B + r1)), (2, .int x2)]) hx hb dX6_isQuiet_12 hl (by decide) rfl (fun ls hl => ?_)
    exact L14 _ _ _ _ _ _ hk_r1 _ _ _ hM (lv_sub hl [2, 3, 4, 1, 0] rfl) h
def rm_X6_quietBand : Jvm.Room := { frames := 7, cells := 0, slots := 0, locals := 155 }
set_option maxHeartbeats 4000000 in
set_option maxRecDepth 100000 in
theorem c_X6_quietBand (l : Launch) (E : xE) (B : Nat) {k : Nat} {x1 : Int32} {x2 : Int32} {σ : xM} {q : Int32 × xM} (hk_k : kd k = 6) (h : F_X6_quietBand k x1 x2 σ = some q) : Met l yX6_quietBand (Cond.code yX6_quietBand cX6_quietBand 4 (some .int) :: AL) rm_X6_quietBand (xP E B 160 (layX E B) [.ref (B + k), .int x1, .int x2] σ) (xQ E B 160 (layX E B) (some (.int q.1)) q.2) 0 0 (wA B 160) := by
  refine x_met (plainFor_of_name (by decide +kernel)) (Nat.le_of_ble_eq_true rfl) rfl ?_
  intro p e s m below meth c ls CX hr hlk hM hl
  have hx := CX.1.1
  have hb := CX.1.2.1
  unfold F_X6_quietBand at h
  have L28 : ∀ (N : Nat) (v1 : Int32) (v2 : Int32) (v3 : Int32) (σ : xM), ∀ (H : Heap) (locs : List Loc) (ls : Array Slot), xS E B 160 (layX E B) s σ H locs → lv_has ls 4 [(0, .ref (B + k)), (1, .int v1), (2, .int v2), (3, .int v3)] → F_X6_quietBand_L28 k N v1 v2 v3 σ = some q → W p l e rm_X6_quietBand s m ([.ref (B + k), .int x1, .int x2] : List Value).toArray below meth c H locs 0 0 (MQ below (xQ E B 160 (layX E B) (some (.int q.1)) q.2) ([.ref (B + k), .int x1, .int x2] : List Value).toArray s 0 0 (wA B 160)) (F0 m 28 ls []) := by
    clear hM hl h
    intro N
    induction N with
    | zero =>
      intro v1 v2 v3 σ  H locs ls hM hl h
      cases h
    | succ N ih =>
      intro v1 v2 v3 σ  H locs ls hM hl h
      rw [F_X6_quietBand_L28] at h
      refine lv_iload_n hx hb dX6_quietBand_28 rfl (lv_at hl 3 rfl) ?_
      refine lv_sipush (v := 5000) hx hb dX6_quietBand_29 (by decide) ?_
      refine lv_icmp_gt (tgt := 57) hx hb dX6_quietBand_32 (by decide) (fun c5 => ?_) (fun c5 => ?_)
      · replace h := it_h c5 h
        refine lv_ldc (v := (-1000009)) hx hb CX.1.2.2.2.1 (x_hts CX wc_X6_184) dX6_quietBand_57 ?_
        obtain rfl := Option.some.inj h
        exact x_iret CX hr hlk hM rfl dX6_quietBand_59
      · replace h := if_h c5 h
        refine lv_aload_n hx hb dX6_quietBand_35 rfl (lv_at hl 0 rfl) ?_
        refine lv_aload_n hx hb dX6_quietBand_36 rfl (lv_at hl 0 rfl) ?_
        refine lv_iload_n hx hb dX6_quietBand_37 rfl (lv_at hl 1 rfl) ?_
        refine lv_iload_n hx hb dX6_quietBand_38 rfl (lv_at hl 3 rfl) ?_
        obtain ⟨q6, eq6, h⟩ := bd_h h
        refine x_callV (As := [.int v1, .int v3]) CX hM (kdl hk_k rfl) (ly6 hk_k _) rfl lk_X6_188 (c_X6_forecastWithBand l E B hk_k eq6) ⟨rfl, rfl, by decide, by decide⟩ rfl hl.1 rfl (Nat.le_of_ble_eq_true rfl) dX6_quietBand_39 (fun H locs hM => ?_)
        rcases hq6 : q6.1 with _ | r7
        · rw [hq6] at h
          replace h := oc_n h
          refine W.eq (g2 := F0 m 42 ls [.null, .ref (B + k)]) rfl ?_
          refine lv_iload_n hx hb dX6_quietBand_42 rfl (lv_at hl 2 rfl) ?_
          obtain ⟨q8, eq8, h⟩ := bd_h h
          refine x_callV (As := [.null, .int v2]) CX hM (kdl hk_k rfl) (ly6 hk_k _) rfl lk_X6_195 (c_X6_isQuiet l E B hk_k (fun _ h => by cases h) eq8) ⟨rfl, rfl, by decide, by decide⟩ rfl hl.1 rfl (Nat.le_of_ble_eq_true rfl) dX6_quietBand_43 (fun H locs hM => ?_)
          refine W.eq (g2 := F0 m 46 ls [.int (bz q8.1)]) rfl ?_
          refine lv_if_eq (tgt := 51) hx hb dX6_quietBand_46 (by decide) (fun c9 => ?_) (fun c9 => ?_)
          · replace h := it_h c9 h
            refine lv_iinc (v := (v3 + 100)) (lv' := [(3, .int (v3 + 100)), (0, .ref (B + k)), (1, .int v1), (2, .int v2)]) hx hb dX6_quietBand_51 hl (k := 3) rfl rfl (by decide) rfl (fun ls hl => ?_)
            refine lv_goto (tgt := 28) hx hb dX6_quietBand_54 (by decide) ?_
            exact ih _ _ _ _  _ _ _ hM (lv_sub hl [1, 2, 3, 0] rfl) h
          · replace h := if_h c9 h
            refine lv_iload_n hx hb dX6_quietBand_49 rfl (lv_at hl 3 rfl) ?_
            obtain rfl := Option.some.inj h
            exact x_iret CX hr hlk hM rfl dX6_quietBand_50
        · rw [hq6] at h
          replace h := oc_s h
          obtain ⟨hk_r7, h⟩ := ck_h h
          refine W.eq (g2 := F0 m 42 ls [.ref (B + r7), .ref (B + k)]) rfl ?_
          refine lv_iload_n hx hb dX6_quietBand_42 rfl (lv_at hl 2 rfl) ?_
          obtain ⟨q10, eq10, h⟩ := bd_h h
          refine x_callV (As := [.ref (B + r7), .int v2]) CX hM (kdl hk_k rfl) (ly6 hk_k _) rfl lk_X6_195 (c_X6_isQuiet l E B hk_k (fun _ h => by cases h; exact hk_r7) eq10) ⟨rfl, rfl, by decide, by decide⟩ rfl hl.1 rfl (Nat.le_of_ble_eq_true rfl) dX6_quietBand_43 (fun H locs hM => ?_)
          refine W.eq (g2 := F0 m 46 ls [.int (bz q10.1)]) rfl ?_
          refine lv_if_eq (tgt := 51) hx hb dX6_quietBand_46 (by decide) (fun c11 => ?_) (fun c11 => ?_)
          · replace h := it_h c11 h
            refine lv_iinc (v := (v3 + 100)) (lv' := [(3, .int (v3 + 100)), (0, .ref (B + k)), (1, .int v1), (2, .int v2)]) hx hb dX6_quietBand_51 hl (k := 3) rfl rfl (by decide) rfl (fun ls hl => ?_)
            refine lv_goto (tgt := 28) hx hb dX6_quietBand_54 (by decide) ?_
            exact ih _ _ _ _  _ _ _ hM (lv_sub hl [1, 2, 3, 0] rfl) h
          · replace h := if_h c11 h
            refine lv_iload_n hx hb dX6_quietBand_49 rfl (lv_at hl 3 rfl) ?_
            obtain rfl := Option.some.inj h
            exact x_iret CX hr hlk hM rfl dX6_quietBand_50
  refine lv_aload_n hx hb dX6_quietBand_0 rfl (lv_at hl 0 rfl) ?_
  refine g6_0 CX hM hk_k wf_X6_10 dX6_quietBand_1 ?_
  refine lv_iload_n hx hb dX6_quietBand_4 rfl (lv_at hl 1 rfl) ?_
  obtain ⟨q1, eq1, h⟩ := bd_h h
  refine x_callV (As := [.int x1]) CX hM (kdl (kd6_f hk_k).1 rfl) (ly1 (kd6_f hk_k).1 _) rfl lk_X6_74 (c_X1_roomAt l E B ((kd6_f hk_k).1) eq1) ⟨rfl, rfl, by decide, by decide⟩ rfl hl.1 rfl (Nat.le_of_ble_eq_true rfl) dX6_quietBand_5 (fun H locs hM => ?_)
  rcases hq1 : q1.1 with _ | r2
  · rw [hq1] at h
    replace h := oc_n h
    refine W.eq (g2 := F0 m 8 ls [.null]) rfl ?_
    refine lv_ifnullN (tgt := 22) hx hb dX6_quietBand_8 (by decide) ?_
    refine lv_ldc (v := (-1000001)) hx hb CX.1.2.2.2.1 (x_hts CX wc_X6_44) dX6_quietBand_22 ?_
    obtain rfl := Option.some.inj h
    exact x_iret CX hr hlk hM rfl dX6_quietBand_24
  · rw [hq1] at h
    replace h := oc_s h
    obtain ⟨hk_r2, h⟩ := ck_h h
    refine W.eq (g2 := F0 m 8 ls [.ref (B + r2)]) rfl ?_
    refine lv_ifnull hx hb dX6_quietBand_8 ?_
    refine lv_iload_n hx hb dX6_quietBand_11 rfl (lv_at hl 2 rfl) ?_
    refine lv_iconst (v := 1) hx hb dX6_quietBand_12 (by decide) ?_
    refine lv_sipush (v := 300) hx hb dX6_quietBand_13 (by decide) ?_
    obtain ⟨q3, eq3, h⟩ := bd_h h
    refine x_callS (As := [.int x2, .int 1, .int 300]) CX hM lk_X6_40 (c_X6_within l E B  eq3) ⟨rfl, rfl, by decide, by decide⟩ rfl hl.1 rfl (Nat.le_of_ble_eq_true rfl) dX6_quietBand_16 (fun H locs hM => ?_)
    refine W.eq (g2 := F0 m 19 ls [.int (bz q3.1)]) rfl ?_
    refine lv_if_ne (tgt := 25) hx hb dX6_quietBand_19 (by decide) (fun c4 => ?_) (fun c4 => ?_)
    · replace h := if_h c4 h
      refine lv_bipush (v := 100) hx hb dX6_quietBand_25 (by decide) ?_
      refine lv_istore_n (lv' := [(3, .int 100), (0, .ref (B + k)), (1, .int x1), (2, .int x2)]) hx hb dX6_quietBand_27 rfl hl (by decide) rfl (fun ls hl => ?_)
      exact L28 _ _ _ _ _  _ _ _ hM (lv_sub hl [1, 2, 3, 0] rfl) h
    · replace h := it_h c4 h
      refine lv_ldc (v := (-1000001)) hx hb CX.1.2.2.2.1 (x_hts CX wc_X6_44) dX6_quietBand_22 ?_
      obtain rfl := Option.some.inj h
      exact x_iret CX hr hlk hM rfl dX6_quietBand_24
def rm_X6_undo : Jvm.Room := { frames := 4, cells := 0, slots := 0, locals := 94 }
set_option maxHeartbeats 4000000 in
set_option maxRecDepth 100000 in
theorem c_X6_undo (l : Launch) (E : xE) (B : Nat) {k : Nat} {σ : xM} {q : Int32 × xM} (hk_k : kd k = 6) (h : F_X6_undo k σ = some q) : Met l yX6_undo (Cond.code yX6_undo cX6_undo 1 (some .int) :: AL) rm_X6_undo (xP E B 160 (layX E B) [.ref (B + k)] σ) (xQ E B 160 (layX E B) (some (.int q.1)) q.2) 0 0 (wA B 160) := by
  refine x_met (plainFor_of_name (by decide +kernel)) (Nat.le_of_ble_eq_true rfl) rfl ?_
  intro p e s m below meth c ls CX hr hlk hM hl
  have hx := CX.1.1
  have hb := CX.1.2.1
  unfold F_X6_undo at h
  refine lv_aload_n hx hb dX6_undo_0 rfl (lv_at hl 0 rfl) ?_
  refine g6_2 CX hM hk_k wf_X6_22 dX6_undo_1 ?_
  refine g2_2 CX hM (kd6_f hk_k).2.2.1 wf_X6_156 dX6_undo_4 ?_
  refine lv_if_ne (tgt := 13) hx hb dX6_undo_7 (by decide) (fun c1 => ?_) (fun c1 => ?_)
  · replace h := if_h c1 h
    refine lv_aload_n hx hb dX6_undo_13 rfl (lv_at hl 0 rfl) ?_
    refine g6_2 CX hM hk_k wf_X6_22 dX6_undo_14 ?_
    refine lv_aload_n hx hb dX6_undo_17 rfl (lv_at hl 0 rfl) ?_
    refine g6_0 CX hM hk_k wf_X6_10 dX6_undo_18 ?_
    obtain ⟨q2, eq2, h⟩ := bd_h h
    refine x_callV (As := [.ref (B + (k + 1))]) CX hM (kdl (kd6_f hk_k).2.2.1 rfl) (ly2 (kd6_f hk_k).2.2.1 _) rfl lk_X6_199 (c_X2_restore l E B ((kd6_f hk_k).2.2.1) ((kd6_f hk_k).1) eq2) ⟨rfl, rfl, by decide, by decide⟩ rfl hl.1 rfl (Nat.le_of_ble_eq_true rfl) dX6_undo_21 (fun H locs hM => ?_)
    refine W.eq (g2 := F0 m 24 ls []) rfl ?_
    refine lv_aload_n hx hb dX6_undo_24 rfl (lv_at hl 0 rfl) ?_
    refine g6_2 CX hM hk_k wf_X6_22 dX6_undo_25 ?_
    refine g2_2 CX hM (kd6_f hk_k).2.2.1 wf_X6_156 dX6_undo_28 ?_
    obtain rfl := Option.some.inj h
    exact x_iret CX hr hlk hM rfl dX6_undo_31
  · replace h := it_h c1 h
    refine lv_ldc (v := (-1000002)) hx hb CX.1.2.2.2.1 (x_hts CX wc_X6_69) dX6_undo_10 ?_
    obtain rfl := Option.some.inj h
    exact x_iret CX hr hlk hM rfl dX6_undo_12
