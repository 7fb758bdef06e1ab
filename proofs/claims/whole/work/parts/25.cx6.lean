def rm_X5_readNumber : Jvm.Room := { frames := 2, cells := 0, slots := 0, locals := 42 }
set_option maxHeartbeats 4000000 in
set_option maxRecDepth 100000 in
theorem c_X5_readNumber (l : Launch) (E : xE) (B : Nat) {k : Nat} {σ : xM} {q : Int32 × xM} (hk_k : kd k = 5) (h : F_X5_readNumber k σ = some q) : Met l yX5_readNumber (Cond.code yX5_readNumber cX5_readNumber 4 (some .int) :: AL) rm_X5_readNumber (xP E B 160 (layX E B) [.ref (B + k)] σ) (xQ E B 160 (layX E B) (some (.int q.1)) q.2) 0 0 (wA B 160) := by
  refine x_met (plainFor_of_name (by decide +kernel)) (Nat.le_of_ble_eq_true rfl) rfl ?_
  intro p e s m below meth c ls CX hr hlk hM hl
  have hx := CX.1.1
  have hb := CX.1.2.1
  unfold F_X5_readNumber at h
  have J71 : ∀ (v1 : Int32) (v2 : Int32) (v3 : Int32) (σ : xM), ∀ (H : Heap) (locs : List Loc) (ls : Array Slot), xS E B 160 (layX E B) s σ H locs → lv_has ls 4 [(0, .ref (B + k)), (1, .int v1), (2, .int v2), (3, .int v3)] → F_X5_readNumber_J71 k v1 v2 v3 σ = some q → W p l e rm_X5_readNumber s m ([.ref (B + k)] : List Value).toArray below meth c H locs 0 0 (MQ below (xQ E B 160 (layX E B) (some (.int q.1)) q.2) ([.ref (B + k)] : List Value).toArray s 0 0 (wA B 160)) (F0 m 71 ls []) := by
    clear hM hl h
    intro v1 v2 v3 σ  H locs ls hM hl h
    unfold F_X5_readNumber_J71 at h
    refine lv_iload_n hx hb dX5_readNumber_71 rfl (lv_at hl 1 rfl) ?_
    refine lv_if_eq (tgt := 90) hx hb dX5_readNumber_72 (by decide) (fun c5 => ?_) (fun c5 => ?_)
    · replace h := it_h c5 h
      refine lv_iload_n hx hb dX5_readNumber_90 rfl (lv_at hl 3 rfl) ?_
      obtain rfl := Option.some.inj h
      exact x_iret CX hr hlk hM rfl dX5_readNumber_91
    · replace h := if_h c5 h
      refine lv_aload_n hx hb dX5_readNumber_75 rfl (lv_at hl 0 rfl) ?_
      refine g5_2 CX hM hk_k wf_X5_24 dX5_readNumber_76 ?_
      refine lv_iload_n hx hb dX5_readNumber_79 rfl (lv_at hl 2 rfl) ?_
      refine lv_iconst (v := 1) hx hb dX5_readNumber_80 (by decide) ?_
      refine lv_iadd hx hb dX5_readNumber_81 ?_
      refine lv_icmp_le (tgt := 90) hx hb dX5_readNumber_82 (by decide) (fun c6 => ?_) (fun c6 => ?_)
      · replace h := it_h c6 h
        refine lv_iload_n hx hb dX5_readNumber_90 rfl (lv_at hl 3 rfl) ?_
        obtain rfl := Option.some.inj h
        exact x_iret CX hr hlk hM rfl dX5_readNumber_91
      · replace h := if_h c6 h
        refine lv_ldc (v := 1000000) hx hb CX.1.2.2.2.1 (x_hts CX wc_X5_57) dX5_readNumber_85 ?_
        refine lv_goto (tgt := 91) hx hb dX5_readNumber_87 (by decide) ?_
        obtain rfl := Option.some.inj h
        exact x_iret CX hr hlk hM rfl dX5_readNumber_91
  have L22 : ∀ (N : Nat) (v1 : Int32) (v2 : Int32) (v3 : Int32) (σ : xM), ∀ (H : Heap) (locs : List Loc) (ls : Array Slot), xS E B 160 (layX E B) s σ H locs → lv_has ls 4 [(0, .ref (B + k)), (1, .int v1), (2, .int v2), (3, .int v3)] → F_X5_readNumber_L22 k N v1 v2 v3 σ = some q → W p l e rm_X5_readNumber s m ([.ref (B + k)] : List Value).toArray below meth c H locs 0 0 (MQ below (xQ E B 160 (layX E B) (some (.int q.1)) q.2) ([.ref (B + k)] : List Value).toArray s 0 0 (wA B 160)) (F0 m 22 ls []) := by
    clear hM hl h
    intro N
    induction N with
    | zero =>
      intro v1 v2 v3 σ  H locs ls hM hl h
      cases h
    | succ N ih =>
      intro v1 v2 v3 σ  H locs ls hM hl h
      rw [F_X5_readNumber_L22] at h
      refine lv_aload_n hx hb dX5_readNumber_22 rfl (lv_at hl 0 rfl) ?_
      refine g5_2 CX hM hk_k wf_X5_24 dX5_readNumber_23 ?_
      refine lv_aload_n hx hb dX5_readNumber_26 rfl (lv_at hl 0 rfl) ?_
      refine g5_1 CX hM hk_k wf_X5_15 dX5_readNumber_27 ?_
      refine lv_icmp_ge (tgt := 71) hx hb dX5_readNumber_30 (by decide) (fun c4 => ?_) (fun c4 => ?_)
      · replace h := it_h c4 h
        exact J71 _ _ _ _  _ _ _ hM (lv_sub hl [0, 1, 2, 3] rfl) h
      · replace h := if_h c4 h
        refine lv_aload_n hx hb dX5_readNumber_33 rfl (lv_at hl 0 rfl) ?_
        obtain ⟨q7, eq7, h⟩ := bd_h h
        refine x_callV (As := []) CX hM (kdl hk_k rfl) (ly5 hk_k _) rfl lk_X5_38 (c_X5_isDigitHere l E B hk_k eq7) ⟨rfl, rfl, by decide, by decide⟩ rfl hl.1 rfl (Nat.le_of_ble_eq_true rfl) dX5_readNumber_34 (fun H locs hM => ?_)
        refine W.eq (g2 := F0 m 37 ls [.int (bz q7.1)]) rfl ?_
        refine lv_if_eq (tgt := 71) hx hb dX5_readNumber_37 (by decide) (fun c8 => ?_) (fun c8 => ?_)
        · replace h := it_h c8 h
          exact J71 _ _ _ _  _ _ _ hM (lv_sub hl [0, 1, 2, 3] rfl) h
        · replace h := if_h c8 h
          refine lv_bipush (v := 10) hx hb dX5_readNumber_40 (by decide) ?_
          refine lv_iload_n hx hb dX5_readNumber_42 rfl (lv_at hl 3 rfl) ?_
          refine lv_imul hx hb dX5_readNumber_43 ?_
          refine lv_aload_n hx hb dX5_readNumber_44 rfl (lv_at hl 0 rfl) ?_
          obtain ⟨q9, eq9, h⟩ := bd_h h
          refine x_callV (As := []) CX hM (kdl hk_k rfl) (ly5 hk_k _) rfl lk_X5_30 (c_X5_here l E B hk_k eq9) ⟨rfl, rfl, by decide, by decide⟩ rfl hl.1 rfl (Nat.le_of_ble_eq_true rfl) dX5_readNumber_45 (fun H locs hM => ?_)
          refine W.eq (g2 := F0 m 48 ls [.int q9.1, .int (10 * v3)]) rfl ?_
          refine lv_iadd hx hb dX5_readNumber_48 ?_
          refine lv_bipush (v := 48) hx hb dX5_readNumber_49 (by decide) ?_
          refine lv_isub hx hb dX5_readNumber_51 ?_
          refine lv_ldc (v := 1000000) hx hb CX.1.2.2.2.1 (x_hts CX wc_X5_57) dX5_readNumber_52 ?_
          obtain ⟨q10, eq10, h⟩ := bd_h h
          refine x_callS (As := [.int (((10 * v3) + q9.1) - 48), .int 1000000]) CX hM lk_X5_58 (c_J9_min_7cf53 l E B  eq10) ⟨rfl, rfl, by decide, by decide⟩ rfl hl.1 rfl (Nat.le_of_ble_eq_true rfl) dX5_readNumber_54 (fun H locs hM => ?_)
          refine W.eq (g2 := F0 m 57 ls [.int q10.1]) rfl ?_
          refine lv_istore_n (lv' := [(3, .int q10.1), (0, .ref (B + k)), (1, .int v1), (2, .int v2)]) hx hb dX5_readNumber_57 rfl hl (by decide) rfl (fun ls hl => ?_)
          refine lv_aload_n hx hb dX5_readNumber_58 rfl (lv_at hl 1 rfl) ?_
          refine lv_dup hx hb dX5_readNumber_59 rfl ?_
          refine g5_2 CX hM hk_k wf_X5_24 dX5_readNumber_60 ?_
          refine lv_iconst (v := 1) hx hb dX5_readNumber_63 (by decide) ?_
          refine lv_iadd hx hb dX5_readNumber_64 ?_
          refine p5_2 (y := ((q10.2 k 2) + 1)) CX hM hk_k wf_X5_24 dX5_readNumber_65 (fun H locs σ11 eσ11 hM => ?_)
          replace h := nm_h eσ11 h
          refine lv_goto (tgt := 22) hx hb dX5_readNumber_68 (by decide) ?_
          exact ih _ _ _ _  _ _ _ hM (lv_sub hl [1, 2, 3, 0] rfl) h
  have J14 : ∀ (y0 : Int32) (σ : xM), ∀ (H : Heap) (locs : List Loc) (ls : Array Slot), xS E B 160 (layX E B) s σ H locs → lv_has ls 4 [(0, .ref (B + k))] → F_X5_readNumber_J14 k y0 σ = some q → W p l e rm_X5_readNumber s m ([.ref (B + k)] : List Value).toArray below meth c H locs 0 0 (MQ below (xQ E B 160 (layX E B) (some (.int q.1)) q.2) ([.ref (B + k)] : List Value).toArray s 0 0 (wA B 160)) (F0 m 14 ls [.int y0]) := by
    clear hM hl h
    intro y0 σ  H locs ls hM hl h
    unfold F_X5_readNumber_J14 at h
    refine lv_istore_n (lv' := [(1, .int y0), (0, .ref (B + k))]) hx hb dX5_readNumber_14 rfl hl (by decide) rfl (fun ls hl => ?_)
    refine lv_aload_n hx hb dX5_readNumber_15 rfl (lv_at hl 1 rfl) ?_
    refine g5_2 CX hM hk_k wf_X5_24 dX5_readNumber_16 ?_
    refine lv_topi (fun x2_3 ex2_3 => ?_)
    replace h := nm_h ex2_3 h
    refine lv_istore_n (lv' := [(2, .int x2_3), (1, .int y0), (0, .ref (B + k))]) hx hb dX5_readNumber_19 rfl hl (by decide) rfl (fun ls hl => ?_)
    refine lv_iconst (v := 0) hx hb dX5_readNumber_20 (by decide) ?_
    refine lv_istore_n (lv' := [(3, .int 0), (2, .int x2_3), (1, .int y0), (0, .ref (B + k))]) hx hb dX5_readNumber_21 rfl hl (by decide) rfl (fun ls hl => ?_)
    exact L22 _ _ _ _ _  _ _ _ hM (lv_sub hl [3, 2, 1, 0] rfl) h
  refine lv_aload_n hx hb dX5_readNumber_0 rfl (lv_at hl 0 rfl) ?_
  obtain ⟨q1, eq1, h⟩ := bd_h h
  refine x_callV (As := []) CX hM (kdl hk_k rfl) (ly5 hk_k _) rfl lk_X5_30 (c_X5_here l E B hk_k eq1) ⟨rfl, rfl, by decide, by decide⟩ rfl hl.1 rfl (Nat.le_of_ble_eq_true rfl) dX5_readNumber_1 (fun H locs hM => ?_)
  refine W.eq (g2 := F0 m 4 ls [.int q1.1]) rfl ?_
  refine lv_bipush (v := 48) hx hb dX5_readNumber_4 (by decide) ?_
  refine lv_icmp_ne (tgt := 13) hx hb dX5_readNumber_6 (by decide) (fun c2 => ?_) (fun c2 => ?_)
  · replace h := if_h c2 h
    refine lv_iconst (v := 0) hx hb dX5_readNumber_13 (by decide) ?_
    exact J14 _ _  _ _ _ hM (lv_sub hl [0] rfl) h
  · replace h := it_h c2 h
    refine lv_iconst (v := 1) hx hb dX5_readNumber_9 (by decide) ?_
    refine lv_goto (tgt := 14) hx hb dX5_readNumber_10 (by decide) ?_
    exact J14 _ _  _ _ _ hM (lv_sub hl [0] rfl) h
def rm_X5_readTemperature : Jvm.Room := { frames := 3, cells := 0, slots := 0, locals := 65 }
set_option maxHeartbeats 4000000 in
set_option maxRecDepth 100000 in
theorem c_X5_readTemperature (l : Launch) (E : xE) (B : Nat) {k : Nat} {r1 : Nat} {x2 : Int32} {σ : xM} {q : Int32 × xM} (hk_k : kd k = 5) (hk_r1 : kd r1 = 4) (h : F_X5_readTemperature k r1 x2 σ = some q) : Met l yX5_readTemperature (Cond.code yX5_readTemperature cX5_readTemperature 6 (some .int) :: AL) rm_X5_readTemperature (xP E B 160 (layX E B) [.ref (B + k), .ref (B + r1), .int x2] σ) (xQ E B 160 (layX E B) (some (.int q.1)) q.2) 0 0 (wA B 160) := by
  refine x_met (plainFor_of_name (by decide +kernel)) (Nat.le_of_ble_eq_true rfl) rfl ?_
  intro p e s m below meth c ls CX hr hlk hM hl
  have hx := CX.1.1
  have hb := CX.1.2.1
  unfold F_X5_readTemperature at h
  have J78 : ∀ (y0 : Int32) (y1 : Int32) (σ : xM), ∀ (H : Heap) (locs : List Loc) (ls : Array Slot), xS E B 160 (layX E B) s σ H locs → lv_has ls 6 [(0, .ref (B + k))] → F_X5_readTemperature_J78 k r1 y0 y1 σ = some q → W p l e rm_X5_readTemperature s m ([.ref (B + k), .ref (B + r1), .int x2] : List Value).toArray below meth c H locs 0 0 (MQ below (xQ E B 160 (layX E B) (some (.int q.1)) q.2) ([.ref (B + k), .ref (B + r1), .int x2] : List Value).toArray s 0 0 (wA B 160)) (F0 m 78 ls [.int y0, .int y1, .ref (B + r1)]) := by
    clear hM hl h
    intro y0 y1 σ  H locs ls hM hl h
    unfold F_X5_readTemperature_J78 at h
    obtain ⟨q10, eq10, h⟩ := bd_h h
    refine x_callV (As := [.int y1, .int y0]) CX hM (kdl hk_r1 rfl) (ly4 hk_r1 _) rfl lk_X5_53 (c_X4_add l E B hk_r1 eq10) ⟨rfl, rfl, by decide, by decide⟩ rfl hl.1 rfl (Nat.le_of_ble_eq_true rfl) dX5_readTemperature_78 (fun H locs hM => ?_)
    refine W.eq (g2 := F0 m 81 ls []) rfl ?_
    refine lv_aload_n hx hb dX5_readTemperature_81 rfl (lv_at hl 0 rfl) ?_
    obtain ⟨q11, eq11, h⟩ := bd_h h
    refine x_callV (As := []) CX hM (kdl hk_k rfl) (ly5 hk_k _) rfl lk_X5_27 (c_X5_skipSpaces l E B hk_k eq11) ⟨rfl, rfl, by decide, by decide⟩ rfl hl.1 rfl (Nat.le_of_ble_eq_true rfl) dX5_readTemperature_82 (fun H locs hM => ?_)
    refine W.eq (g2 := F0 m 85 ls []) rfl ?_
    refine lv_iconst (v := (-1)) hx hb dX5_readTemperature_85 (by decide) ?_
    obtain rfl := Option.some.inj h
    exact x_iret CX hr hlk hM rfl dX5_readTemperature_86
  have J36 : ∀ (v2 : Int32) (v3 : Int32) (v4 : Int32) (σ : xM), ∀ (H : Heap) (locs : List Loc) (ls : Array Slot), xS E B 160 (layX E B) s σ H locs → lv_has ls 6 [(0, .ref (B + k)), (1, .ref (B + r1)), (2, .int v2), (3, .int v3), (4, .int v4)] → F_X5_readTemperature_J36 k r1 v2 v3 v4 σ = some q → W p l e rm_X5_readTemperature s m ([.ref (B + k), .ref (B + r1), .int x2] : List Value).toArray below meth c H locs 0 0 (MQ below (xQ E B 160 (layX E B) (some (.int q.1)) q.2) ([.ref (B + k), .ref (B + r1), .int x2] : List Value).toArray s 0 0 (wA B 160)) (F0 m 36 ls []) := by
    clear hM hl h
    intro v2 v3 v4 σ  H locs ls hM hl h
    unfold F_X5_readTemperature_J36 at h
    refine lv_aload_n hx hb dX5_readTemperature_36 rfl (lv_at hl 0 rfl) ?_
    obtain ⟨q5, eq5, h⟩ := bd_h h
    refine x_callV (As := []) CX hM (kdl hk_k rfl) (ly5 hk_k _) rfl lk_X5_38 (c_X5_isDigitHere l E B hk_k eq5) ⟨rfl, rfl, by decide, by decide⟩ rfl hl.1 rfl (Nat.le_of_ble_eq_true rfl) dX5_readTemperature_37 (fun H locs hM => ?_)
    refine W.eq (g2 := F0 m 40 ls [.int (bz q5.1)]) rfl ?_
    refine lv_if_ne (tgt := 48) hx hb dX5_readTemperature_40 (by decide) (fun c6 => ?_) (fun c6 => ?_)
    · replace h := if_h c6 h
      refine lv_aload_n hx hb dX5_readTemperature_48 rfl (lv_at hl 0 rfl) ?_
      obtain ⟨q7, eq7, h⟩ := bd_h h
      refine x_callV (As := []) CX hM (kdl hk_k rfl) (ly5 hk_k _) rfl lk_X5_42 (c_X5_readNumber l E B hk_k eq7) ⟨rfl, rfl, by decide, by decide⟩ rfl hl.1 rfl (Nat.le_of_ble_eq_true rfl) dX5_readTemperature_49 (fun H locs hM => ?_)
      refine W.eq (g2 := F0 m 52 ls [.int q7.1]) rfl ?_
      refine lv_istore (lv' := [(5, .int q7.1), (0, .ref (B + k)), (1, .ref (B + r1)), (2, .int v2), (3, .int v3), (4, .int v4)]) hx hb dX5_readTemperature_52 hl (by decide) rfl (fun ls hl => ?_)
      refine lv_iload hx hb dX5_readTemperature_54 (lv_at hl 0 rfl) ?_
      refine lv_bipush (v := 40) hx hb dX5_readTemperature_56 (by decide) ?_
      refine lv_icmp_le (tgt := 63) hx hb dX5_readTemperature_58 (by decide) (fun c8 => ?_) (fun c8 => ?_)
      · replace h := it_h c8 h
        refine lv_aload_n hx hb dX5_readTemperature_63 rfl (lv_at hl 2 rfl) ?_
        refine lv_iload_n hx hb dX5_readTemperature_64 rfl (lv_at hl 3 rfl) ?_
        refine lv_iload hx hb dX5_readTemperature_65 (lv_at hl 5 rfl) ?_
        refine lv_if_eq (tgt := 76) hx hb dX5_readTemperature_67 (by decide) (fun c9 => ?_) (fun c9 => ?_)
        · replace h := it_h c9 h
          refine lv_iload hx hb dX5_readTemperature_76 (lv_at hl 0 rfl) ?_
          exact J78 _ _ _  _ _ _ hM (lv_sub hl [1] rfl) h
        · replace h := if_h c9 h
          refine lv_iload hx hb dX5_readTemperature_70 (lv_at hl 0 rfl) ?_
          refine lv_ineg hx hb dX5_readTemperature_72 ?_
          refine lv_goto (tgt := 78) hx hb dX5_readTemperature_73 (by decide) ?_
          exact J78 _ _ _  _ _ _ hM (lv_sub hl [1] rfl) h
      · replace h := if_h c8 h
        refine lv_iload_n hx hb dX5_readTemperature_61 rfl (lv_at hl 4 rfl) ?_
        obtain rfl := Option.some.inj h
        exact x_iret CX hr hlk hM rfl dX5_readTemperature_62
    · replace h := it_h c6 h
      refine lv_aload_n hx hb dX5_readTemperature_43 rfl (lv_at hl 0 rfl) ?_
      refine g5_2 CX hM hk_k wf_X5_24 dX5_readTemperature_44 ?_
      obtain rfl := Option.some.inj h
      exact x_iret CX hr hlk hM rfl dX5_readTemperature_47
  have J19 : ∀ (v2 : Int32) (v3 : Int32) (y0 : Int32) (σ : xM), ∀ (H : Heap) (locs : List Loc) (ls : Array Slot), xS E B 160 (layX E B) s σ H locs → lv_has ls 6 [(0, .ref (B + k)), (1, .ref (B + r1)), (2, .int v2), (3, .int v3)] → F_X5_readTemperature_J19 k r1 v2 v3 y0 σ = some q → W p l e rm_X5_readTemperature s m ([.ref (B + k), .ref (B + r1), .int x2] : List Value).toArray below meth c H locs 0 0 (MQ below (xQ E B 160 (layX E B) (some (.int q.1)) q.2) ([.ref (B + k), .ref (B + r1), .int x2] : List Value).toArray s 0 0 (wA B 160)) (F0 m 19 ls [.int y0]) := by
    clear hM hl h
    intro v2 v3 y0 σ  H locs ls hM hl h
    unfold F_X5_readTemperature_J19 at h
    refine lv_istore (lv' := [(4, .int y0), (0, .ref (B + k)), (1, .ref (B + r1)), (2, .int v2), (3, .int v3)]) hx hb dX5_readTemperature_19 hl (by decide) rfl (fun ls hl => ?_)
    refine lv_iload hx hb dX5_readTemperature_21 (lv_at hl 0 rfl) ?_
    refine lv_if_eq (tgt := 36) hx hb dX5_readTemperature_23 (by decide) (fun c4 => ?_) (fun c4 => ?_)
    · replace h := it_h c4 h
      exact J36 _ _ _ _  _ _ _ hM (lv_sub hl [1, 2, 3, 4, 0] rfl) h
    · replace h := if_h c4 h
      refine lv_aload_n hx hb dX5_readTemperature_26 rfl (lv_at hl 1 rfl) ?_
      refine lv_dup hx hb dX5_readTemperature_27 rfl ?_
      refine g5_2 CX hM hk_k wf_X5_24 dX5_readTemperature_28 ?_
      refine lv_iconst (v := 1) hx hb dX5_readTemperature_31 (by decide) ?_
      refine lv_iadd hx hb dX5_readTemperature_32 ?_
      refine p5_2 (y := ((σ k 2) + 1)) CX hM hk_k wf_X5_24 dX5_readTemperature_33 (fun H locs σ12 eσ12 hM => ?_)
      replace h := nm_h eσ12 h
      exact J36 _ _ _ _  _ _ _ hM (lv_sub hl [1, 2, 3, 4, 0] rfl) h
  refine lv_aload_n hx hb dX5_readTemperature_0 rfl (lv_at hl 0 rfl) ?_
  refine g5_2 CX hM hk_k wf_X5_24 dX5_readTemperature_1 ?_
  refine lv_topi (fun x3_1 ex3_1 => ?_)
  replace h := nm_h ex3_1 h
  refine lv_istore_n (lv' := [(3, .int x3_1), (0, .ref (B + k)), (1, .ref (B + r1)), (2, .int x2)]) hx hb dX5_readTemperature_4 rfl hl (by decide) rfl (fun ls hl => ?_)
  refine lv_aload_n hx hb dX5_readTemperature_5 rfl (lv_at hl 1 rfl) ?_
  obtain ⟨q2, eq2, h⟩ := bd_h h
  refine x_callV (As := []) CX hM (kdl hk_k rfl) (ly5 hk_k _) rfl lk_X5_30 (c_X5_here l E B hk_k eq2) ⟨rfl, rfl, by decide, by decide⟩ rfl hl.1 rfl (Nat.le_of_ble_eq_true rfl) dX5_readTemperature_6 (fun H locs hM => ?_)
  refine W.eq (g2 := F0 m 9 ls [.int q2.1]) rfl ?_
  refine lv_bipush (v := 45) hx hb dX5_readTemperature_9 (by decide) ?_
  refine lv_icmp_ne (tgt := 18) hx hb dX5_readTemperature_11 (by decide) (fun c3 => ?_) (fun c3 => ?_)
  · replace h := if_h c3 h
    refine lv_iconst (v := 0) hx hb dX5_readTemperature_18 (by decide) ?_
    exact J19 _ _ _ _  _ _ _ hM (lv_sub hl [1, 2, 3, 0] rfl) h
  · replace h := it_h c3 h
    refine lv_iconst (v := 1) hx hb dX5_readTemperature_14 (by decide) ?_
    refine lv_goto (tgt := 19) hx hb dX5_readTemperature_15 (by decide) ?_
    exact J19 _ _ _ _  _ _ _ hM (lv_sub hl [1, 2, 3, 0] rfl) h
def rm_X5_readPoint : Jvm.Room := { frames := 4, cells := 0, slots := 0, locals := 90 }
set_option maxHeartbeats 4000000 in
set_option maxRecDepth 100000 in
theorem c_X5_readPoint (l : Launch) (E : xE) (B : Nat) {k : Nat} {r1 : Nat} {σ : xM} {q : Int32 × xM} (hk_k : kd k = 5) (hk_r1 : kd r1 = 4) (h : F_X5_readPoint k r1 σ = some q) : Met l yX5_readPoint (Cond.code yX5_readPoint cX5_readPoint 4 (some .int) :: AL) rm_X5_readPoint (xP E B 160 (layX E B) [.ref (B + k), .ref (B + r1)] σ) (xQ E B 160 (layX E B) (some (.int q.1)) q.2) 0 0 (wA B 160) := by
  refine x_met (plainFor_of_name (by decide +kernel)) (Nat.le_of_ble_eq_true rfl) rfl ?_
  intro p e s m below meth c ls CX hr hlk hM hl
  have hx := CX.1.1
  have hb := CX.1.2.1
  unfold F_X5_readPoint at h
  refine lv_aload_n hx hb dX5_readPoint_0 rfl (lv_at hl 0 rfl) ?_
  obtain ⟨q1, eq1, h⟩ := bd_h h
  refine x_callV (As := []) CX hM (kdl hk_k rfl) (ly5 hk_k _) rfl lk_X5_38 (c_X5_isDigitHere l E B hk_k eq1) ⟨rfl, rfl, by decide, by decide⟩ rfl hl.1 rfl (Nat.le_of_ble_eq_true rfl) dX5_readPoint_1 (fun H locs hM => ?_)
  refine W.eq (g2 := F0 m 4 ls [.int (bz q1.1)]) rfl ?_
  refine lv_if_ne (tgt := 12) hx hb dX5_readPoint_4 (by decide) (fun c2 => ?_) (fun c2 => ?_)
  · replace h := if_h c2 h
    refine lv_aload_n hx hb dX5_readPoint_12 rfl (lv_at hl 0 rfl) ?_
    refine g5_2 CX hM hk_k wf_X5_24 dX5_readPoint_13 ?_
    refine lv_topi (fun x2_3 ex2_3 => ?_)
    replace h := nm_h ex2_3 h
    refine lv_istore_n (lv' := [(2, .int x2_3), (0, .ref (B + k)), (1, .ref (B + r1))]) hx hb dX5_readPoint_16 rfl hl (by decide) rfl (fun ls hl => ?_)
    refine lv_aload_n hx hb dX5_readPoint_17 rfl (lv_at hl 1 rfl) ?_
    obtain ⟨q4, eq4, h⟩ := bd_h h
    refine x_callV (As := []) CX hM (kdl hk_k rfl) (ly5 hk_k _) rfl lk_X5_42 (c_X5_readNumber l E B hk_k eq4) ⟨rfl, rfl, by decide, by decide⟩ rfl hl.1 rfl (Nat.le_of_ble_eq_true rfl) dX5_readPoint_18 (fun H locs hM => ?_)
    refine W.eq (g2 := F0 m 21 ls [.int q4.1]) rfl ?_
    refine lv_istore_n (lv' := [(3, .int q4.1), (2, .int x2_3), (0, .ref (B + k)), (1, .ref (B + r1))]) hx hb dX5_readPoint_21 rfl hl (by decide) rfl (fun ls hl => ?_)
    refine lv_aload_n hx hb dX5_readPoint_22 rfl (lv_at hl 3 rfl) ?_
    refine lv_iload_n hx hb dX5_readPoint_23 rfl (lv_at hl 0 rfl) ?_
    obtain ⟨q5, eq5, h⟩ := bd_h h
    refine x_callV (As := [.int q4.1]) CX hM (kdl hk_r1 rfl) (ly4 hk_r1 _) rfl lk_X5_45 (c_X4_canTake l E B hk_r1 eq5) ⟨rfl, rfl, by decide, by decide⟩ rfl hl.1 rfl (Nat.le_of_ble_eq_true rfl) dX5_readPoint_24 (fun H locs hM => ?_)
    refine W.eq (g2 := F0 m 27 ls [.int (bz q5.1)]) rfl ?_
    refine lv_if_ne (tgt := 32) hx hb dX5_readPoint_27 (by decide) (fun c6 => ?_) (fun c6 => ?_)
    · replace h := if_h c6 h
      refine lv_aload_n hx hb dX5_readPoint_32 rfl (lv_at hl 2 rfl) ?_
      obtain ⟨q7, eq7, h⟩ := bd_h h
      refine x_callV (As := []) CX hM (kdl hk_k rfl) (ly5 hk_k _) rfl lk_X5_27 (c_X5_skipSpaces l E B hk_k eq7) ⟨rfl, rfl, by decide, by decide⟩ rfl hl.1 rfl (Nat.le_of_ble_eq_true rfl) dX5_readPoint_33 (fun H locs hM => ?_)
      refine W.eq (g2 := F0 m 36 ls []) rfl ?_
      refine lv_aload_n hx hb dX5_readPoint_36 rfl (lv_at hl 2 rfl) ?_
      obtain ⟨q8, eq8, h⟩ := bd_h h
      refine x_callV (As := []) CX hM (kdl hk_k rfl) (ly5 hk_k _) rfl lk_X5_30 (c_X5_here l E B hk_k eq8) ⟨rfl, rfl, by decide, by decide⟩ rfl hl.1 rfl (Nat.le_of_ble_eq_true rfl) dX5_readPoint_37 (fun H locs hM => ?_)
      refine W.eq (g2 := F0 m 40 ls [.int q8.1]) rfl ?_
      refine lv_bipush (v := 61) hx hb dX5_readPoint_40 (by decide) ?_
      refine lv_icmp_eq (tgt := 50) hx hb dX5_readPoint_42 (by decide) (fun c9 => ?_) (fun c9 => ?_)
      · replace h := it_h c9 h
        refine lv_aload_n hx hb dX5_readPoint_50 rfl (lv_at hl 2 rfl) ?_
        refine lv_dup hx hb dX5_readPoint_51 rfl ?_
        refine g5_2 CX hM hk_k wf_X5_24 dX5_readPoint_52 ?_
        refine lv_iconst (v := 1) hx hb dX5_readPoint_55 (by decide) ?_
        refine lv_iadd hx hb dX5_readPoint_56 ?_
        refine p5_2 (y := ((q8.2 k 2) + 1)) CX hM hk_k wf_X5_24 dX5_readPoint_57 (fun H locs σ10 eσ10 hM => ?_)
        replace h := nm_h eσ10 h
        refine lv_aload_n hx hb dX5_readPoint_60 rfl (lv_at hl 2 rfl) ?_
        obtain ⟨q11, eq11, h⟩ := bd_h h
        refine x_callV (As := []) CX hM (kdl hk_k rfl) (ly5 hk_k _) rfl lk_X5_27 (c_X5_skipSpaces l E B hk_k eq11) ⟨rfl, rfl, by decide, by decide⟩ rfl hl.1 rfl (Nat.le_of_ble_eq_true rfl) dX5_readPoint_61 (fun H locs hM => ?_)
        refine W.eq (g2 := F0 m 64 ls []) rfl ?_
        refine lv_aload_n hx hb dX5_readPoint_64 rfl (lv_at hl 2 rfl) ?_
        refine lv_aload_n hx hb dX5_readPoint_65 rfl (lv_at hl 3 rfl) ?_
        refine lv_iload_n hx hb dX5_readPoint_66 rfl (lv_at hl 0 rfl) ?_
        obtain ⟨q12, eq12, h⟩ := bd_h h
        refine x_callV (As := [.ref (B + r1), .int q4.1]) CX hM (kdl hk_k rfl) (ly5 hk_k _) rfl lk_X5_49 (c_X5_readTemperature l E B hk_k hk_r1 eq12) ⟨rfl, rfl, by decide, by decide⟩ rfl hl.1 rfl (Nat.le_of_ble_eq_true rfl) dX5_readPoint_67 (fun H locs hM => ?_)
        refine W.eq (g2 := F0 m 70 ls [.int q12.1]) rfl ?_
        obtain rfl := Option.some.inj h
        exact x_iret CX hr hlk hM rfl dX5_readPoint_70
      · replace h := if_h c9 h
        refine lv_aload_n hx hb dX5_readPoint_45 rfl (lv_at hl 2 rfl) ?_
        refine g5_2 CX hM hk_k wf_X5_24 dX5_readPoint_46 ?_
        obtain rfl := Option.some.inj h
        exact x_iret CX hr hlk hM rfl dX5_readPoint_49
    · replace h := it_h c6 h
      refine lv_iload_n hx hb dX5_readPoint_30 rfl (lv_at hl 1 rfl) ?_
      obtain rfl := Option.some.inj h
      exact x_iret CX hr hlk hM rfl dX5_readPoint_31
  · replace h := it_h c2 h
    refine lv_aload_n hx hb dX5_readPoint_7 rfl (lv_at hl 0 rfl) ?_
    refine g5_2 CX hM hk_k wf_X5_24 dX5_readPoint_8 ?_
    obtain rfl := Option.some.inj h
    exact x_iret CX hr hlk hM rfl dX5_readPoint_11
def rm_X5_readInto : Jvm.Room := { frames := 5, cells := 0, slots := 0, locals := 113 }
set_option maxHeartbeats 4000000 in
set_option maxRecDepth 100000 in
theorem c_X5_readInto (l : Launch) (E : xE) (B : Nat) {k : Nat} {r1 : Nat} {σ : xM} {q : Int32 × xM} (hk_k : kd k = 5) (hk_r1 : kd r1 = 4) (h : F_X5_readInto k r1 σ = some q) : Met l yX5_readInto (Cond.code yX5_readInto cX5_readInto 3 (some .int) :: AL) rm_X5_readInto (xP E B 160 (layX E B) [.ref (B + k), .ref (B + r1)] σ) (xQ E B 160 (layX E B) (some (.int q.1)) q.2) 0 0 (wA B 160) := by
  refine x_met (plainFor_of_name (by decide +kernel)) (Nat.le_of_ble_eq_true rfl) rfl ?_
  intro p e s m below meth c ls CX hr hlk hM hl
  have hx := CX.1.1
  have hb := CX.1.2.1
  unfold F_X5_readInto at h
  have L30 : ∀ (N : Nat) (v2 : Int32) (σ : xM), ∀ (H : Heap) (locs : List Loc) (ls : Array Slot), xS E B 160 (layX E B) s σ H locs → lv_has ls 3 [(0, .ref (B + k)), (1, .ref (B + r1)), (2, .int v2)] → F_X5_readInto_L30 k r1 N v2 σ = some q → W p l e rm_X5_readInto s m ([.ref (B + k), .ref (B + r1)] : List Value).toArray below meth c H locs 0 0 (MQ below (xQ E B 160 (layX E B) (some (.int q.1)) q.2) ([.ref (B + k), .ref (B + r1)] : List Value).toArray s 0 0 (wA B 160)) (F0 m 30 ls []) := by
    clear hM hl h
    intro N
    induction N with
    | zero =>
      intro v2 σ  H locs ls hM hl h
      cases h
    | succ N ih =>
      intro v2 σ  H locs ls hM hl h
      rw [F_X5_readInto_L30] at h
      refine lv_iload_n hx hb dX5_readInto_30 rfl (lv_at hl 2 rfl) ?_
      refine lv_iconst (v := (-1)) hx hb dX5_readInto_31 (by decide) ?_
      refine lv_icmp_ne (tgt := 83) hx hb dX5_readInto_32 (by decide) (fun c7 => ?_) (fun c7 => ?_)
      · replace h := if_h c7 h
        refine lv_iload_n hx hb dX5_readInto_83 rfl (lv_at hl 2 rfl) ?_
        obtain rfl := Option.some.inj h
        exact x_iret CX hr hlk hM rfl dX5_readInto_84
      · replace h := it_h c7 h
        refine lv_aload_n hx hb dX5_readInto_35 rfl (lv_at hl 0 rfl) ?_
        refine g5_2 CX hM hk_k wf_X5_24 dX5_readInto_36 ?_
        refine lv_aload_n hx hb dX5_readInto_39 rfl (lv_at hl 0 rfl) ?_
        refine g5_1 CX hM hk_k wf_X5_15 dX5_readInto_40 ?_
        refine lv_icmp_ge (tgt := 83) hx hb dX5_readInto_43 (by decide) (fun c8 => ?_) (fun c8 => ?_)
        · replace h := it_h c8 h
          refine lv_iload_n hx hb dX5_readInto_83 rfl (lv_at hl 2 rfl) ?_
          obtain rfl := Option.some.inj h
          exact x_iret CX hr hlk hM rfl dX5_readInto_84
        · replace h := if_h c8 h
          refine lv_aload_n hx hb dX5_readInto_46 rfl (lv_at hl 0 rfl) ?_
          obtain ⟨q9, eq9, h⟩ := bd_h h
          refine x_callV (As := []) CX hM (kdl hk_k rfl) (ly5 hk_k _) rfl lk_X5_30 (c_X5_here l E B hk_k eq9) ⟨rfl, rfl, by decide, by decide⟩ rfl hl.1 rfl (Nat.le_of_ble_eq_true rfl) dX5_readInto_47 (fun H locs hM => ?_)
          refine W.eq (g2 := F0 m 50 ls [.int q9.1]) rfl ?_
          refine lv_bipush (v := 59) hx hb dX5_readInto_50 (by decide) ?_
          refine lv_icmp_eq (tgt := 60) hx hb dX5_readInto_52 (by decide) (fun c10 => ?_) (fun c10 => ?_)
          · replace h := it_h c10 h
            refine lv_aload_n hx hb dX5_readInto_60 rfl (lv_at hl 0 rfl) ?_
            refine lv_dup hx hb dX5_readInto_61 rfl ?_
            refine g5_2 CX hM hk_k wf_X5_24 dX5_readInto_62 ?_
            refine lv_iconst (v := 1) hx hb dX5_readInto_65 (by decide) ?_
            refine lv_iadd hx hb dX5_readInto_66 ?_
            refine p5_2 (y := ((q9.2 k 2) + 1)) CX hM hk_k wf_X5_24 dX5_readInto_67 (fun H locs σ11 eσ11 hM => ?_)
            replace h := nm_h eσ11 h
            refine lv_aload_n hx hb dX5_readInto_70 rfl (lv_at hl 0 rfl) ?_
            obtain ⟨q12, eq12, h⟩ := bd_h h
            refine x_callV (As := []) CX hM (kdl hk_k rfl) (ly5 hk_k _) rfl lk_X5_27 (c_X5_skipSpaces l E B hk_k eq12) ⟨rfl, rfl, by decide, by decide⟩ rfl hl.1 rfl (Nat.le_of_ble_eq_true rfl) dX5_readInto_71 (fun H locs hM => ?_)
            refine W.eq (g2 := F0 m 74 ls []) rfl ?_
            refine lv_aload_n hx hb dX5_readInto_74 rfl (lv_at hl 0 rfl) ?_
            refine lv_aload_n hx hb dX5_readInto_75 rfl (lv_at hl 1 rfl) ?_
            obtain ⟨q13, eq13, h⟩ := bd_h h
            refine x_callV (As := [.ref (B + r1)]) CX hM (kdl hk_k rfl) (ly5 hk_k _) rfl lk_X5_34 (c_X5_readPoint l E B hk_k hk_r1 eq13) ⟨rfl, rfl, by decide, by decide⟩ rfl hl.1 rfl (Nat.le_of_ble_eq_true rfl) dX5_readInto_76 (fun H locs hM => ?_)
            refine W.eq (g2 := F0 m 79 ls [.int q13.1]) rfl ?_
            refine lv_istore_n (lv' := [(2, .int q13.1), (0, .ref (B + k)), (1, .ref (B + r1))]) hx hb dX5_readInto_79 rfl hl (by decide) rfl (fun ls hl => ?_)
            refine lv_goto (tgt := 30) hx hb dX5_readInto_80 (by decide) ?_
            exact ih _ _  _ _ _ hM (lv_sub hl [1, 2, 0] rfl) h
          · replace h := if_h c10 h
            refine lv_aload_n hx hb dX5_readInto_55 rfl (lv_at hl 0 rfl) ?_
            refine g5_2 CX hM hk_k wf_X5_24 dX5_readInto_56 ?_
            obtain rfl := Option.some.inj h
            exact x_iret CX hr hlk hM rfl dX5_readInto_59
  refine lv_aload_n hx hb dX5_readInto_0 rfl (lv_at hl 1 rfl) ?_
  refine lv_iconst (v := 0) hx hb dX5_readInto_1 (by decide) ?_
  refine p4_2 (y := 0) CX hM hk_r1 wf_X5_19 dX5_readInto_2 (fun H locs σ1 eσ1 hM => ?_)
  replace h := nm_h eσ1 h
  refine lv_aload_n hx hb dX5_readInto_5 rfl (lv_at hl 0 rfl) ?_
  refine lv_iconst (v := 0) hx hb dX5_readInto_6 (by decide) ?_
  refine p5_2 (y := 0) CX hM hk_k wf_X5_24 dX5_readInto_7 (fun H locs σ2 eσ2 hM => ?_)
  replace h := nm_h eσ2 h
  refine lv_aload_n hx hb dX5_readInto_10 rfl (lv_at hl 0 rfl) ?_
  obtain ⟨q3, eq3, h⟩ := bd_h h
  refine x_callV (As := []) CX hM (kdl hk_k rfl) (ly5 hk_k _) rfl lk_X5_27 (c_X5_skipSpaces l E B hk_k eq3) ⟨rfl, rfl, by decide, by decide⟩ rfl hl.1 rfl (Nat.le_of_ble_eq_true rfl) dX5_readInto_11 (fun H locs hM => ?_)
  refine W.eq (g2 := F0 m 14 ls []) rfl ?_
  refine lv_aload_n hx hb dX5_readInto_14 rfl (lv_at hl 0 rfl) ?_
  obtain ⟨q4, eq4, h⟩ := bd_h h
  refine x_callV (As := []) CX hM (kdl hk_k rfl) (ly5 hk_k _) rfl lk_X5_30 (c_X5_here l E B hk_k eq4) ⟨rfl, rfl, by decide, by decide⟩ rfl hl.1 rfl (Nat.le_of_ble_eq_true rfl) dX5_readInto_15 (fun H locs hM => ?_)
  refine W.eq (g2 := F0 m 18 ls [.int q4.1]) rfl ?_
  refine lv_iconst (v := (-1)) hx hb dX5_readInto_18 (by decide) ?_
  refine lv_icmp_ne (tgt := 24) hx hb dX5_readInto_19 (by decide) (fun c5 => ?_) (fun c5 => ?_)
  · replace h := if_h c5 h
    refine lv_aload_n hx hb dX5_readInto_24 rfl (lv_at hl 0 rfl) ?_
    refine lv_aload_n hx hb dX5_readInto_25 rfl (lv_at hl 1 rfl) ?_
    obtain ⟨q6, eq6, h⟩ := bd_h h
    refine x_callV (As := [.ref (B + r1)]) CX hM (kdl hk_k rfl) (ly5 hk_k _) rfl lk_X5_34 (c_X5_readPoint l E B hk_k hk_r1 eq6) ⟨rfl, rfl, by decide, by decide⟩ rfl hl.1 rfl (Nat.le_of_ble_eq_true rfl) dX5_readInto_26 (fun H locs hM => ?_)
    refine W.eq (g2 := F0 m 29 ls [.int q6.1]) rfl ?_
    refine lv_istore_n (lv' := [(2, .int q6.1), (0, .ref (B + k)), (1, .ref (B + r1))]) hx hb dX5_readInto_29 rfl hl (by decide) rfl (fun ls hl => ?_)
    exact L30 _ _ _  _ _ _ hM (lv_sub hl [1, 2, 0] rfl) h
  · replace h := it_h c5 h
    refine lv_iconst (v := (-1)) hx hb dX5_readInto_22 (by decide) ?_
    obtain rfl := Option.some.inj h
    exact x_iret CX hr hlk hM rfl dX5_readInto_23
def rm_X6_addRoom : Jvm.Room := { frames := 5, cells := 0, slots := 0, locals := 113 }
set_option maxHeartbeats 4000000 in
set_option maxRecDepth 100000 in
theorem c_X6_addRoom (l : Launch) (E : xE) (B : Nat) {k : Nat} {x1 : Int32} {x2 : Int32} {x3 : Int32} {x4 : Int32} {σ : xM} {q : Int32 × xM} (hk_k : kd k = 6) (h : F_X6_addRoom k x1 x2 x3 x4 σ = some q) : Met l yX6_addRoom (Cond.code yX6_addRoom cX6_addRoom 5 (some .int) :: AL) rm_X6_addRoom (xP E B 160 (layX E B) [.ref (B + k), .int x1, .int x2, .int x3, .int x4] σ) (xQ E B 160 (layX E B) (some (.int q.1)) q.2) 0 0 (wA B 160) := by
  refine x_met (plainFor_of_name (by decide +kernel)) (Nat.le_of_ble_eq_true rfl) rfl ?_
  intro p e s m below meth c ls CX hr hlk hM hl
  have hx := CX.1.1
  have hb := CX.1.2.1
  unfold F_X6_addRoom at h
  refine lv_iload_n hx hb dX6_addRoom_0 rfl (lv_at hl 1 rfl) ?_
  refine lv_bipush (v := 10) hx hb dX6_addRoom_1 (by decide) ?_
  refine lv_sipush (v := 500) hx hb dX6_addRoom_3 (by decide) ?_
  obtain ⟨q1, eq1, h⟩ := bd_h h
  refine x_callS (As := [.int x1, .int 10, .int 500]) CX hM lk_X6_40 (c_X6_within l E B  eq1) ⟨rfl, rfl, by decide, by decide⟩ rfl hl.1 rfl (Nat.le_of_ble_eq_true rfl) dX6_addRoom_6 (fun H locs hM => ?_)
  refine W.eq (g2 := F0 m 9 ls [.int (bz q1.1)]) rfl ?_
  refine lv_if_eq (tgt := 52) hx hb dX6_addRoom_9 (by decide) (fun c2 => ?_) (fun c2 => ?_)
  · replace h := it_h c2 h
    refine lv_ldc (v := (-1000001)) hx hb CX.1.2.2.2.1 (x_hts CX wc_X6_44) dX6_addRoom_52 ?_
    obtain rfl := Option.some.inj h
    exact x_iret CX hr hlk hM rfl dX6_addRoom_54
  · replace h := if_h c2 h
    refine lv_iload_n hx hb dX6_addRoom_12 rfl (lv_at hl 2 rfl) ?_
    refine lv_iconst (v := 1) hx hb dX6_addRoom_13 (by decide) ?_
    refine lv_sipush (v := 200) hx hb dX6_addRoom_14 (by decide) ?_
    obtain ⟨q3, eq3, h⟩ := bd_h h
    refine x_callS (As := [.int x2, .int 1, .int 200]) CX hM lk_X6_40 (c_X6_within l E B  eq3) ⟨rfl, rfl, by decide, by decide⟩ rfl hl.1 rfl (Nat.le_of_ble_eq_true rfl) dX6_addRoom_17 (fun H locs hM => ?_)
    refine W.eq (g2 := F0 m 20 ls [.int (bz q3.1)]) rfl ?_
    refine lv_if_eq (tgt := 52) hx hb dX6_addRoom_20 (by decide) (fun c4 => ?_) (fun c4 => ?_)
    · replace h := it_h c4 h
      refine lv_ldc (v := (-1000001)) hx hb CX.1.2.2.2.1 (x_hts CX wc_X6_44) dX6_addRoom_52 ?_
      obtain rfl := Option.some.inj h
      exact x_iret CX hr hlk hM rfl dX6_addRoom_54
    · replace h := if_h c4 h
      refine lv_iload_n hx hb dX6_addRoom_23 rfl (lv_at hl 3 rfl) ?_
      refine lv_iconst (v := 0) hx hb dX6_addRoom_24 (by decide) ?_
      refine lv_bipush (v := 50) hx hb dX6_addRoom_25 (by decide) ?_
      obtain ⟨q5, eq5, h⟩ := bd_h h
      refine x_callS (As := [.int x3, .int 0, .int 50]) CX hM lk_X6_40 (c_X6_within l E B  eq5) ⟨rfl, rfl, by decide, by decide⟩ rfl hl.1 rfl (Nat.le_of_ble_eq_true rfl) dX6_addRoom_27 (fun H locs hM => ?_)
      refine W.eq (g2 := F0 m 30 ls [.int (bz q5.1)]) rfl ?_
      refine lv_if_eq (tgt := 52) hx hb dX6_addRoom_30 (by decide) (fun c6 => ?_) (fun c6 => ?_)
      · replace h := it_h c6 h
        refine lv_ldc (v := (-1000001)) hx hb CX.1.2.2.2.1 (x_hts CX wc_X6_44) dX6_addRoom_52 ?_
        obtain rfl := Option.some.inj h
        exact x_iret CX hr hlk hM rfl dX6_addRoom_54
      · replace h := if_h c6 h
        refine lv_iload_n hx hb dX6_addRoom_33 rfl (lv_at hl 3 rfl) ?_
        refine lv_iload_n hx hb dX6_addRoom_34 rfl (lv_at hl 1 rfl) ?_
        refine lv_iconst (v := 2) hx hb dX6_addRoom_35 (by decide) ?_
        refine lv_idiv hx hb dX6_addRoom_36 (by decide) ?_
        refine lv_icmp_gt (tgt := 52) hx hb dX6_addRoom_37 (by decide) (fun c7 => ?_) (fun c7 => ?_)
        · replace h := it_h c7 h
          refine lv_ldc (v := (-1000001)) hx hb CX.1.2.2.2.1 (x_hts CX wc_X6_44) dX6_addRoom_52 ?_
          obtain rfl := Option.some.inj h
          exact x_iret CX hr hlk hM rfl dX6_addRoom_54
        · replace h := if_h c7 h
          refine lv_iload hx hb dX6_addRoom_40 (lv_at hl 4 rfl) ?_
          refine lv_bipush (v := (-40)) hx hb dX6_addRoom_42 (by decide) ?_
          refine lv_bipush (v := 40) hx hb dX6_addRoom_44 (by decide) ?_
          obtain ⟨q8, eq8, h⟩ := bd_h h
          refine x_callS (As := [.int x4, .int (-40), .int 40]) CX hM lk_X6_40 (c_X6_within l E B  eq8) ⟨rfl, rfl, by decide, by decide⟩ rfl hl.1 rfl (Nat.le_of_ble_eq_true rfl) dX6_addRoom_46 (fun H locs hM => ?_)
          refine W.eq (g2 := F0 m 49 ls [.int (bz q8.1)]) rfl ?_
          refine lv_if_ne (tgt := 55) hx hb dX6_addRoom_49 (by decide) (fun c9 => ?_) (fun c9 => ?_)
          · replace h := if_h c9 h
            refine lv_aload_n hx hb dX6_addRoom_55 rfl (lv_at hl 0 rfl) ?_
            refine g6_0 CX hM hk_k wf_X6_10 dX6_addRoom_56 ?_
            refine g1_4 CX hM (kd6_f hk_k).1 wf_X6_45 dX6_addRoom_59 ?_
            refine lv_bipush (v := 6) hx hb dX6_addRoom_62 (by decide) ?_
            refine lv_icmp_lt (tgt := 70) hx hb dX6_addRoom_64 (by decide) (fun c10 => ?_) (fun c10 => ?_)
            · replace h := it_h c10 h
              refine lv_aload_n hx hb dX6_addRoom_70 rfl (lv_at hl 0 rfl) ?_
              refine g6_2 CX hM hk_k wf_X6_22 dX6_addRoom_71 ?_
              refine lv_aload_n hx hb dX6_addRoom_74 rfl (lv_at hl 0 rfl) ?_
              refine g6_0 CX hM hk_k wf_X6_10 dX6_addRoom_75 ?_
              obtain ⟨q11, eq11, h⟩ := bd_h h
              refine x_callV (As := [.ref (B + (k + 1))]) CX hM (kdl (kd6_f hk_k).2.2.1 rfl) (ly2 (kd6_f hk_k).2.2.1 _) rfl lk_X6_50 (c_X2_save l E B ((kd6_f hk_k).2.2.1) ((kd6_f hk_k).1) eq11) ⟨rfl, rfl, by decide, by decide⟩ rfl hl.1 rfl (Nat.le_of_ble_eq_true rfl) dX6_addRoom_78 (fun H locs hM => ?_)
              refine W.eq (g2 := F0 m 81 ls []) rfl ?_
              refine lv_aload_n hx hb dX6_addRoom_81 rfl (lv_at hl 0 rfl) ?_
              refine g6_0 CX hM hk_k wf_X6_10 dX6_addRoom_82 ?_
              refine lv_iload_n hx hb dX6_addRoom_85 rfl (lv_at hl 1 rfl) ?_
              refine lv_iload_n hx hb dX6_addRoom_86 rfl (lv_at hl 2 rfl) ?_
              refine lv_iload_n hx hb dX6_addRoom_87 rfl (lv_at hl 3 rfl) ?_
              refine lv_iload hx hb dX6_addRoom_88 (lv_at hl 4 rfl) ?_
              obtain ⟨q12, eq12, h⟩ := bd_h h
              refine x_callV (As := [.int x1, .int x2, .int x3, .int x4]) CX hM (kdl (kd6_f hk_k).1 rfl) (ly1 (kd6_f hk_k).1 _) rfl lk_X6_54 (c_X1_beginRoom l E B ((kd6_f hk_k).1) eq12) ⟨rfl, rfl, by decide, by decide⟩ rfl hl.1 rfl (Nat.le_of_ble_eq_true rfl) dX6_addRoom_90 (fun H locs hM => ?_)
              refine W.eq (g2 := F0 m 93 ls [.int q12.1]) rfl ?_
              obtain rfl := Option.some.inj h
              exact x_iret CX hr hlk hM rfl dX6_addRoom_93
            · replace h := if_h c10 h
              refine lv_ldc (v := (-1000003)) hx hb CX.1.2.2.2.1 (x_hts CX wc_X6_49) dX6_addRoom_67 ?_
              obtain rfl := Option.some.inj h
              exact x_iret CX hr hlk hM rfl dX6_addRoom_69
          · replace h := it_h c9 h
            refine lv_ldc (v := (-1000001)) hx hb CX.1.2.2.2.1 (x_hts CX wc_X6_44) dX6_addRoom_52 ?_
            obtain rfl := Option.some.inj h
            exact x_iret CX hr hlk hM rfl dX6_addRoom_54
