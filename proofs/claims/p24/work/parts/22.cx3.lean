def rm_X1_heatFromHeaters : Jvm.Room := { frames := 1, cells := 0, slots := 0, locals := 21 }
set_option maxHeartbeats 4000000 in
set_option maxRecDepth 100000 in
theorem c_X1_heatFromHeaters (l : Launch) (E : xE) (B : Nat) {k : Nat} {σ : xM} {q : Int32 × xM} (hk_k : kd k = 1) (h : F_X1_heatFromHeaters k σ = some q) : Met l yX1_heatFromHeaters (Cond.code yX1_heatFromHeaters cX1_heatFromHeaters 4 (some .int) :: AL) rm_X1_heatFromHeaters (xP E B 160 (layX E B) [.ref (B + k)] σ) (xQ E B 160 (layX E B) (some (.int q.1)) q.2) 0 0 (wA B 160) := by
  refine x_met (plainFor_of_name (by decide +kernel)) (Nat.le_of_ble_eq_true rfl) rfl ?_
  intro p e s m below meth c ls CX hr hlk hM hl
  have hx := CX.1.1
  have hb := CX.1.2.1
  unfold F_X1_heatFromHeaters at h
  have L4 : ∀ (N : Nat) (v1 : Int32) (v2 : Int32) (σ : xM), ∀ (H : Heap) (locs : List Loc) (ls : Array Slot), xS E B 160 (layX E B) s σ H locs → lv_has ls 4 [(0, .ref (B + k)), (1, .int v1), (2, .int v2)] → F_X1_heatFromHeaters_L4 k N v1 v2 σ = some q → W p l e rm_X1_heatFromHeaters s m ([.ref (B + k)] : List Value).toArray below meth c H locs 0 0 (MQ below (xQ E B 160 (layX E B) (some (.int q.1)) q.2) ([.ref (B + k)] : List Value).toArray s 0 0 (wA B 160)) (F0 m 4 ls []) := by
    clear hM hl h
    intro N
    induction N with
    | zero =>
      intro v1 v2 σ  H locs ls hM hl h
      cases h
    | succ N ih =>
      intro v1 v2 σ  H locs ls hM hl h
      rw [F_X1_heatFromHeaters_L4] at h
      refine lv_iload_n hx hb dX1_heatFromHeaters_4 rfl (lv_at hl 2 rfl) ?_
      refine lv_aload_n hx hb dX1_heatFromHeaters_5 rfl (lv_at hl 0 rfl) ?_
      refine g1_4 CX hM hk_k wf_X1_45 dX1_heatFromHeaters_6 ?_
      refine lv_icmp_ge (tgt := 42) hx hb dX1_heatFromHeaters_9 (by decide) (fun c1 => ?_) (fun c1 => ?_)
      · replace h := it_h c1 h
        refine lv_iload_n hx hb dX1_heatFromHeaters_42 rfl (lv_at hl 1 rfl) ?_
        obtain rfl := Option.some.inj h
        exact x_iret CX hr hlk hM rfl dX1_heatFromHeaters_43
      · replace h := if_h c1 h
        refine lv_aload_n hx hb dX1_heatFromHeaters_12 rfl (lv_at hl 0 rfl) ?_
        refine lv_iload_n hx hb dX1_heatFromHeaters_13 rfl (lv_at hl 2 rfl) ?_
        obtain ⟨q2, eq2, h⟩ := bd_h h
        refine x_callV (As := [.int v2]) CX hM (kdl hk_k rfl) (ly1 hk_k _) rfl lk_X1_52 (c_X1_roomAt l E B hk_k eq2) ⟨rfl, rfl, by decide, by decide⟩ rfl hl.1 rfl (Nat.le_of_ble_eq_true rfl) dX1_heatFromHeaters_14 (fun H locs hM => ?_)
        rcases hq2 : q2.1 with _ | r3
        · rw [hq2] at h
          replace h := oc_n h
          refine W.eq (g2 := F0 m 17 ls [.null]) rfl ?_
          refine lv_astore_nN (lv' := [(3, .null), (0, .ref (B + k)), (1, .int v1), (2, .int v2)]) hx hb dX1_heatFromHeaters_17 rfl hl (by decide) rfl (fun ls hl => ?_)
          refine lv_iload_n hx hb dX1_heatFromHeaters_18 rfl (lv_at hl 2 rfl) ?_
          refine lv_aload_nN hx hb dX1_heatFromHeaters_19 rfl (lv_at hl 0 rfl) ?_
          refine lv_ifnullN (tgt := 33) hx hb dX1_heatFromHeaters_20 (by decide) ?_
          refine lv_iconst (v := 0) hx hb dX1_heatFromHeaters_33 (by decide) ?_
          refine lv_iadd hx hb dX1_heatFromHeaters_34 ?_
          refine lv_topi (fun x1_4 ex1_4 => ?_)
          replace h := nm_h ex1_4 h
          refine lv_istore_n (lv' := [(1, .int x1_4), (3, .null), (0, .ref (B + k)), (2, .int v2)]) hx hb dX1_heatFromHeaters_35 rfl hl (by decide) rfl (fun ls hl => ?_)
          refine lv_iinc (v := (v2 + 1)) (lv' := [(2, .int (v2 + 1)), (1, .int x1_4), (3, .null), (0, .ref (B + k))]) hx hb dX1_heatFromHeaters_36 hl (k := 3) rfl rfl (by decide) rfl (fun ls hl => ?_)
          refine lv_goto (tgt := 4) hx hb dX1_heatFromHeaters_39 (by decide) ?_
          exact ih _ _ _  _ _ _ hM (lv_sub hl [3, 1, 0] rfl) h
        · rw [hq2] at h
          replace h := oc_s h
          obtain ⟨hk_r3, h⟩ := ck_h h
          refine W.eq (g2 := F0 m 17 ls [.ref (B + r3)]) rfl ?_
          refine lv_astore_n (lv' := [(3, .ref (B + r3)), (0, .ref (B + k)), (1, .int v1), (2, .int v2)]) hx hb dX1_heatFromHeaters_17 rfl hl (by decide) rfl (fun ls hl => ?_)
          refine lv_iload_n hx hb dX1_heatFromHeaters_18 rfl (lv_at hl 2 rfl) ?_
          refine lv_aload_n hx hb dX1_heatFromHeaters_19 rfl (lv_at hl 0 rfl) ?_
          refine lv_ifnull hx hb dX1_heatFromHeaters_20 ?_
          refine lv_aload_n hx hb dX1_heatFromHeaters_23 rfl (lv_at hl 0 rfl) ?_
          refine g3_0 CX hM hk_r3 wf_X1_94 dX1_heatFromHeaters_24 ?_
          refine g0_1 CX hM (kd3_f hk_r3) wf_X1_98 dX1_heatFromHeaters_27 ?_
          refine lv_goto (tgt := 34) hx hb dX1_heatFromHeaters_30 (by decide) ?_
          refine lv_iadd hx hb dX1_heatFromHeaters_34 ?_
          refine lv_topi (fun x1_5 ex1_5 => ?_)
          replace h := nm_h ex1_5 h
          refine lv_istore_n (lv' := [(1, .int x1_5), (3, .ref (B + r3)), (0, .ref (B + k)), (2, .int v2)]) hx hb dX1_heatFromHeaters_35 rfl hl (by decide) rfl (fun ls hl => ?_)
          refine lv_iinc (v := (v2 + 1)) (lv' := [(2, .int (v2 + 1)), (1, .int x1_5), (3, .ref (B + r3)), (0, .ref (B + k))]) hx hb dX1_heatFromHeaters_36 hl (k := 3) rfl rfl (by decide) rfl (fun ls hl => ?_)
          refine lv_goto (tgt := 4) hx hb dX1_heatFromHeaters_39 (by decide) ?_
          exact ih _ _ _  _ _ _ hM (lv_sub hl [3, 1, 0] rfl) h
  refine lv_iconst (v := 0) hx hb dX1_heatFromHeaters_0 (by decide) ?_
  refine lv_istore_n (lv' := [(1, .int 0), (0, .ref (B + k))]) hx hb dX1_heatFromHeaters_1 rfl hl (by decide) rfl (fun ls hl => ?_)
  refine lv_iconst (v := 0) hx hb dX1_heatFromHeaters_2 (by decide) ?_
  refine lv_istore_n (lv' := [(2, .int 0), (1, .int 0), (0, .ref (B + k))]) hx hb dX1_heatFromHeaters_3 rfl hl (by decide) rfl (fun ls hl => ?_)
  exact L4 _ _ _ _  _ _ _ hM (lv_sub hl [2, 1, 0] rfl) h
def rm_X4_temperatureBefore : Jvm.Room := { frames := 0, cells := 0, slots := 0, locals := 0 }
set_option maxHeartbeats 4000000 in
set_option maxRecDepth 100000 in
theorem c_X4_temperatureBefore (l : Launch) (E : xE) (B : Nat) {k : Nat} {x1 : Int32} {x2 : Int32} {σ : xM} {q : Int32 × xM} (hk_k : kd k = 4) (h : F_X4_temperatureBefore k x1 x2 σ = some q) : Met l yX4_temperatureBefore (Cond.code yX4_temperatureBefore cX4_temperatureBefore 6 (some .int) :: AL) rm_X4_temperatureBefore (xP E B 160 (layX E B) [.ref (B + k), .int x1, .int x2] σ) (xQ E B 160 (layX E B) (some (.int q.1)) q.2) 0 0 (wA B 160) := by
  refine x_met (plainFor_of_name (by decide +kernel)) (Nat.le_of_ble_eq_true rfl) rfl ?_
  intro p e s m below meth c ls CX hr hlk hM hl
  have hx := CX.1.1
  have hb := CX.1.2.1
  unfold F_X4_temperatureBefore at h
  refine lv_iload_n hx hb dX4_temperatureBefore_0 rfl (lv_at hl 1 rfl) ?_
  refine lv_iconst (v := 1) hx hb dX4_temperatureBefore_1 (by decide) ?_
  refine lv_icmp_lt (tgt := 11) hx hb dX4_temperatureBefore_2 (by decide) (fun c1 => ?_) (fun c1 => ?_)
  · replace h := it_h c1 h
    refine lv_iconst (v := 0) hx hb dX4_temperatureBefore_11 (by decide) ?_
    obtain rfl := Option.some.inj h
    exact x_iret CX hr hlk hM rfl dX4_temperatureBefore_12
  · replace h := if_h c1 h
    refine lv_iload_n hx hb dX4_temperatureBefore_5 rfl (lv_at hl 1 rfl) ?_
    refine lv_bipush (v := 12) hx hb dX4_temperatureBefore_6 (by decide) ?_
    refine lv_icmp_lt (tgt := 13) hx hb dX4_temperatureBefore_8 (by decide) (fun c2 => ?_) (fun c2 => ?_)
    · replace h := it_h c2 h
      refine lv_aload_n hx hb dX4_temperatureBefore_13 rfl (lv_at hl 0 rfl) ?_
      refine g4_1 CX hM hk_k wf_X4_15 dX4_temperatureBefore_14 ?_
      refine lv_iload_n hx hb dX4_temperatureBefore_17 rfl (lv_at hl 1 rfl) ?_
      refine lv_iconst (v := 1) hx hb dX4_temperatureBefore_18 (by decide) ?_
      refine lv_isub hx hb dX4_temperatureBefore_19 ?_
      obtain ⟨g3, h⟩ := ck_h h
      refine x_iald CX hM (kdl (kd4_f hk_k).2 rfl) (ly13 (kd4_f hk_k).2 _) g3 dX4_temperatureBefore_20 ?_
      refine lv_topi (fun x3_4 ex3_4 => ?_)
      replace h := nm_h ex3_4 h
      refine lv_istore_n (lv' := [(3, .int x3_4), (0, .ref (B + k)), (1, .int x1), (2, .int x2)]) hx hb dX4_temperatureBefore_21 rfl hl (by decide) rfl (fun ls hl => ?_)
      refine lv_aload_n hx hb dX4_temperatureBefore_22 rfl (lv_at hl 1 rfl) ?_
      refine g4_0 CX hM hk_k wf_X4_9 dX4_temperatureBefore_23 ?_
      refine lv_iload_n hx hb dX4_temperatureBefore_26 rfl (lv_at hl 2 rfl) ?_
      obtain ⟨g5, h⟩ := ck_h h
      refine x_iald CX hM (kdl (kd4_f hk_k).1 rfl) (ly13 (kd4_f hk_k).1 _) g5 dX4_temperatureBefore_27 ?_
      refine lv_aload_n hx hb dX4_temperatureBefore_28 rfl (lv_at hl 1 rfl) ?_
      refine g4_0 CX hM hk_k wf_X4_9 dX4_temperatureBefore_29 ?_
      refine lv_iload_n hx hb dX4_temperatureBefore_32 rfl (lv_at hl 2 rfl) ?_
      refine lv_iconst (v := 1) hx hb dX4_temperatureBefore_33 (by decide) ?_
      refine lv_isub hx hb dX4_temperatureBefore_34 ?_
      obtain ⟨g6, h⟩ := ck_h h
      refine x_iald CX hM (kdl (kd4_f hk_k).1 rfl) (ly13 (kd4_f hk_k).1 _) g6 dX4_temperatureBefore_35 ?_
      refine lv_isub hx hb dX4_temperatureBefore_36 ?_
      refine lv_topi (fun x4_7 ex4_7 => ?_)
      replace h := nm_h ex4_7 h
      refine lv_istore (lv' := [(4, .int x4_7), (3, .int x3_4), (0, .ref (B + k)), (1, .int x1), (2, .int x2)]) hx hb dX4_temperatureBefore_37 hl (by decide) rfl (fun ls hl => ?_)
      refine lv_iload_n hx hb dX4_temperatureBefore_39 rfl (lv_at hl 4 rfl) ?_
      refine lv_aload_n hx hb dX4_temperatureBefore_40 rfl (lv_at hl 2 rfl) ?_
      refine g4_0 CX hM hk_k wf_X4_9 dX4_temperatureBefore_41 ?_
      refine lv_iload_n hx hb dX4_temperatureBefore_44 rfl (lv_at hl 3 rfl) ?_
      refine lv_iconst (v := 1) hx hb dX4_temperatureBefore_45 (by decide) ?_
      refine lv_isub hx hb dX4_temperatureBefore_46 ?_
      obtain ⟨g8, h⟩ := ck_h h
      refine x_iald CX hM (kdl (kd4_f hk_k).1 rfl) (ly13 (kd4_f hk_k).1 _) g8 dX4_temperatureBefore_47 ?_
      refine lv_isub hx hb dX4_temperatureBefore_48 ?_
      refine lv_topi (fun x5_9 ex5_9 => ?_)
      replace h := nm_h ex5_9 h
      refine lv_istore (lv' := [(5, .int x5_9), (4, .int x4_7), (3, .int x3_4), (0, .ref (B + k)), (1, .int x1), (2, .int x2)]) hx hb dX4_temperatureBefore_49 hl (by decide) rfl (fun ls hl => ?_)
      refine lv_iload hx hb dX4_temperatureBefore_51 (lv_at hl 1 rfl) ?_
      refine lv_if_ne (tgt := 64) hx hb dX4_temperatureBefore_53 (by decide) (fun c10 => ?_) (fun c10 => ?_)
      · replace h := if_h c10 h
        refine lv_sipush (v := 1000) hx hb dX4_temperatureBefore_64 (by decide) ?_
        refine lv_iload_n hx hb dX4_temperatureBefore_67 rfl (lv_at hl 2 rfl) ?_
        refine lv_imul hx hb dX4_temperatureBefore_68 ?_
        refine lv_sipush (v := 1000) hx hb dX4_temperatureBefore_69 (by decide) ?_
        refine lv_aload_n hx hb dX4_temperatureBefore_72 rfl (lv_at hl 3 rfl) ?_
        refine g4_1 CX hM hk_k wf_X4_15 dX4_temperatureBefore_73 ?_
        refine lv_iload_n hx hb dX4_temperatureBefore_76 rfl (lv_at hl 4 rfl) ?_
        obtain ⟨g11, h⟩ := ck_h h
        refine x_iald CX hM (kdl (kd4_f hk_k).2 rfl) (ly13 (kd4_f hk_k).2 _) g11 dX4_temperatureBefore_77 ?_
        refine lv_iload_n hx hb dX4_temperatureBefore_78 rfl (lv_at hl 2 rfl) ?_
        refine lv_isub hx hb dX4_temperatureBefore_79 ?_
        refine lv_imul hx hb dX4_temperatureBefore_80 ?_
        refine lv_iload hx hb dX4_temperatureBefore_81 (lv_at hl 0 rfl) ?_
        refine lv_imul hx hb dX4_temperatureBefore_83 ?_
        refine lv_iload hx hb dX4_temperatureBefore_84 (lv_at hl 1 rfl) ?_
        obtain ⟨g12, h⟩ := nz_h h
        refine lv_idiv hx hb dX4_temperatureBefore_86 g12 ?_
        refine lv_iadd hx hb dX4_temperatureBefore_87 ?_
        obtain rfl := Option.some.inj h
        exact x_iret CX hr hlk hM rfl dX4_temperatureBefore_88
      · replace h := it_h c10 h
        refine lv_sipush (v := 1000) hx hb dX4_temperatureBefore_56 (by decide) ?_
        refine lv_iload_n hx hb dX4_temperatureBefore_59 rfl (lv_at hl 2 rfl) ?_
        refine lv_imul hx hb dX4_temperatureBefore_60 ?_
        refine lv_goto (tgt := 88) hx hb dX4_temperatureBefore_61 (by decide) ?_
        obtain rfl := Option.some.inj h
        exact x_iret CX hr hlk hM rfl dX4_temperatureBefore_88
    · replace h := if_h c2 h
      refine lv_iconst (v := 0) hx hb dX4_temperatureBefore_11 (by decide) ?_
      obtain rfl := Option.some.inj h
      exact x_iret CX hr hlk hM rfl dX4_temperatureBefore_12
def rm_X4_temperatureAt : Jvm.Room := { frames := 1, cells := 0, slots := 0, locals := 25 }
set_option maxHeartbeats 4000000 in
set_option maxRecDepth 100000 in
theorem c_X4_temperatureAt (l : Launch) (E : xE) (B : Nat) {k : Nat} {x1 : Int32} {σ : xM} {q : Int32 × xM} (hk_k : kd k = 4) (h : F_X4_temperatureAt k x1 σ = some q) : Met l yX4_temperatureAt (Cond.code yX4_temperatureAt cX4_temperatureAt 4 (some .int) :: AL) rm_X4_temperatureAt (xP E B 160 (layX E B) [.ref (B + k), .int x1] σ) (xQ E B 160 (layX E B) (some (.int q.1)) q.2) 0 0 (wA B 160) := by
  refine x_met (plainFor_of_name (by decide +kernel)) (Nat.le_of_ble_eq_true rfl) rfl ?_
  intro p e s m below meth c ls CX hr hlk hM hl
  have hx := CX.1.1
  have hb := CX.1.2.1
  unfold F_X4_temperatureAt at h
  have L4 : ∀ (N : Nat) (v1 : Int32) (v2 : Int32) (v3 : Int32) (σ : xM), ∀ (H : Heap) (locs : List Loc) (ls : Array Slot), xS E B 160 (layX E B) s σ H locs → lv_has ls 4 [(0, .ref (B + k)), (1, .int v1), (2, .int v2), (3, .int v3)] → F_X4_temperatureAt_L4 k N v1 v2 v3 σ = some q → W p l e rm_X4_temperatureAt s m ([.ref (B + k), .int x1] : List Value).toArray below meth c H locs 0 0 (MQ below (xQ E B 160 (layX E B) (some (.int q.1)) q.2) ([.ref (B + k), .int x1] : List Value).toArray s 0 0 (wA B 160)) (F0 m 4 ls []) := by
    clear hM hl h
    intro N
    induction N with
    | zero =>
      intro v1 v2 v3 σ  H locs ls hM hl h
      cases h
    | succ N ih =>
      intro v1 v2 v3 σ  H locs ls hM hl h
      rw [F_X4_temperatureAt_L4] at h
      refine lv_iload_n hx hb dX4_temperatureAt_4 rfl (lv_at hl 3 rfl) ?_
      refine lv_aload_n hx hb dX4_temperatureAt_5 rfl (lv_at hl 0 rfl) ?_
      refine g4_2 CX hM hk_k wf_X4_24 dX4_temperatureAt_6 ?_
      refine lv_icmp_ge (tgt := 69) hx hb dX4_temperatureAt_9 (by decide) (fun c1 => ?_) (fun c1 => ?_)
      · replace h := it_h c1 h
        refine lv_iload_n hx hb dX4_temperatureAt_69 rfl (lv_at hl 2 rfl) ?_
        obtain rfl := Option.some.inj h
        exact x_iret CX hr hlk hM rfl dX4_temperatureAt_70
      · replace h := if_h c1 h
        refine lv_iload_n hx hb dX4_temperatureAt_12 rfl (lv_at hl 3 rfl) ?_
        refine lv_bipush (v := 12) hx hb dX4_temperatureAt_13 (by decide) ?_
        refine lv_icmp_ge (tgt := 69) hx hb dX4_temperatureAt_15 (by decide) (fun c2 => ?_) (fun c2 => ?_)
        · replace h := it_h c2 h
          refine lv_iload_n hx hb dX4_temperatureAt_69 rfl (lv_at hl 2 rfl) ?_
          obtain rfl := Option.some.inj h
          exact x_iret CX hr hlk hM rfl dX4_temperatureAt_70
        · replace h := if_h c2 h
          refine lv_iload_n hx hb dX4_temperatureAt_18 rfl (lv_at hl 1 rfl) ?_
          refine lv_aload_n hx hb dX4_temperatureAt_19 rfl (lv_at hl 0 rfl) ?_
          refine g4_0 CX hM hk_k wf_X4_9 dX4_temperatureAt_20 ?_
          refine lv_iload_n hx hb dX4_temperatureAt_23 rfl (lv_at hl 3 rfl) ?_
          obtain ⟨g3, h⟩ := ck_h h
          refine x_iald CX hM (kdl (kd4_f hk_k).1 rfl) (ly13 (kd4_f hk_k).1 _) g3 dX4_temperatureAt_24 ?_
          refine lv_icmp_ge (tgt := 52) hx hb dX4_temperatureAt_25 (by decide) (fun c4 => ?_) (fun c4 => ?_)
          · replace h := it_h c4 h
            refine lv_sipush (v := 1000) hx hb dX4_temperatureAt_52 (by decide) ?_
            refine lv_aload_n hx hb dX4_temperatureAt_55 rfl (lv_at hl 0 rfl) ?_
            refine g4_1 CX hM hk_k wf_X4_15 dX4_temperatureAt_56 ?_
            refine lv_iload_n hx hb dX4_temperatureAt_59 rfl (lv_at hl 3 rfl) ?_
            obtain ⟨g5, h⟩ := ck_h h
            refine x_iald CX hM (kdl (kd4_f hk_k).2 rfl) (ly13 (kd4_f hk_k).2 _) g5 dX4_temperatureAt_60 ?_
            refine lv_imul hx hb dX4_temperatureAt_61 ?_
            refine lv_topi (fun x2_6 ex2_6 => ?_)
            replace h := nm_h ex2_6 h
            refine lv_istore_n (lv' := [(2, .int x2_6), (0, .ref (B + k)), (1, .int v1), (3, .int v3)]) hx hb dX4_temperatureAt_62 rfl hl (by decide) rfl (fun ls hl => ?_)
            refine lv_iinc (v := (v3 + 1)) (lv' := [(3, .int (v3 + 1)), (2, .int x2_6), (0, .ref (B + k)), (1, .int v1)]) hx hb dX4_temperatureAt_63 hl (k := 3) rfl rfl (by decide) rfl (fun ls hl => ?_)
            refine lv_goto (tgt := 4) hx hb dX4_temperatureAt_66 (by decide) ?_
            exact ih _ _ _ _  _ _ _ hM (lv_sub hl [2, 3, 1, 0] rfl) h
          · replace h := if_h c4 h
            refine lv_iload_n hx hb dX4_temperatureAt_28 rfl (lv_at hl 3 rfl) ?_
            refine lv_if_ne (tgt := 45) hx hb dX4_temperatureAt_29 (by decide) (fun c7 => ?_) (fun c7 => ?_)
            · replace h := if_h c7 h
              refine lv_aload_n hx hb dX4_temperatureAt_45 rfl (lv_at hl 0 rfl) ?_
              refine lv_iload_n hx hb dX4_temperatureAt_46 rfl (lv_at hl 3 rfl) ?_
              refine lv_iload_n hx hb dX4_temperatureAt_47 rfl (lv_at hl 1 rfl) ?_
              obtain ⟨q8, eq8, h⟩ := bd_h h
              refine x_callV (As := [.int v3, .int v1]) CX hM (kdl hk_k rfl) (ly4 hk_k _) rfl lk_X4_28 (c_X4_temperatureBefore l E B hk_k eq8) ⟨rfl, rfl, by decide, by decide⟩ rfl hl.1 rfl (Nat.le_of_ble_eq_true rfl) dX4_temperatureAt_48 (fun H locs hM => ?_)
              refine W.eq (g2 := F0 m 51 ls [.int q8.1]) rfl ?_
              obtain rfl := Option.some.inj h
              exact x_iret CX hr hlk hM rfl dX4_temperatureAt_51
            · replace h := it_h c7 h
              refine lv_sipush (v := 1000) hx hb dX4_temperatureAt_32 (by decide) ?_
              refine lv_aload_n hx hb dX4_temperatureAt_35 rfl (lv_at hl 0 rfl) ?_
              refine g4_1 CX hM hk_k wf_X4_15 dX4_temperatureAt_36 ?_
              refine lv_iconst (v := 0) hx hb dX4_temperatureAt_39 (by decide) ?_
              obtain ⟨g9, h⟩ := ck_h h
              refine x_iald CX hM (kdl (kd4_f hk_k).2 rfl) (ly13 (kd4_f hk_k).2 _) g9 dX4_temperatureAt_40 ?_
              refine lv_imul hx hb dX4_temperatureAt_41 ?_
              refine lv_goto (tgt := 51) hx hb dX4_temperatureAt_42 (by decide) ?_
              obtain rfl := Option.some.inj h
              exact x_iret CX hr hlk hM rfl dX4_temperatureAt_51
  refine lv_iconst (v := 0) hx hb dX4_temperatureAt_0 (by decide) ?_
  refine lv_istore_n (lv' := [(2, .int 0), (0, .ref (B + k)), (1, .int x1)]) hx hb dX4_temperatureAt_1 rfl hl (by decide) rfl (fun ls hl => ?_)
  refine lv_iconst (v := 0) hx hb dX4_temperatureAt_2 (by decide) ?_
  refine lv_istore_n (lv' := [(3, .int 0), (2, .int 0), (0, .ref (B + k)), (1, .int x1)]) hx hb dX4_temperatureAt_3 rfl hl (by decide) rfl (fun ls hl => ?_)
  exact L4 _ _ _ _ _  _ _ _ hM (lv_sub hl [2, 3, 1, 0] rfl) h
def rm_X3_beginMinute : Jvm.Room := { frames := 3, cells := 0, slots := 0, locals := 63 }
set_option maxHeartbeats 4000000 in
set_option maxRecDepth 100000 in
theorem c_X3_beginMinute (l : Launch) (E : xE) (B : Nat) {k : Nat} {x1 : Int32} {σ : xM} {q : Unit × xM} (hk_k : kd k = 3) (h : F_X3_beginMinute k x1 σ = some q) : Met l yX3_beginMinute (Cond.code yX3_beginMinute cX3_beginMinute 3 none :: AL) rm_X3_beginMinute (xP E B 160 (layX E B) [.ref (B + k), .int x1] σ) (xQ E B 160 (layX E B) none q.2) 0 0 (wA B 160) := by
  refine x_met (plainFor_of_name (by decide +kernel)) (Nat.le_of_ble_eq_true rfl) rfl ?_
  intro p e s m below meth c ls CX hr hlk hM hl
  have hx := CX.1.1
  have hb := CX.1.2.1
  unfold F_X3_beginMinute at h
  have J51 : ∀ (v1 : Int32) (σ : xM), ∀ (H : Heap) (locs : List Loc) (ls : Array Slot), xS E B 160 (layX E B) s σ H locs → lv_has ls 3 [(0, .ref (B + k)), (1, .int v1)] → F_X3_beginMinute_J51 k v1 σ = some q → W p l e rm_X3_beginMinute s m ([.ref (B + k), .int x1] : List Value).toArray below meth c H locs 0 0 (MQ below (xQ E B 160 (layX E B) none q.2) ([.ref (B + k), .int x1] : List Value).toArray s 0 0 (wA B 160)) (F0 m 51 ls []) := by
    clear hM hl h
    intro v1 σ  H locs ls hM hl h
    unfold F_X3_beginMinute_J51 at h
    refine lv_aload_n hx hb dX3_beginMinute_51 rfl (lv_at hl 0 rfl) ?_
    refine g3_3 CX hM hk_k wf_X3_25 dX3_beginMinute_52 ?_
    refine lv_aload_n hx hb dX3_beginMinute_55 rfl (lv_at hl 0 rfl) ?_
    refine g3_17 CX hM hk_k wf_X3_73 dX3_beginMinute_56 ?_
    refine lv_iload_n hx hb dX3_beginMinute_59 rfl (lv_at hl 1 rfl) ?_
    refine lv_isub hx hb dX3_beginMinute_60 ?_
    refine lv_imul hx hb dX3_beginMinute_61 ?_
    refine lv_sipush (v := 1000) hx hb dX3_beginMinute_62 (by decide) ?_
    refine lv_idiv hx hb dX3_beginMinute_65 (by decide) ?_
    refine lv_topi (fun x2_4 ex2_4 => ?_)
    replace h := nm_h ex2_4 h
    refine lv_istore_n (lv' := [(2, .int x2_4), (0, .ref (B + k)), (1, .int v1)]) hx hb dX3_beginMinute_66 rfl hl (by decide) rfl (fun ls hl => ?_)
    refine lv_aload_n hx hb dX3_beginMinute_67 rfl (lv_at hl 1 rfl) ?_
    refine lv_dup hx hb dX3_beginMinute_68 rfl ?_
    refine g3_4 CX hM hk_k wf_X3_28 dX3_beginMinute_69 ?_
    refine lv_iload_n hx hb dX3_beginMinute_72 rfl (lv_at hl 0 rfl) ?_
    refine lv_isub hx hb dX3_beginMinute_73 ?_
    refine p3_4 (y := ((σ k 4) - x2_4)) CX hM hk_k wf_X3_28 dX3_beginMinute_74 (fun H locs σ5 eσ5 hM => ?_)
    replace h := nm_h eσ5 h
    refine lv_aload_n hx hb dX3_beginMinute_77 rfl (lv_at hl 1 rfl) ?_
    refine g3_0 CX hM hk_k wf_X3_12 dX3_beginMinute_78 ?_
    refine lv_dup hx hb dX3_beginMinute_81 rfl ?_
    refine g0_2 CX hM (kd3_f hk_k) wf_X3_100 dX3_beginMinute_82 ?_
    refine lv_iload_n hx hb dX3_beginMinute_85 rfl (lv_at hl 0 rfl) ?_
    refine lv_iadd hx hb dX3_beginMinute_86 ?_
    refine p0_2 (y := ((σ5 (k + 1) 2) + x2_4)) CX hM (kd3_f hk_k) wf_X3_100 dX3_beginMinute_87 (fun H locs σ6 eσ6 hM => ?_)
    replace h := nm_h eσ6 h
    obtain rfl := Option.some.inj h
    exact x_vret CX hr hlk hM rfl dX3_beginMinute_90
  refine lv_aload_n hx hb dX3_beginMinute_0 rfl (lv_at hl 0 rfl) ?_
  refine lv_aload_n hx hb dX3_beginMinute_1 rfl (lv_at hl 0 rfl) ?_
  obtain ⟨q1, eq1, h⟩ := bd_h h
  refine x_callV (As := []) CX hM (kdl hk_k rfl) (ly3 hk_k _) rfl lk_X3_37 (c_X3_temperature l E B hk_k eq1) ⟨rfl, rfl, by decide, by decide⟩ rfl hl.1 rfl (Nat.le_of_ble_eq_true rfl) dX3_beginMinute_2 (fun H locs hM => ?_)
  refine W.eq (g2 := F0 m 5 ls [.int q1.1, .ref (B + k)]) rfl ?_
  refine p3_17 (y := q1.1) CX hM hk_k wf_X3_73 dX3_beginMinute_5 (fun H locs σ2 eσ2 hM => ?_)
  replace h := nm_h eσ2 h
  refine lv_aload_n hx hb dX3_beginMinute_8 rfl (lv_at hl 0 rfl) ?_
  refine g3_8 CX hM hk_k wf_X3_44 dX3_beginMinute_9 ?_
  refine lv_if_eq (tgt := 51) hx hb dX3_beginMinute_12 (by decide) (fun c3 => ?_) (fun c3 => ?_)
  · replace h := it_h c3 h
    exact J51 _ _  _ _ _ hM (lv_sub hl [0, 1] rfl) h
  · replace h := if_h c3 h
    refine lv_aload_n hx hb dX3_beginMinute_15 rfl (lv_at hl 0 rfl) ?_
    refine g3_10 CX hM hk_k wf_X3_51 dX3_beginMinute_16 ?_
    refine lv_if_ne (tgt := 51) hx hb dX3_beginMinute_19 (by decide) (fun c7 => ?_) (fun c7 => ?_)
    · replace h := if_h c7 h
      exact J51 _ _  _ _ _ hM (lv_sub hl [0, 1] rfl) h
    · replace h := it_h c7 h
      refine lv_aload_n hx hb dX3_beginMinute_22 rfl (lv_at hl 0 rfl) ?_
      refine lv_dup hx hb dX3_beginMinute_23 rfl ?_
      refine g3_4 CX hM hk_k wf_X3_28 dX3_beginMinute_24 ?_
      refine lv_aload_n hx hb dX3_beginMinute_27 rfl (lv_at hl 0 rfl) ?_
      refine g3_2 CX hM hk_k wf_X3_22 dX3_beginMinute_28 ?_
      refine lv_iadd hx hb dX3_beginMinute_31 ?_
      refine p3_4 (y := ((σ2 k 4) + (σ2 k 2))) CX hM hk_k wf_X3_28 dX3_beginMinute_32 (fun H locs σ8 eσ8 hM => ?_)
      replace h := nm_h eσ8 h
      refine lv_aload_n hx hb dX3_beginMinute_35 rfl (lv_at hl 0 rfl) ?_
      refine g3_0 CX hM hk_k wf_X3_12 dX3_beginMinute_36 ?_
      refine lv_dup hx hb dX3_beginMinute_39 rfl ?_
      refine g0_1 CX hM (kd3_f hk_k) wf_X3_97 dX3_beginMinute_40 ?_
      refine lv_aload_n hx hb dX3_beginMinute_43 rfl (lv_at hl 0 rfl) ?_
      refine g3_2 CX hM hk_k wf_X3_22 dX3_beginMinute_44 ?_
      refine lv_iadd hx hb dX3_beginMinute_47 ?_
      refine p0_1 (y := ((σ8 (k + 1) 1) + (σ8 k 2))) CX hM (kd3_f hk_k) wf_X3_97 dX3_beginMinute_48 (fun H locs σ9 eσ9 hM => ?_)
      replace h := nm_h eσ9 h
      exact J51 _ _  _ _ _ hM (lv_sub hl [0, 1] rfl) h
def rm_X1_heatRooms : Jvm.Room := { frames := 4, cells := 0, slots := 0, locals := 85 }
set_option maxHeartbeats 4000000 in
set_option maxRecDepth 100000 in
theorem c_X1_heatRooms (l : Launch) (E : xE) (B : Nat) {k : Nat} {σ : xM} {q : Unit × xM} (hk_k : kd k = 1) (h : F_X1_heatRooms k σ = some q) : Met l yX1_heatRooms (Cond.code yX1_heatRooms cX1_heatRooms 4 none :: AL) rm_X1_heatRooms (xP E B 160 (layX E B) [.ref (B + k)] σ) (xQ E B 160 (layX E B) none q.2) 0 0 (wA B 160) := by
  refine x_met (plainFor_of_name (by decide +kernel)) (Nat.le_of_ble_eq_true rfl) rfl ?_
  intro p e s m below meth c ls CX hr hlk hM hl
  have hx := CX.1.1
  have hb := CX.1.2.1
  unfold F_X1_heatRooms at h
  have L14 : ∀ (N : Nat) (v1 : Int32) (v2 : Int32) (σ : xM), ∀ (H : Heap) (locs : List Loc) (ls : Array Slot), xS E B 160 (layX E B) s σ H locs → lv_has ls 4 [(0, .ref (B + k)), (1, .int v1), (2, .int v2)] → F_X1_heatRooms_L14 k N v1 v2 σ = some q → W p l e rm_X1_heatRooms s m ([.ref (B + k)] : List Value).toArray below meth c H locs 0 0 (MQ below (xQ E B 160 (layX E B) none q.2) ([.ref (B + k)] : List Value).toArray s 0 0 (wA B 160)) (F0 m 14 ls []) := by
    clear hM hl h
    intro N
    induction N with
    | zero =>
      intro v1 v2 σ  H locs ls hM hl h
      cases h
    | succ N ih =>
      intro v1 v2 σ  H locs ls hM hl h
      rw [F_X1_heatRooms_L14] at h
      refine lv_iload_n hx hb dX1_heatRooms_14 rfl (lv_at hl 2 rfl) ?_
      refine lv_aload_n hx hb dX1_heatRooms_15 rfl (lv_at hl 0 rfl) ?_
      refine g1_4 CX hM hk_k wf_X1_45 dX1_heatRooms_16 ?_
      refine lv_icmp_ge (tgt := 43) hx hb dX1_heatRooms_19 (by decide) (fun c2 => ?_) (fun c2 => ?_)
      · replace h := it_h c2 h
        obtain rfl := Option.some.inj h
        exact x_vret CX hr hlk hM rfl dX1_heatRooms_43
      · replace h := if_h c2 h
        refine lv_aload_n hx hb dX1_heatRooms_22 rfl (lv_at hl 0 rfl) ?_
        refine lv_iload_n hx hb dX1_heatRooms_23 rfl (lv_at hl 2 rfl) ?_
        obtain ⟨q3, eq3, h⟩ := bd_h h
        refine x_callV (As := [.int v2]) CX hM (kdl hk_k rfl) (ly1 hk_k _) rfl lk_X1_52 (c_X1_roomAt l E B hk_k eq3) ⟨rfl, rfl, by decide, by decide⟩ rfl hl.1 rfl (Nat.le_of_ble_eq_true rfl) dX1_heatRooms_24 (fun H locs hM => ?_)
        rcases hq3 : q3.1 with _ | r4
        · rw [hq3] at h
          replace h := oc_n h
          refine W.eq (g2 := F0 m 27 ls [.null]) rfl ?_
          refine lv_astore_nN (lv' := [(3, .null), (0, .ref (B + k)), (1, .int v1), (2, .int v2)]) hx hb dX1_heatRooms_27 rfl hl (by decide) rfl (fun ls hl => ?_)
          refine lv_aload_nN hx hb dX1_heatRooms_28 rfl (lv_at hl 0 rfl) ?_
          refine lv_ifnullN (tgt := 37) hx hb dX1_heatRooms_29 (by decide) ?_
          refine lv_iinc (v := (v2 + 1)) (lv' := [(2, .int (v2 + 1)), (3, .null), (0, .ref (B + k)), (1, .int v1)]) hx hb dX1_heatRooms_37 hl (k := 3) rfl rfl (by decide) rfl (fun ls hl => ?_)
          refine lv_goto (tgt := 14) hx hb dX1_heatRooms_40 (by decide) ?_
          exact ih _ _ _  _ _ _ hM (lv_sub hl [2, 3, 0] rfl) h
        · rw [hq3] at h
          replace h := oc_s h
          obtain ⟨hk_r4, h⟩ := ck_h h
          refine W.eq (g2 := F0 m 27 ls [.ref (B + r4)]) rfl ?_
          refine lv_astore_n (lv' := [(3, .ref (B + r4)), (0, .ref (B + k)), (1, .int v1), (2, .int v2)]) hx hb dX1_heatRooms_27 rfl hl (by decide) rfl (fun ls hl => ?_)
          refine lv_aload_n hx hb dX1_heatRooms_28 rfl (lv_at hl 0 rfl) ?_
          refine lv_ifnull hx hb dX1_heatRooms_29 ?_
          refine lv_aload_n hx hb dX1_heatRooms_32 rfl (lv_at hl 0 rfl) ?_
          refine lv_iload_n hx hb dX1_heatRooms_33 rfl (lv_at hl 2 rfl) ?_
          obtain ⟨q5, eq5, h⟩ := bd_h h
          refine x_callV (As := [.int v1]) CX hM (kdl hk_r4 rfl) (ly3 hk_r4 _) rfl lk_X1_119 (c_X3_beginMinute l E B hk_r4 eq5) ⟨rfl, rfl, by decide, by decide⟩ rfl hl.1 rfl (Nat.le_of_ble_eq_true rfl) dX1_heatRooms_34 (fun H locs hM => ?_)
          refine W.eq (g2 := F0 m 37 ls []) rfl ?_
          refine lv_iinc (v := (v2 + 1)) (lv' := [(2, .int (v2 + 1)), (3, .ref (B + r4)), (0, .ref (B + k)), (1, .int v1)]) hx hb dX1_heatRooms_37 hl (k := 3) rfl rfl (by decide) rfl (fun ls hl => ?_)
          refine lv_goto (tgt := 14) hx hb dX1_heatRooms_40 (by decide) ?_
          exact ih _ _ _  _ _ _ hM (lv_sub hl [2, 3, 0] rfl) h
  refine lv_aload_n hx hb dX1_heatRooms_0 rfl (lv_at hl 0 rfl) ?_
  refine g1_3 CX hM hk_k wf_X1_27 dX1_heatRooms_1 ?_
  refine lv_aload_n hx hb dX1_heatRooms_4 rfl (lv_at hl 0 rfl) ?_
  refine g1_5 CX hM hk_k wf_X1_49 dX1_heatRooms_5 ?_
  obtain ⟨q1, eq1, h⟩ := bd_h h
  refine x_callV (As := [.int (σ k 5)]) CX hM (kdl (kd1_f hk_k).2.2.2 rfl) (ly4 (kd1_f hk_k).2.2.2 _) rfl lk_X1_116 (c_X4_temperatureAt l E B ((kd1_f hk_k).2.2.2) eq1) ⟨rfl, rfl, by decide, by decide⟩ rfl hl.1 rfl (Nat.le_of_ble_eq_true rfl) dX1_heatRooms_8 (fun H locs hM => ?_)
  refine W.eq (g2 := F0 m 11 ls [.int q1.1]) rfl ?_
  refine lv_istore_n (lv' := [(1, .int q1.1), (0, .ref (B + k))]) hx hb dX1_heatRooms_11 rfl hl (by decide) rfl (fun ls hl => ?_)
  refine lv_iconst (v := 0) hx hb dX1_heatRooms_12 (by decide) ?_
  refine lv_istore_n (lv' := [(2, .int 0), (1, .int q1.1), (0, .ref (B + k))]) hx hb dX1_heatRooms_13 rfl hl (by decide) rfl (fun ls hl => ?_)
  exact L14 _ _ _ _  _ _ _ hM (lv_sub hl [2, 1, 0] rfl) h
def rm_X3_giveToOthers : Jvm.Room := { frames := 0, cells := 0, slots := 0, locals := 0 }
set_option maxHeartbeats 4000000 in
set_option maxRecDepth 100000 in
theorem c_X3_giveToOthers (l : Launch) (E : xE) (B : Nat) {k : Nat} {x1 : Int32} {σ : xM} {q : Unit × xM} (hk_k : kd k = 3) (h : F_X3_giveToOthers k x1 σ = some q) : Met l yX3_giveToOthers (Cond.code yX3_giveToOthers cX3_giveToOthers 2 none :: AL) rm_X3_giveToOthers (xP E B 160 (layX E B) [.ref (B + k), .int x1] σ) (xQ E B 160 (layX E B) none q.2) 0 0 (wA B 160) := by
  refine x_met (plainFor_of_name (by decide +kernel)) (Nat.le_of_ble_eq_true rfl) rfl ?_
  intro p e s m below meth c ls CX hr hlk hM hl
  have hx := CX.1.1
  have hb := CX.1.2.1
  unfold F_X3_giveToOthers at h
  refine lv_aload_n hx hb dX3_giveToOthers_0 rfl (lv_at hl 0 rfl) ?_
  refine lv_dup hx hb dX3_giveToOthers_1 rfl ?_
  refine g3_4 CX hM hk_k wf_X3_28 dX3_giveToOthers_2 ?_
  refine lv_iload_n hx hb dX3_giveToOthers_5 rfl (lv_at hl 1 rfl) ?_
  refine lv_isub hx hb dX3_giveToOthers_6 ?_
  refine p3_4 (y := ((σ k 4) - x1)) CX hM hk_k wf_X3_28 dX3_giveToOthers_7 (fun H locs σ1 eσ1 hM => ?_)
  replace h := nm_h eσ1 h
  refine lv_aload_n hx hb dX3_giveToOthers_10 rfl (lv_at hl 0 rfl) ?_
  refine g3_0 CX hM hk_k wf_X3_12 dX3_giveToOthers_11 ?_
  refine lv_dup hx hb dX3_giveToOthers_14 rfl ?_
  refine g0_3 CX hM (kd3_f hk_k) wf_X3_103 dX3_giveToOthers_15 ?_
  refine lv_iload_n hx hb dX3_giveToOthers_18 rfl (lv_at hl 1 rfl) ?_
  refine lv_iadd hx hb dX3_giveToOthers_19 ?_
  refine p0_3 (y := ((σ1 (k + 1) 3) + x1)) CX hM (kd3_f hk_k) wf_X3_103 dX3_giveToOthers_20 (fun H locs σ2 eσ2 hM => ?_)
  replace h := nm_h eσ2 h
  obtain rfl := Option.some.inj h
  exact x_vret CX hr hlk hM rfl dX3_giveToOthers_23
def rm_X1_exchangeHeat : Jvm.Room := { frames := 2, cells := 0, slots := 0, locals := 44 }
set_option maxHeartbeats 4000000 in
set_option maxRecDepth 100000 in
theorem c_X1_exchangeHeat (l : Launch) (E : xE) (B : Nat) {k : Nat} {σ : xM} {q : Unit × xM} (hk_k : kd k = 1) (h : F_X1_exchangeHeat k σ = some q) : Met l yX1_exchangeHeat (Cond.code yX1_exchangeHeat cX1_exchangeHeat 7 none :: AL) rm_X1_exchangeHeat (xP E B 160 (layX E B) [.ref (B + k)] σ) (xQ E B 160 (layX E B) none q.2) 0 0 (wA B 160) := by
  refine x_met (plainFor_of_name (by decide +kernel)) (Nat.le_of_ble_eq_true rfl) rfl ?_
  intro p e s m below meth c ls CX hr hlk hM hl
  have hx := CX.1.1
  have hb := CX.1.2.1
  unfold F_X1_exchangeHeat at h
  have LL : ∀ (N : Nat), (∀ (v1 : Int32) (σ : xM) (H : Heap) (locs : List Loc) (ls : Array Slot), xS E B 160 (layX E B) s σ H locs → lv_has ls 7 [(0, .ref (B + k)), (1, .int v1)] → F_X1_exchangeHeat_LL k N 2 v1 0 σ = some q → W p l e rm_X1_exchangeHeat s m ([.ref (B + k)] : List Value).toArray below meth c H locs 0 0 (MQ below (xQ E B 160 (layX E B) none q.2) ([.ref (B + k)] : List Value).toArray s 0 0 (wA B 160)) (F0 m 2 ls [])) ∧ (∀ (v1 : Int32) (v2 : Int32) (σ : xM) (H : Heap) (locs : List Loc) (ls : Array Slot), xS E B 160 (layX E B) s σ H locs → lv_has ls 7 [(0, .ref (B + k)), (1, .int v1), (2, .int v2)] → F_X1_exchangeHeat_LL k N 14 v1 v2 σ = some q → W p l e rm_X1_exchangeHeat s m ([.ref (B + k)] : List Value).toArray below meth c H locs 0 0 (MQ below (xQ E B 160 (layX E B) none q.2) ([.ref (B + k)] : List Value).toArray s 0 0 (wA B 160)) (F0 m 14 ls [])) := by
    clear hM hl h
    intro N
    induction N with
    | zero =>
      refine ⟨?_, ?_⟩
      · intro v1 σ H locs ls hM hl h
        cases h
      · intro v1 v2 σ H locs ls hM hl h
        cases h
    | succ N ih =>
      refine ⟨?_, ?_⟩
      · intro v1 σ H locs ls hM hl h
        rw [F_X1_exchangeHeat_LL] at h
        replace h := it_h rfl h
        refine lv_iload_n hx hb dX1_exchangeHeat_2 rfl (lv_at hl 1 rfl) ?_
        refine lv_aload_n hx hb dX1_exchangeHeat_3 rfl (lv_at hl 0 rfl) ?_
        refine g1_4 CX hM hk_k wf_X1_45 dX1_exchangeHeat_4 ?_
        refine lv_icmp_ge (tgt := 97) hx hb dX1_exchangeHeat_7 (by decide) (fun c1 => ?_) (fun c1 => ?_)
        · replace h := it_h c1 h
          obtain rfl := Option.some.inj h
          exact x_vret CX hr hlk hM rfl dX1_exchangeHeat_97
        · replace h := if_h c1 h
          refine lv_iload_n hx hb dX1_exchangeHeat_10 rfl (lv_at hl 1 rfl) ?_
          refine lv_iconst (v := 1) hx hb dX1_exchangeHeat_11 (by decide) ?_
          refine lv_iadd hx hb dX1_exchangeHeat_12 ?_
          refine lv_topi (fun x2_2 ex2_2 => ?_)
          replace h := nm_h ex2_2 h
          refine lv_istore_n (lv' := [(2, .int x2_2), (0, .ref (B + k)), (1, .int v1)]) hx hb dX1_exchangeHeat_13 rfl hl (by decide) rfl (fun ls hl => ?_)
          exact ih.2 _ _ _ _ _ _ hM (lv_sub hl [1, 2, 0] rfl) h
      · intro v1 v2 σ H locs ls hM hl h
        rw [F_X1_exchangeHeat_LL] at h
        replace h := if_h (by decide) h
        refine lv_iload_n hx hb dX1_exchangeHeat_14 rfl (lv_at hl 2 rfl) ?_
        refine lv_aload_n hx hb dX1_exchangeHeat_15 rfl (lv_at hl 0 rfl) ?_
        refine g1_4 CX hM hk_k wf_X1_45 dX1_exchangeHeat_16 ?_
        refine lv_icmp_ge (tgt := 91) hx hb dX1_exchangeHeat_19 (by decide) (fun c3 => ?_) (fun c3 => ?_)
        · replace h := it_h c3 h
          refine lv_iinc (v := (v1 + 1)) (lv' := [(1, .int (v1 + 1)), (0, .ref (B + k)), (2, .int v2)]) hx hb dX1_exchangeHeat_91 hl (k := 1) rfl rfl (by decide) rfl (fun ls hl => ?_)
          refine lv_goto (tgt := 2) hx hb dX1_exchangeHeat_94 (by decide) ?_
          exact ih.1 _ _ _ _ _ hM (lv_sub hl [1, 0] rfl) h
        · replace h := if_h c3 h
          refine lv_aload_n hx hb dX1_exchangeHeat_22 rfl (lv_at hl 0 rfl) ?_
          refine lv_iload_n hx hb dX1_exchangeHeat_23 rfl (lv_at hl 1 rfl) ?_
          obtain ⟨q4, eq4, h⟩ := bd_h h
          refine x_callV (As := [.int v1]) CX hM (kdl hk_k rfl) (ly1 hk_k _) rfl lk_X1_52 (c_X1_roomAt l E B hk_k eq4) ⟨rfl, rfl, by decide, by decide⟩ rfl hl.1 rfl (Nat.le_of_ble_eq_true rfl) dX1_exchangeHeat_24 (fun H locs hM => ?_)
          rcases hq4 : q4.1 with _ | r5
          · rw [hq4] at h
            replace h := oc_n h
            refine W.eq (g2 := F0 m 27 ls [.null]) rfl ?_
            refine lv_astore_nN (lv' := [(3, .null), (0, .ref (B + k)), (1, .int v1), (2, .int v2)]) hx hb dX1_exchangeHeat_27 rfl hl (by decide) rfl (fun ls hl => ?_)
            refine lv_aload_n hx hb dX1_exchangeHeat_28 rfl (lv_at hl 1 rfl) ?_
            refine lv_iload_n hx hb dX1_exchangeHeat_29 rfl (lv_at hl 3 rfl) ?_
            obtain ⟨q6, eq6, h⟩ := bd_h h
            refine x_callV (As := [.int v2]) CX hM (kdl hk_k rfl) (ly1 hk_k _) rfl lk_X1_52 (c_X1_roomAt l E B hk_k eq6) ⟨rfl, rfl, by decide, by decide⟩ rfl hl.1 rfl (Nat.le_of_ble_eq_true rfl) dX1_exchangeHeat_30 (fun H locs hM => ?_)
            rcases hq6 : q6.1 with _ | r7
            · rw [hq6] at h
              replace h := oc_n h
              refine W.eq (g2 := F0 m 33 ls [.null]) rfl ?_
              refine lv_astoreN (lv' := [(4, .null), (3, .null), (0, .ref (B + k)), (1, .int v1), (2, .int v2)]) hx hb dX1_exchangeHeat_33 hl (by decide) rfl (fun ls hl => ?_)
              refine lv_aload_nN hx hb dX1_exchangeHeat_35 rfl (lv_at hl 1 rfl) ?_
              refine lv_ifnullN (tgt := 85) hx hb dX1_exchangeHeat_36 (by decide) ?_
              refine lv_iinc (v := (v2 + 1)) (lv' := [(2, .int (v2 + 1)), (4, .null), (3, .null), (0, .ref (B + k)), (1, .int v1)]) hx hb dX1_exchangeHeat_85 hl (k := 4) rfl rfl (by decide) rfl (fun ls hl => ?_)
              refine lv_goto (tgt := 14) hx hb dX1_exchangeHeat_88 (by decide) ?_
              exact ih.2 _ _ _ _ _ _ hM (lv_sub hl [3, 4, 0] rfl) h
            · rw [hq6] at h
              replace h := oc_s h
              obtain ⟨hk_r7, h⟩ := ck_h h
              refine W.eq (g2 := F0 m 33 ls [.ref (B + r7)]) rfl ?_
              refine lv_astore (lv' := [(4, .ref (B + r7)), (3, .null), (0, .ref (B + k)), (1, .int v1), (2, .int v2)]) hx hb dX1_exchangeHeat_33 hl (by decide) rfl (fun ls hl => ?_)
              refine lv_aload_nN hx hb dX1_exchangeHeat_35 rfl (lv_at hl 1 rfl) ?_
              refine lv_ifnullN (tgt := 85) hx hb dX1_exchangeHeat_36 (by decide) ?_
              refine lv_iinc (v := (v2 + 1)) (lv' := [(2, .int (v2 + 1)), (4, .ref (B + r7)), (3, .null), (0, .ref (B + k)), (1, .int v1)]) hx hb dX1_exchangeHeat_85 hl (k := 4) rfl rfl (by decide) rfl (fun ls hl => ?_)
              refine lv_goto (tgt := 14) hx hb dX1_exchangeHeat_88 (by decide) ?_
              exact ih.2 _ _ _ _ _ _ hM (lv_sub hl [3, 4, 0] rfl) h
          · rw [hq4] at h
            replace h := oc_s h
            obtain ⟨hk_r5, h⟩ := ck_h h
            refine W.eq (g2 := F0 m 27 ls [.ref (B + r5)]) rfl ?_
            refine lv_astore_n (lv' := [(3, .ref (B + r5)), (0, .ref (B + k)), (1, .int v1), (2, .int v2)]) hx hb dX1_exchangeHeat_27 rfl hl (by decide) rfl (fun ls hl => ?_)
            refine lv_aload_n hx hb dX1_exchangeHeat_28 rfl (lv_at hl 1 rfl) ?_
            refine lv_iload_n hx hb dX1_exchangeHeat_29 rfl (lv_at hl 3 rfl) ?_
            obtain ⟨q8, eq8, h⟩ := bd_h h
            refine x_callV (As := [.int v2]) CX hM (kdl hk_k rfl) (ly1 hk_k _) rfl lk_X1_52 (c_X1_roomAt l E B hk_k eq8) ⟨rfl, rfl, by decide, by decide⟩ rfl hl.1 rfl (Nat.le_of_ble_eq_true rfl) dX1_exchangeHeat_30 (fun H locs hM => ?_)
            rcases hq8 : q8.1 with _ | r9
            · rw [hq8] at h
              replace h := oc_n h
              refine W.eq (g2 := F0 m 33 ls [.null]) rfl ?_
              refine lv_astoreN (lv' := [(4, .null), (3, .ref (B + r5)), (0, .ref (B + k)), (1, .int v1), (2, .int v2)]) hx hb dX1_exchangeHeat_33 hl (by decide) rfl (fun ls hl => ?_)
              refine lv_aload_n hx hb dX1_exchangeHeat_35 rfl (lv_at hl 1 rfl) ?_
              refine lv_ifnull hx hb dX1_exchangeHeat_36 ?_
              refine lv_aloadN hx hb dX1_exchangeHeat_39 (lv_at hl 0 rfl) ?_
              refine lv_ifnullN (tgt := 85) hx hb dX1_exchangeHeat_41 (by decide) ?_
              refine lv_iinc (v := (v2 + 1)) (lv' := [(2, .int (v2 + 1)), (4, .null), (3, .ref (B + r5)), (0, .ref (B + k)), (1, .int v1)]) hx hb dX1_exchangeHeat_85 hl (k := 4) rfl rfl (by decide) rfl (fun ls hl => ?_)
              refine lv_goto (tgt := 14) hx hb dX1_exchangeHeat_88 (by decide) ?_
              exact ih.2 _ _ _ _ _ _ hM (lv_sub hl [3, 4, 0] rfl) h
            · rw [hq8] at h
              replace h := oc_s h
              obtain ⟨hk_r9, h⟩ := ck_h h
              refine W.eq (g2 := F0 m 33 ls [.ref (B + r9)]) rfl ?_
              refine lv_astore (lv' := [(4, .ref (B + r9)), (3, .ref (B + r5)), (0, .ref (B + k)), (1, .int v1), (2, .int v2)]) hx hb dX1_exchangeHeat_33 hl (by decide) rfl (fun ls hl => ?_)
              refine lv_aload_n hx hb dX1_exchangeHeat_35 rfl (lv_at hl 1 rfl) ?_
              refine lv_ifnull hx hb dX1_exchangeHeat_36 ?_
              refine lv_aload hx hb dX1_exchangeHeat_39 (lv_at hl 0 rfl) ?_
              refine lv_ifnull hx hb dX1_exchangeHeat_41 ?_
              refine lv_aload_n hx hb dX1_exchangeHeat_44 rfl (lv_at hl 1 rfl) ?_
              refine g3_17 CX hM hk_r5 wf_X1_123 dX1_exchangeHeat_45 ?_
              refine lv_aload hx hb dX1_exchangeHeat_48 (lv_at hl 0 rfl) ?_
              refine g3_17 CX hM hk_r9 wf_X1_123 dX1_exchangeHeat_50 ?_
              refine lv_isub hx hb dX1_exchangeHeat_53 ?_
              refine lv_topi (fun x5_10 ex5_10 => ?_)
              replace h := nm_h ex5_10 h
              refine lv_istore (lv' := [(5, .int x5_10), (4, .ref (B + r9)), (3, .ref (B + r5)), (0, .ref (B + k)), (1, .int v1), (2, .int v2)]) hx hb dX1_exchangeHeat_54 hl (by decide) rfl (fun ls hl => ?_)
              refine lv_aload_n hx hb dX1_exchangeHeat_56 rfl (lv_at hl 3 rfl) ?_
              refine lv_iload_n hx hb dX1_exchangeHeat_57 rfl (lv_at hl 4 rfl) ?_
              refine lv_iload_n hx hb dX1_exchangeHeat_58 rfl (lv_at hl 5 rfl) ?_
              obtain ⟨q11, eq11, h⟩ := bd_h h
              refine x_callV (As := [.int v1, .int v2]) CX hM (kdl hk_k rfl) (ly1 hk_k _) rfl lk_X1_74 (c_X1_linkOf l E B hk_k eq11) ⟨rfl, rfl, by decide, by decide⟩ rfl hl.1 rfl (Nat.le_of_ble_eq_true rfl) dX1_exchangeHeat_59 (fun H locs hM => ?_)
              refine W.eq (g2 := F0 m 62 ls [.int q11.1]) rfl ?_
              refine lv_iload hx hb dX1_exchangeHeat_62 (lv_at hl 0 rfl) ?_
              refine lv_imul hx hb dX1_exchangeHeat_64 ?_
              refine lv_sipush (v := 1000) hx hb dX1_exchangeHeat_65 (by decide) ?_
              refine lv_idiv hx hb dX1_exchangeHeat_68 (by decide) ?_
              refine lv_topi (fun x6_12 ex6_12 => ?_)
              replace h := nm_h ex6_12 h
              refine lv_istore (lv' := [(6, .int x6_12), (5, .int x5_10), (4, .ref (B + r9)), (3, .ref (B + r5)), (0, .ref (B + k)), (1, .int v1), (2, .int v2)]) hx hb dX1_exchangeHeat_69 hl (by decide) rfl (fun ls hl => ?_)
              refine lv_aload_n hx hb dX1_exchangeHeat_71 rfl (lv_at hl 3 rfl) ?_
              refine lv_iload hx hb dX1_exchangeHeat_72 (lv_at hl 0 rfl) ?_
              obtain ⟨q13, eq13, h⟩ := bd_h h
              refine x_callV (As := [.int x6_12]) CX hM (kdl hk_r5 rfl) (ly3 hk_r5 _) rfl lk_X1_126 (c_X3_giveToOthers l E B hk_r5 eq13) ⟨rfl, rfl, by decide, by decide⟩ rfl hl.1 rfl (Nat.le_of_ble_eq_true rfl) dX1_exchangeHeat_74 (fun H locs hM => ?_)
              refine W.eq (g2 := F0 m 77 ls []) rfl ?_
              refine lv_aload hx hb dX1_exchangeHeat_77 (lv_at hl 2 rfl) ?_
              refine lv_iload hx hb dX1_exchangeHeat_79 (lv_at hl 0 rfl) ?_
              refine lv_ineg hx hb dX1_exchangeHeat_81 ?_
              obtain ⟨q14, eq14, h⟩ := bd_h h
              refine x_callV (As := [.int (-x6_12)]) CX hM (kdl hk_r9 rfl) (ly3 hk_r9 _) rfl lk_X1_126 (c_X3_giveToOthers l E B hk_r9 eq14) ⟨rfl, rfl, by decide, by decide⟩ rfl hl.1 rfl (Nat.le_of_ble_eq_true rfl) dX1_exchangeHeat_82 (fun H locs hM => ?_)
              refine W.eq (g2 := F0 m 85 ls []) rfl ?_
              refine lv_iinc (v := (v2 + 1)) (lv' := [(2, .int (v2 + 1)), (6, .int x6_12), (5, .int x5_10), (4, .ref (B + r9)), (3, .ref (B + r5)), (0, .ref (B + k)), (1, .int v1)]) hx hb dX1_exchangeHeat_85 hl (k := 6) rfl rfl (by decide) rfl (fun ls hl => ?_)
              refine lv_goto (tgt := 14) hx hb dX1_exchangeHeat_88 (by decide) ?_
              exact ih.2 _ _ _ _ _ _ hM (lv_sub hl [5, 6, 0] rfl) h
  refine lv_iconst (v := 0) hx hb dX1_exchangeHeat_0 (by decide) ?_
  refine lv_istore_n (lv' := [(1, .int 0), (0, .ref (B + k))]) hx hb dX1_exchangeHeat_1 rfl hl (by decide) rfl (fun ls hl => ?_)
  exact (LL _).1 _ _ _ _ _ hM (lv_sub hl [1, 0] rfl) h
