def rm_X7_keeps : Jvm.Room := { frames := 0, cells := 0, slots := 0, locals := 0 }
set_option maxHeartbeats 4000000 in
set_option maxRecDepth 100000 in
theorem c_X7_keeps (l : Launch) (E : xE) (B : Nat) {k : Nat} {σ : xM} {q : Unit × xM} (hk_k : kdY k = 7) (h : F_X7_keeps k σ = some q) : Met l yX7_keeps (Cond.code yX7_keeps cX7_keeps 2 none :: AL) rm_X7_keeps (xP E B 7 (layY E B) [.ref (B + k)] σ) (xQ E B 7 (layY E B) none q.2) 0 0 (wA B 7) := by
  refine x_met (plainFor_of_name (by decide +kernel)) (Nat.le_of_ble_eq_true rfl) rfl ?_
  intro p e s m below meth c ls CX hr hlk hM hl
  have hx := CX.1.1
  have hb := CX.1.2.1
  unfold F_X7_keeps at h
  have L2 : ∀ (N : Nat) (v1 : Int32) (σ : xM), ∀ (H : Heap) (locs : List Loc) (ls : Array Slot), xS E B 7 (layY E B) s σ H locs → lv_has ls 2 [(0, .ref (B + k)), (1, .int v1)] → F_X7_keeps_L2 k N v1 σ = some q → W p l e rm_X7_keeps s m ([.ref (B + k)] : List Value).toArray below meth c H locs 0 0 (MQ below (xQ E B 7 (layY E B) none q.2) ([.ref (B + k)] : List Value).toArray s 0 0 (wA B 7)) (F0 m 2 ls []) := by
    clear hM hl h
    intro N
    induction N with
    | zero =>
      intro v1 σ  H locs ls hM hl h
      cases h
    | succ N ih =>
      intro v1 σ  H locs ls hM hl h
      rw [F_X7_keeps_L2] at h
      refine lv_iload_n hx hb dX7_keeps_2 rfl (lv_at hl 1 rfl) ?_
      refine lv_sipush (v := 196) hx hb dX7_keeps_3 (by decide) ?_
      refine lv_icmp_ge (tgt := 27) hx hb dX7_keeps_6 (by decide) (fun c1 => ?_) (fun c1 => ?_)
      · replace h := it_h c1 h
        obtain rfl := Option.some.inj h
        exact x_vret CX hr hlk hM rfl dX7_keeps_27
      · replace h := if_h c1 h
        refine lv_aload_n hx hb dX7_keeps_9 rfl (lv_at hl 0 rfl) ?_
        refine g7_5 CX hM hk_k wf_X7_20 dX7_keeps_10 ?_
        refine lv_iload_n hx hb dX7_keeps_13 rfl (lv_at hl 1 rfl) ?_
        refine lv_aload_n hx hb dX7_keeps_14 rfl (lv_at hl 0 rfl) ?_
        refine g7_0 CX hM hk_k wf_X7_7 dX7_keeps_15 ?_
        refine lv_iload_n hx hb dX7_keeps_18 rfl (lv_at hl 1 rfl) ?_
        obtain ⟨g2, h⟩ := ck_h h
        refine x_iald CX hM (kdYl (kd7_f hk_k).1 rfl) (ly20 (kd7_f hk_k).1 _) g2 dX7_keeps_19 ?_
        obtain ⟨g3, h⟩ := ck_h h
        refine x_iast CX hM (kdYl (kd7_f hk_k).2.2.2.1 rfl) (fun f => ly23 (kd7_f hk_k).2.2.2.1 f) g3 dX7_keeps_20 (fun H locs σ4 eσ4 hM => ?_)
        replace h := nm_h eσ4 h
        refine lv_iinc (v := (v1 + 1)) (lv' := [(1, .int (v1 + 1)), (0, .ref (B + k))]) hx hb dX7_keeps_21 hl (k := 1) rfl rfl (by decide) rfl (fun ls hl => ?_)
        refine lv_goto (tgt := 2) hx hb dX7_keeps_24 (by decide) ?_
        exact ih _ _  _ _ _ hM (lv_sub hl [1, 0] rfl) h
  refine lv_iconst (v := 0) hx hb dX7_keeps_0 (by decide) ?_
  refine lv_istore_n (lv' := [(1, .int 0), (0, .ref (B + k))]) hx hb dX7_keeps_1 rfl hl (by decide) rfl (fun ls hl => ?_)
  exact L2 _ _ _  _ _ _ hM (lv_sub hl [1, 0] rfl) h
def rm_X7_restores : Jvm.Room := { frames := 0, cells := 0, slots := 0, locals := 0 }
set_option maxHeartbeats 4000000 in
set_option maxRecDepth 100000 in
theorem c_X7_restores (l : Launch) (E : xE) (B : Nat) {k : Nat} {σ : xM} {q : Unit × xM} (hk_k : kdY k = 7) (h : F_X7_restores k σ = some q) : Met l yX7_restores (Cond.code yX7_restores cX7_restores 2 none :: AL) rm_X7_restores (xP E B 7 (layY E B) [.ref (B + k)] σ) (xQ E B 7 (layY E B) none q.2) 0 0 (wA B 7) := by
  refine x_met (plainFor_of_name (by decide +kernel)) (Nat.le_of_ble_eq_true rfl) rfl ?_
  intro p e s m below meth c ls CX hr hlk hM hl
  have hx := CX.1.1
  have hb := CX.1.2.1
  unfold F_X7_restores at h
  have L2 : ∀ (N : Nat) (v1 : Int32) (σ : xM), ∀ (H : Heap) (locs : List Loc) (ls : Array Slot), xS E B 7 (layY E B) s σ H locs → lv_has ls 2 [(0, .ref (B + k)), (1, .int v1)] → F_X7_restores_L2 k N v1 σ = some q → W p l e rm_X7_restores s m ([.ref (B + k)] : List Value).toArray below meth c H locs 0 0 (MQ below (xQ E B 7 (layY E B) none q.2) ([.ref (B + k)] : List Value).toArray s 0 0 (wA B 7)) (F0 m 2 ls []) := by
    clear hM hl h
    intro N
    induction N with
    | zero =>
      intro v1 σ  H locs ls hM hl h
      cases h
    | succ N ih =>
      intro v1 σ  H locs ls hM hl h
      rw [F_X7_restores_L2] at h
      refine lv_iload_n hx hb dX7_restores_2 rfl (lv_at hl 1 rfl) ?_
      refine lv_sipush (v := 196) hx hb dX7_restores_3 (by decide) ?_
      refine lv_icmp_ge (tgt := 27) hx hb dX7_restores_6 (by decide) (fun c1 => ?_) (fun c1 => ?_)
      · replace h := it_h c1 h
        obtain rfl := Option.some.inj h
        exact x_vret CX hr hlk hM rfl dX7_restores_27
      · replace h := if_h c1 h
        refine lv_aload_n hx hb dX7_restores_9 rfl (lv_at hl 0 rfl) ?_
        refine g7_0 CX hM hk_k wf_X7_7 dX7_restores_10 ?_
        refine lv_iload_n hx hb dX7_restores_13 rfl (lv_at hl 1 rfl) ?_
        refine lv_aload_n hx hb dX7_restores_14 rfl (lv_at hl 0 rfl) ?_
        refine g7_5 CX hM hk_k wf_X7_20 dX7_restores_15 ?_
        refine lv_iload_n hx hb dX7_restores_18 rfl (lv_at hl 1 rfl) ?_
        obtain ⟨g2, h⟩ := ck_h h
        refine x_iald CX hM (kdYl (kd7_f hk_k).2.2.2.1 rfl) (ly23 (kd7_f hk_k).2.2.2.1 _) g2 dX7_restores_19 ?_
        obtain ⟨g3, h⟩ := ck_h h
        refine x_iast CX hM (kdYl (kd7_f hk_k).1 rfl) (fun f => ly20 (kd7_f hk_k).1 f) g3 dX7_restores_20 (fun H locs σ4 eσ4 hM => ?_)
        replace h := nm_h eσ4 h
        refine lv_iinc (v := (v1 + 1)) (lv' := [(1, .int (v1 + 1)), (0, .ref (B + k))]) hx hb dX7_restores_21 hl (k := 1) rfl rfl (by decide) rfl (fun ls hl => ?_)
        refine lv_goto (tgt := 2) hx hb dX7_restores_24 (by decide) ?_
        exact ih _ _  _ _ _ hM (lv_sub hl [1, 0] rfl) h
  refine lv_iconst (v := 0) hx hb dX7_restores_0 (by decide) ?_
  refine lv_istore_n (lv' := [(1, .int 0), (0, .ref (B + k))]) hx hb dX7_restores_1 rfl hl (by decide) rfl (fun ls hl => ?_)
  exact L2 _ _ _  _ _ _ hM (lv_sub hl [1, 0] rfl) h
def rm_X7_minutesToSuspect : Jvm.Room := { frames := 4, cells := 0, slots := 0, locals := 93 }
set_option maxHeartbeats 4000000 in
set_option maxRecDepth 100000 in
theorem c_X7_minutesToSuspect (l : Launch) (E : xE) (B : Nat) {k : Nat} {x1 : Int32} {σ : xM} {q : Int32 × xM} (hk_k : kdY k = 7) (h : F_X7_minutesToSuspect k x1 σ = some q) : Met l yX7_minutesToSuspect (Cond.code yX7_minutesToSuspect cX7_minutesToSuspect 5 (some .int) :: AL) rm_X7_minutesToSuspect (xP E B 7 (layY E B) [.ref (B + k), .int x1] σ) (xQ E B 7 (layY E B) (some (.int q.1)) q.2) 0 0 (wA B 7) := by
  refine x_met (plainFor_of_name (by decide +kernel)) (Nat.le_of_ble_eq_true rfl) rfl ?_
  intro p e s m below meth c ls CX hr hlk hM hl
  have hx := CX.1.1
  have hb := CX.1.2.1
  unfold F_X7_minutesToSuspect at h
  have J64 : ∀ (v2 : Int32) (y0 : Int32) (σ : xM), ∀ (H : Heap) (locs : List Loc) (ls : Array Slot), xS E B 7 (layY E B) s σ H locs → lv_has ls 5 [(0, .ref (B + k)), (2, .int v2)] → F_X7_minutesToSuspect_J64 k v2 y0 σ = some q → W p l e rm_X7_minutesToSuspect s m ([.ref (B + k), .int x1] : List Value).toArray below meth c H locs 0 0 (MQ below (xQ E B 7 (layY E B) (some (.int q.1)) q.2) ([.ref (B + k), .int x1] : List Value).toArray s 0 0 (wA B 7)) (F0 m 64 ls [.int y0]) := by
    clear hM hl h
    intro v2 y0 σ  H locs ls hM hl h
    unfold F_X7_minutesToSuspect_J64 at h
    refine lv_istore (lv' := [(4, .int y0), (0, .ref (B + k)), (2, .int v2)]) hx hb dX7_minutesToSuspect_64 hl (by decide) rfl (fun ls hl => ?_)
    refine lv_aload_n hx hb dX7_minutesToSuspect_66 rfl (lv_at hl 1 rfl) ?_
    obtain ⟨q7, eq7, h⟩ := bd_h h
    refine x_callV (As := []) CX hM (kdYl hk_k rfl) (ly7 hk_k _) rfl lk_X7_141 (c_X7_restores l E B hk_k eq7) ⟨rfl, rfl, by decide, by decide⟩ rfl hl.1 rfl (Nat.le_of_ble_eq_true rfl) dX7_minutesToSuspect_67 (fun H locs hM => ?_)
    refine W.eq (g2 := F0 m 70 ls []) rfl ?_
    refine lv_iload hx hb dX7_minutesToSuspect_70 (lv_at hl 0 rfl) ?_
    refine lv_if_eq (tgt := 79) hx hb dX7_minutesToSuspect_72 (by decide) (fun c8 => ?_) (fun c8 => ?_)
    · replace h := it_h c8 h
      refine lv_ldc (v := (-1000009)) hx hb CX.1.2.2.2.1 (x_hts CX wc_X7_55) dX7_minutesToSuspect_79 ?_
      obtain rfl := Option.some.inj h
      exact x_iret CX hr hlk hM rfl dX7_minutesToSuspect_81
    · replace h := if_h c8 h
      refine lv_iload_n hx hb dX7_minutesToSuspect_75 rfl (lv_at hl 2 rfl) ?_
      refine lv_goto (tgt := 81) hx hb dX7_minutesToSuspect_76 (by decide) ?_
      obtain rfl := Option.some.inj h
      exact x_iret CX hr hlk hM rfl dX7_minutesToSuspect_81
  have J63 : ∀ (v2 : Int32) (σ : xM), ∀ (H : Heap) (locs : List Loc) (ls : Array Slot), xS E B 7 (layY E B) s σ H locs → lv_has ls 5 [(0, .ref (B + k)), (2, .int v2)] → F_X7_minutesToSuspect_J63 k v2 σ = some q → W p l e rm_X7_minutesToSuspect s m ([.ref (B + k), .int x1] : List Value).toArray below meth c H locs 0 0 (MQ below (xQ E B 7 (layY E B) (some (.int q.1)) q.2) ([.ref (B + k), .int x1] : List Value).toArray s 0 0 (wA B 7)) (F0 m 63 ls []) := by
    clear hM hl h
    intro v2 σ  H locs ls hM hl h
    unfold F_X7_minutesToSuspect_J63 at h
    refine lv_iconst (v := 0) hx hb dX7_minutesToSuspect_63 (by decide) ?_
    exact J64 _ _ _  _ _ _ hM (lv_sub hl [0, 1] rfl) h
  have J47 : ∀ (v1 : Int32) (v2 : Int32) (v3 : Int32) (σ : xM), ∀ (H : Heap) (locs : List Loc) (ls : Array Slot), xS E B 7 (layY E B) s σ H locs → lv_has ls 5 [(0, .ref (B + k)), (1, .int v1), (2, .int v2), (3, .int v3)] → F_X7_minutesToSuspect_J47 k v1 v2 v3 σ = some q → W p l e rm_X7_minutesToSuspect s m ([.ref (B + k), .int x1] : List Value).toArray below meth c H locs 0 0 (MQ below (xQ E B 7 (layY E B) (some (.int q.1)) q.2) ([.ref (B + k), .int x1] : List Value).toArray s 0 0 (wA B 7)) (F0 m 47 ls []) := by
    clear hM hl h
    intro v1 v2 v3 σ  H locs ls hM hl h
    unfold F_X7_minutesToSuspect_J47 at h
    refine lv_aload_n hx hb dX7_minutesToSuspect_47 rfl (lv_at hl 0 rfl) ?_
    refine lv_iload_n hx hb dX7_minutesToSuspect_48 rfl (lv_at hl 1 rfl) ?_
    obtain ⟨q5, eq5, h⟩ := bd_h h
    refine x_callV (As := [.int v1]) CX hM (kdYl hk_k rfl) (ly7 hk_k _) rfl lk_X7_87 (c_X7_isSuspect l E B hk_k eq5) ⟨rfl, rfl, by decide, by decide⟩ rfl hl.1 rfl (Nat.le_of_ble_eq_true rfl) dX7_minutesToSuspect_49 (fun H locs hM => ?_)
    refine W.eq (g2 := F0 m 52 ls [.int (bz q5.1)]) rfl ?_
    refine lv_if_eq (tgt := 63) hx hb dX7_minutesToSuspect_52 (by decide) (fun c6 => ?_) (fun c6 => ?_)
    · replace h := it_h c6 h
      exact J63 _ _  _ _ _ hM (lv_sub hl [0, 2] rfl) h
    · replace h := if_h c6 h
      refine lv_iload_n hx hb dX7_minutesToSuspect_55 rfl (lv_at hl 3 rfl) ?_
      refine lv_if_lt (tgt := 63) hx hb dX7_minutesToSuspect_56 (by decide) (fun c9 => ?_) (fun c9 => ?_)
      · replace h := it_h c9 h
        exact J63 _ _  _ _ _ hM (lv_sub hl [0, 2] rfl) h
      · replace h := if_h c9 h
        refine lv_iconst (v := 1) hx hb dX7_minutesToSuspect_59 (by decide) ?_
        refine lv_goto (tgt := 64) hx hb dX7_minutesToSuspect_60 (by decide) ?_
        exact J64 _ _ _  _ _ _ hM (lv_sub hl [0, 2] rfl) h
  have L19 : ∀ (N : Nat) (v1 : Int32) (v2 : Int32) (v3 : Int32) (σ : xM), ∀ (H : Heap) (locs : List Loc) (ls : Array Slot), xS E B 7 (layY E B) s σ H locs → lv_has ls 5 [(0, .ref (B + k)), (1, .int v1), (2, .int v2), (3, .int v3)] → F_X7_minutesToSuspect_L19 k N v1 v2 v3 σ = some q → W p l e rm_X7_minutesToSuspect s m ([.ref (B + k), .int x1] : List Value).toArray below meth c H locs 0 0 (MQ below (xQ E B 7 (layY E B) (some (.int q.1)) q.2) ([.ref (B + k), .int x1] : List Value).toArray s 0 0 (wA B 7)) (F0 m 19 ls []) := by
    clear hM hl h
    intro N
    induction N with
    | zero =>
      intro v1 v2 v3 σ  H locs ls hM hl h
      cases h
    | succ N ih =>
      intro v1 v2 v3 σ  H locs ls hM hl h
      rw [F_X7_minutesToSuspect_L19] at h
      refine lv_iload_n hx hb dX7_minutesToSuspect_19 rfl (lv_at hl 2 rfl) ?_
      refine lv_sipush (v := 1000) hx hb dX7_minutesToSuspect_20 (by decide) ?_
      refine lv_icmp_ge (tgt := 47) hx hb dX7_minutesToSuspect_23 (by decide) (fun c4 => ?_) (fun c4 => ?_)
      · replace h := it_h c4 h
        exact J47 _ _ _ _  _ _ _ hM (lv_sub hl [0, 1, 2, 3] rfl) h
      · replace h := if_h c4 h
        refine lv_aload_n hx hb dX7_minutesToSuspect_26 rfl (lv_at hl 0 rfl) ?_
        refine lv_iload_n hx hb dX7_minutesToSuspect_27 rfl (lv_at hl 1 rfl) ?_
        obtain ⟨q10, eq10, h⟩ := bd_h h
        refine x_callV (As := [.int v1]) CX hM (kdYl hk_k rfl) (ly7 hk_k _) rfl lk_X7_87 (c_X7_isSuspect l E B hk_k eq10) ⟨rfl, rfl, by decide, by decide⟩ rfl hl.1 rfl (Nat.le_of_ble_eq_true rfl) dX7_minutesToSuspect_28 (fun H locs hM => ?_)
        refine W.eq (g2 := F0 m 31 ls [.int (bz q10.1)]) rfl ?_
        refine lv_if_ne (tgt := 47) hx hb dX7_minutesToSuspect_31 (by decide) (fun c11 => ?_) (fun c11 => ?_)
        · replace h := if_h c11 h
          exact J47 _ _ _ _  _ _ _ hM (lv_sub hl [0, 1, 2, 3] rfl) h
        · replace h := it_h c11 h
          refine lv_iload_n hx hb dX7_minutesToSuspect_34 rfl (lv_at hl 3 rfl) ?_
          refine lv_aload_n hx hb dX7_minutesToSuspect_35 rfl (lv_at hl 0 rfl) ?_
          obtain ⟨q12, eq12, h⟩ := bd_h h
          refine x_callV (As := []) CX hM (kdYl hk_k rfl) (ly7 hk_k _) rfl lk_X7_132 (c_X7_minute l E B hk_k eq12) ⟨rfl, rfl, by decide, by decide⟩ rfl hl.1 rfl (Nat.le_of_ble_eq_true rfl) dX7_minutesToSuspect_36 (fun H locs hM => ?_)
          refine W.eq (g2 := F0 m 39 ls [.int q12.1, .int v3]) rfl ?_
          refine lv_iadd hx hb dX7_minutesToSuspect_39 ?_
          refine lv_topi (fun x3_13 ex3_13 => ?_)
          replace h := nm_h ex3_13 h
          refine lv_istore_n (lv' := [(3, .int x3_13), (0, .ref (B + k)), (1, .int v1), (2, .int v2)]) hx hb dX7_minutesToSuspect_40 rfl hl (by decide) rfl (fun ls hl => ?_)
          refine lv_iinc (v := (v2 + 1)) (lv' := [(2, .int (v2 + 1)), (3, .int x3_13), (0, .ref (B + k)), (1, .int v1)]) hx hb dX7_minutesToSuspect_41 hl (k := 3) rfl rfl (by decide) rfl (fun ls hl => ?_)
          refine lv_goto (tgt := 19) hx hb dX7_minutesToSuspect_44 (by decide) ?_
          exact ih _ _ _ _  _ _ _ hM (lv_sub hl [2, 3, 0, 1] rfl) h
  refine lv_aload_n hx hb dX7_minutesToSuspect_0 rfl (lv_at hl 0 rfl) ?_
  refine lv_iload_n hx hb dX7_minutesToSuspect_1 rfl (lv_at hl 1 rfl) ?_
  obtain ⟨q1, eq1, h⟩ := bd_h h
  refine x_callV (As := [.int x1]) CX hM (kdYl hk_k rfl) (ly7 hk_k _) rfl lk_X7_56 (c_X7_isRoom l E B hk_k eq1) ⟨rfl, rfl, by decide, by decide⟩ rfl hl.1 rfl (Nat.le_of_ble_eq_true rfl) dX7_minutesToSuspect_2 (fun H locs hM => ?_)
  refine W.eq (g2 := F0 m 5 ls [.int (bz q1.1)]) rfl ?_
  refine lv_if_ne (tgt := 11) hx hb dX7_minutesToSuspect_5 (by decide) (fun c2 => ?_) (fun c2 => ?_)
  · replace h := if_h c2 h
    refine lv_aload_n hx hb dX7_minutesToSuspect_11 rfl (lv_at hl 0 rfl) ?_
    obtain ⟨q3, eq3, h⟩ := bd_h h
    refine x_callV (As := []) CX hM (kdYl hk_k rfl) (ly7 hk_k _) rfl lk_X7_138 (c_X7_keeps l E B hk_k eq3) ⟨rfl, rfl, by decide, by decide⟩ rfl hl.1 rfl (Nat.le_of_ble_eq_true rfl) dX7_minutesToSuspect_12 (fun H locs hM => ?_)
    refine W.eq (g2 := F0 m 15 ls []) rfl ?_
    refine lv_iconst (v := 0) hx hb dX7_minutesToSuspect_15 (by decide) ?_
    refine lv_istore_n (lv' := [(2, .int 0), (0, .ref (B + k)), (1, .int x1)]) hx hb dX7_minutesToSuspect_16 rfl hl (by decide) rfl (fun ls hl => ?_)
    refine lv_iconst (v := 0) hx hb dX7_minutesToSuspect_17 (by decide) ?_
    refine lv_istore_n (lv' := [(3, .int 0), (2, .int 0), (0, .ref (B + k)), (1, .int x1)]) hx hb dX7_minutesToSuspect_18 rfl hl (by decide) rfl (fun ls hl => ?_)
    exact L19 _ _ _ _ _  _ _ _ hM (lv_sub hl [2, 3, 1, 0] rfl) h
  · replace h := it_h c2 h
    refine lv_ldc (v := (-1000001)) hx hb CX.1.2.2.2.1 (x_hts CX wc_X7_46) dX7_minutesToSuspect_8 ?_
    obtain rfl := Option.some.inj h
    exact x_iret CX hr hlk hM rfl dX7_minutesToSuspect_10
def rm_X7_heated : Jvm.Room := { frames := 1, cells := 0, slots := 0, locals := 22 }
set_option maxHeartbeats 4000000 in
set_option maxRecDepth 100000 in
theorem c_X7_heated (l : Launch) (E : xE) (B : Nat) {k : Nat} {σ : xM} {q : Int32 × xM} (hk_k : kdY k = 7) (h : F_X7_heated k σ = some q) : Met l yX7_heated (Cond.code yX7_heated cX7_heated 3 (some .int) :: AL) rm_X7_heated (xP E B 7 (layY E B) [.ref (B + k)] σ) (xQ E B 7 (layY E B) (some (.int q.1)) q.2) 0 0 (wA B 7) := by
  refine x_met (plainFor_of_name (by decide +kernel)) (Nat.le_of_ble_eq_true rfl) rfl ?_
  intro p e s m below meth c ls CX hr hlk hM hl
  have hx := CX.1.1
  have hb := CX.1.2.1
  unfold F_X7_heated at h
  have L4 : ∀ (N : Nat) (v1 : Int32) (v2 : Int32) (σ : xM), ∀ (H : Heap) (locs : List Loc) (ls : Array Slot), xS E B 7 (layY E B) s σ H locs → lv_has ls 3 [(0, .ref (B + k)), (1, .int v1), (2, .int v2)] → F_X7_heated_L4 k N v1 v2 σ = some q → W p l e rm_X7_heated s m ([.ref (B + k)] : List Value).toArray below meth c H locs 0 0 (MQ below (xQ E B 7 (layY E B) (some (.int q.1)) q.2) ([.ref (B + k)] : List Value).toArray s 0 0 (wA B 7)) (F0 m 4 ls []) := by
    clear hM hl h
    intro N
    induction N with
    | zero =>
      intro v1 v2 σ  H locs ls hM hl h
      cases h
    | succ N ih =>
      intro v1 v2 σ  H locs ls hM hl h
      rw [F_X7_heated_L4] at h
      refine lv_iload_n hx hb dX7_heated_4 rfl (lv_at hl 2 rfl) ?_
      refine lv_aload_n hx hb dX7_heated_5 rfl (lv_at hl 0 rfl) ?_
      refine g7_0 CX hM hk_k wf_X7_7 dX7_heated_6 ?_
      refine lv_bipush (v := 7) hx hb dX7_heated_9 (by decide) ?_
      obtain ⟨g1, h⟩ := ck_h h
      refine x_iald CX hM (kdYl (kd7_f hk_k).1 rfl) (ly20 (kd7_f hk_k).1 _) g1 dX7_heated_11 ?_
      refine lv_icmp_ge (tgt := 31) hx hb dX7_heated_12 (by decide) (fun c2 => ?_) (fun c2 => ?_)
      · replace h := it_h c2 h
        refine lv_iload_n hx hb dX7_heated_31 rfl (lv_at hl 1 rfl) ?_
        obtain rfl := Option.some.inj h
        exact x_iret CX hr hlk hM rfl dX7_heated_32
      · replace h := if_h c2 h
        refine lv_iload_n hx hb dX7_heated_15 rfl (lv_at hl 1 rfl) ?_
        refine lv_aload_n hx hb dX7_heated_16 rfl (lv_at hl 0 rfl) ?_
        refine lv_iload_n hx hb dX7_heated_17 rfl (lv_at hl 2 rfl) ?_
        refine lv_bipush (v := 17) hx hb dX7_heated_18 (by decide) ?_
        obtain ⟨q3, eq3, h⟩ := bd_h h
        refine x_callV (As := [.int v2, .int 17]) CX hM (kdYl hk_k rfl) (ly7 hk_k _) rfl lk_X7_39 (c_X7_of l E B hk_k eq3) ⟨rfl, rfl, by decide, by decide⟩ rfl hl.1 rfl (Nat.le_of_ble_eq_true rfl) dX7_heated_20 (fun H locs hM => ?_)
        refine W.eq (g2 := F0 m 23 ls [.int q3.1, .int v1]) rfl ?_
        refine lv_iadd hx hb dX7_heated_23 ?_
        refine lv_topi (fun x1_4 ex1_4 => ?_)
        replace h := nm_h ex1_4 h
        refine lv_istore_n (lv' := [(1, .int x1_4), (0, .ref (B + k)), (2, .int v2)]) hx hb dX7_heated_24 rfl hl (by decide) rfl (fun ls hl => ?_)
        refine lv_iinc (v := (v2 + 1)) (lv' := [(2, .int (v2 + 1)), (1, .int x1_4), (0, .ref (B + k))]) hx hb dX7_heated_25 hl (k := 2) rfl rfl (by decide) rfl (fun ls hl => ?_)
        refine lv_goto (tgt := 4) hx hb dX7_heated_28 (by decide) ?_
        exact ih _ _ _  _ _ _ hM (lv_sub hl [2, 1, 0] rfl) h
  refine lv_iconst (v := 0) hx hb dX7_heated_0 (by decide) ?_
  refine lv_istore_n (lv' := [(1, .int 0), (0, .ref (B + k))]) hx hb dX7_heated_1 rfl hl (by decide) rfl (fun ls hl => ?_)
  refine lv_iconst (v := 0) hx hb dX7_heated_2 (by decide) ?_
  refine lv_istore_n (lv' := [(2, .int 0), (1, .int 0), (0, .ref (B + k))]) hx hb dX7_heated_3 rfl hl (by decide) rfl (fun ls hl => ?_)
  exact L4 _ _ _ _  _ _ _ hM (lv_sub hl [2, 1, 0] rfl) h
def rm_X7_heatIn : Jvm.Room := { frames := 5, cells := 0, slots := 0, locals := 116 }
set_option maxHeartbeats 4000000 in
set_option maxRecDepth 100000 in
theorem c_X7_heatIn (l : Launch) (E : xE) (B : Nat) {k : Nat} {x1 : Int32} {σ : xM} {q : Int32 × xM} (hk_k : kdY k = 7) (h : F_X7_heatIn k x1 σ = some q) : Met l yX7_heatIn (Cond.code yX7_heatIn cX7_heatIn 5 (some .int) :: AL) rm_X7_heatIn (xP E B 7 (layY E B) [.ref (B + k), .int x1] σ) (xQ E B 7 (layY E B) (some (.int q.1)) q.2) 0 0 (wA B 7) := by
  refine x_met (plainFor_of_name (by decide +kernel)) (Nat.le_of_ble_eq_true rfl) rfl ?_
  intro p e s m below meth c ls CX hr hlk hM hl
  have hx := CX.1.1
  have hb := CX.1.2.1
  unfold F_X7_heatIn at h
  have J41 : ∀ (v2 : Int32) (y0 : Int32) (σ : xM), ∀ (H : Heap) (locs : List Loc) (ls : Array Slot), xS E B 7 (layY E B) s σ H locs → lv_has ls 5 [(0, .ref (B + k)), (2, .int v2)] → F_X7_heatIn_J41 k v2 y0 σ = some q → W p l e rm_X7_heatIn s m ([.ref (B + k), .int x1] : List Value).toArray below meth c H locs 0 0 (MQ below (xQ E B 7 (layY E B) (some (.int q.1)) q.2) ([.ref (B + k), .int x1] : List Value).toArray s 0 0 (wA B 7)) (F0 m 41 ls [.int y0]) := by
    clear hM hl h
    intro v2 y0 σ  H locs ls hM hl h
    unfold F_X7_heatIn_J41 at h
    refine lv_istore (lv' := [(4, .int y0), (0, .ref (B + k)), (2, .int v2)]) hx hb dX7_heatIn_41 hl (by decide) rfl (fun ls hl => ?_)
    refine lv_aload_n hx hb dX7_heatIn_43 rfl (lv_at hl 1 rfl) ?_
    obtain ⟨q8, eq8, h⟩ := bd_h h
    refine x_callV (As := []) CX hM (kdYl hk_k rfl) (ly7 hk_k _) rfl lk_X7_141 (c_X7_restores l E B hk_k eq8) ⟨rfl, rfl, by decide, by decide⟩ rfl hl.1 rfl (Nat.le_of_ble_eq_true rfl) dX7_heatIn_44 (fun H locs hM => ?_)
    refine W.eq (g2 := F0 m 47 ls []) rfl ?_
    refine lv_iload hx hb dX7_heatIn_47 (lv_at hl 0 rfl) ?_
    refine lv_iload_n hx hb dX7_heatIn_49 rfl (lv_at hl 2 rfl) ?_
    refine lv_isub hx hb dX7_heatIn_50 ?_
    obtain rfl := Option.some.inj h
    exact x_iret CX hr hlk hM rfl dX7_heatIn_51
  refine lv_iload_n hx hb dX7_heatIn_0 rfl (lv_at hl 1 rfl) ?_
  refine lv_iconst (v := 1) hx hb dX7_heatIn_1 (by decide) ?_
  refine lv_sipush (v := 1000) hx hb dX7_heatIn_2 (by decide) ?_
  obtain ⟨q1, eq1, h⟩ := bd_h h
  refine x_callS (As := [.int x1, .int 1, .int 1000]) CX hM lk_X7_35 (c_X7_in l E B  eq1) ⟨rfl, rfl, by decide, by decide⟩ rfl hl.1 rfl (Nat.le_of_ble_eq_true rfl) dX7_heatIn_5 (fun H locs hM => ?_)
  refine W.eq (g2 := F0 m 8 ls [.int (bz q1.1)]) rfl ?_
  refine lv_if_ne (tgt := 14) hx hb dX7_heatIn_8 (by decide) (fun c2 => ?_) (fun c2 => ?_)
  · replace h := if_h c2 h
    refine lv_aload_n hx hb dX7_heatIn_14 rfl (lv_at hl 0 rfl) ?_
    obtain ⟨q3, eq3, h⟩ := bd_h h
    refine x_callV (As := []) CX hM (kdYl hk_k rfl) (ly7 hk_k _) rfl lk_X7_138 (c_X7_keeps l E B hk_k eq3) ⟨rfl, rfl, by decide, by decide⟩ rfl hl.1 rfl (Nat.le_of_ble_eq_true rfl) dX7_heatIn_15 (fun H locs hM => ?_)
    refine W.eq (g2 := F0 m 18 ls []) rfl ?_
    refine lv_aload_n hx hb dX7_heatIn_18 rfl (lv_at hl 0 rfl) ?_
    obtain ⟨q4, eq4, h⟩ := bd_h h
    refine x_callV (As := []) CX hM (kdYl hk_k rfl) (ly7 hk_k _) rfl lk_X7_144 (c_X7_heated l E B hk_k eq4) ⟨rfl, rfl, by decide, by decide⟩ rfl hl.1 rfl (Nat.le_of_ble_eq_true rfl) dX7_heatIn_19 (fun H locs hM => ?_)
    refine W.eq (g2 := F0 m 22 ls [.int q4.1]) rfl ?_
    refine lv_istore_n (lv' := [(2, .int q4.1), (0, .ref (B + k)), (1, .int x1)]) hx hb dX7_heatIn_22 rfl hl (by decide) rfl (fun ls hl => ?_)
    refine lv_aload_n hx hb dX7_heatIn_23 rfl (lv_at hl 1 rfl) ?_
    refine lv_iload_n hx hb dX7_heatIn_24 rfl (lv_at hl 2 rfl) ?_
    obtain ⟨q5, eq5, h⟩ := bd_h h
    refine x_callV (As := [.int x1]) CX hM (kdYl hk_k rfl) (ly7 hk_k _) rfl lk_X7_135 (c_X7_minutes l E B hk_k eq5) ⟨rfl, rfl, by decide, by decide⟩ rfl hl.1 rfl (Nat.le_of_ble_eq_true rfl) dX7_heatIn_25 (fun H locs hM => ?_)
    refine W.eq (g2 := F0 m 28 ls [.int q5.1]) rfl ?_
    refine lv_istore_n (lv' := [(3, .int q5.1), (2, .int q4.1), (0, .ref (B + k)), (1, .int x1)]) hx hb dX7_heatIn_28 rfl hl (by decide) rfl (fun ls hl => ?_)
    refine lv_iload_n hx hb dX7_heatIn_29 rfl (lv_at hl 0 rfl) ?_
    refine lv_if_ge (tgt := 37) hx hb dX7_heatIn_30 (by decide) (fun c6 => ?_) (fun c6 => ?_)
    · replace h := it_h c6 h
      refine lv_aload_n hx hb dX7_heatIn_37 rfl (lv_at hl 2 rfl) ?_
      obtain ⟨q7, eq7, h⟩ := bd_h h
      refine x_callV (As := []) CX hM (kdYl hk_k rfl) (ly7 hk_k _) rfl lk_X7_144 (c_X7_heated l E B hk_k eq7) ⟨rfl, rfl, by decide, by decide⟩ rfl hl.1 rfl (Nat.le_of_ble_eq_true rfl) dX7_heatIn_38 (fun H locs hM => ?_)
      refine W.eq (g2 := F0 m 41 ls [.int q7.1]) rfl ?_
      exact J41 _ _ _  _ _ _ hM (lv_sub hl [2, 1] rfl) h
    · replace h := if_h c6 h
      refine lv_iload_n hx hb dX7_heatIn_33 rfl (lv_at hl 1 rfl) ?_
      refine lv_goto (tgt := 41) hx hb dX7_heatIn_34 (by decide) ?_
      exact J41 _ _ _  _ _ _ hM (lv_sub hl [2, 1] rfl) h
  · replace h := it_h c2 h
    refine lv_ldc (v := (-1000001)) hx hb CX.1.2.2.2.1 (x_hts CX wc_X7_46) dX7_heatIn_11 ?_
    obtain rfl := Option.some.inj h
    exact x_iret CX hr hlk hM rfl dX7_heatIn_13
def rm_X7_fined : Jvm.Room := { frames := 5, cells := 0, slots := 0, locals := 116 }
set_option maxHeartbeats 4000000 in
set_option maxRecDepth 100000 in
theorem c_X7_fined (l : Launch) (E : xE) (B : Nat) {k : Nat} {x1 : Int32} {x2 : Int32} {x3 : Int32} {σ : xM} {q : Int32 × xM} (hk_k : kdY k = 7) (h : F_X7_fined k x1 x2 x3 σ = some q) : Met l yX7_fined (Cond.code yX7_fined cX7_fined 7 (some .int) :: AL) rm_X7_fined (xP E B 7 (layY E B) [.ref (B + k), .int x1, .int x2, .int x3] σ) (xQ E B 7 (layY E B) (some (.int q.1)) q.2) 0 0 (wA B 7) := by
  refine x_met (plainFor_of_name (by decide +kernel)) (Nat.le_of_ble_eq_true rfl) rfl ?_
  intro p e s m below meth c ls CX hr hlk hM hl
  have hx := CX.1.1
  have hb := CX.1.2.1
  unfold F_X7_fined at h
  have J44 : ∀ (v4 : Int32) (y0 : Int32) (σ : xM), ∀ (H : Heap) (locs : List Loc) (ls : Array Slot), xS E B 7 (layY E B) s σ H locs → lv_has ls 7 [(0, .ref (B + k)), (4, .int v4)] → F_X7_fined_J44 k v4 y0 σ = some q → W p l e rm_X7_fined s m ([.ref (B + k), .int x1, .int x2, .int x3] : List Value).toArray below meth c H locs 0 0 (MQ below (xQ E B 7 (layY E B) (some (.int q.1)) q.2) ([.ref (B + k), .int x1, .int x2, .int x3] : List Value).toArray s 0 0 (wA B 7)) (F0 m 44 ls [.int y0]) := by
    clear hM hl h
    intro v4 y0 σ  H locs ls hM hl h
    unfold F_X7_fined_J44 at h
    refine lv_istore (lv' := [(6, .int y0), (0, .ref (B + k)), (4, .int v4)]) hx hb dX7_fined_44 hl (by decide) rfl (fun ls hl => ?_)
    refine lv_aload_n hx hb dX7_fined_46 rfl (lv_at hl 1 rfl) ?_
    obtain ⟨q7, eq7, h⟩ := bd_h h
    refine x_callV (As := []) CX hM (kdYl hk_k rfl) (ly7 hk_k _) rfl lk_X7_141 (c_X7_restores l E B hk_k eq7) ⟨rfl, rfl, by decide, by decide⟩ rfl hl.1 rfl (Nat.le_of_ble_eq_true rfl) dX7_fined_47 (fun H locs hM => ?_)
    refine W.eq (g2 := F0 m 50 ls []) rfl ?_
    refine lv_iload hx hb dX7_fined_50 (lv_at hl 0 rfl) ?_
    refine lv_iload hx hb dX7_fined_52 (lv_at hl 2 rfl) ?_
    refine lv_isub hx hb dX7_fined_54 ?_
    obtain rfl := Option.some.inj h
    exact x_iret CX hr hlk hM rfl dX7_fined_55
  refine lv_aload_n hx hb dX7_fined_0 rfl (lv_at hl 0 rfl) ?_
  obtain ⟨q1, eq1, h⟩ := bd_h h
  refine x_callV (As := []) CX hM (kdYl hk_k rfl) (ly7 hk_k _) rfl lk_X7_138 (c_X7_keeps l E B hk_k eq1) ⟨rfl, rfl, by decide, by decide⟩ rfl hl.1 rfl (Nat.le_of_ble_eq_true rfl) dX7_fined_1 (fun H locs hM => ?_)
  refine W.eq (g2 := F0 m 4 ls []) rfl ?_
  refine lv_aload_n hx hb dX7_fined_4 rfl (lv_at hl 0 rfl) ?_
  refine lv_iload_n hx hb dX7_fined_5 rfl (lv_at hl 1 rfl) ?_
  refine lv_bipush (v := 12) hx hb dX7_fined_6 (by decide) ?_
  obtain ⟨q2, eq2, h⟩ := bd_h h
  refine x_callV (As := [.int x1, .int 12]) CX hM (kdYl hk_k rfl) (ly7 hk_k _) rfl lk_X7_39 (c_X7_of l E B hk_k eq2) ⟨rfl, rfl, by decide, by decide⟩ rfl hl.1 rfl (Nat.le_of_ble_eq_true rfl) dX7_fined_8 (fun H locs hM => ?_)
  refine W.eq (g2 := F0 m 11 ls [.int q2.1]) rfl ?_
  refine lv_istore (lv' := [(4, .int q2.1), (0, .ref (B + k)), (1, .int x1), (2, .int x2), (3, .int x3)]) hx hb dX7_fined_11 hl (by decide) rfl (fun ls hl => ?_)
  refine lv_aload_n hx hb dX7_fined_13 rfl (lv_at hl 1 rfl) ?_
  refine lv_iload_n hx hb dX7_fined_14 rfl (lv_at hl 2 rfl) ?_
  refine lv_iconst (v := 5) hx hb dX7_fined_15 (by decide) ?_
  refine lv_iload_n hx hb dX7_fined_16 rfl (lv_at hl 3 rfl) ?_
  obtain ⟨q3, eq3, h⟩ := bd_h h
  refine x_callV (As := [.int x1, .int 5, .int x2]) CX hM (kdYl hk_k rfl) (ly7 hk_k _) rfl lk_X7_51 (c_X7_puts l E B hk_k eq3) ⟨rfl, rfl, by decide, by decide⟩ rfl hl.1 rfl (Nat.le_of_ble_eq_true rfl) dX7_fined_17 (fun H locs hM => ?_)
  refine W.eq (g2 := F0 m 20 ls []) rfl ?_
  refine lv_aload_n hx hb dX7_fined_20 rfl (lv_at hl 1 rfl) ?_
  refine lv_iload_n hx hb dX7_fined_21 rfl (lv_at hl 4 rfl) ?_
  obtain ⟨q4, eq4, h⟩ := bd_h h
  refine x_callV (As := [.int x3]) CX hM (kdYl hk_k rfl) (ly7 hk_k _) rfl lk_X7_135 (c_X7_minutes l E B hk_k eq4) ⟨rfl, rfl, by decide, by decide⟩ rfl hl.1 rfl (Nat.le_of_ble_eq_true rfl) dX7_fined_22 (fun H locs hM => ?_)
  refine W.eq (g2 := F0 m 25 ls [.int q4.1]) rfl ?_
  refine lv_istore (lv' := [(5, .int q4.1), (4, .int q2.1), (0, .ref (B + k)), (1, .int x1), (2, .int x2), (3, .int x3)]) hx hb dX7_fined_25 hl (by decide) rfl (fun ls hl => ?_)
  refine lv_iload hx hb dX7_fined_27 (lv_at hl 0 rfl) ?_
  refine lv_if_ge (tgt := 37) hx hb dX7_fined_29 (by decide) (fun c5 => ?_) (fun c5 => ?_)
  · replace h := it_h c5 h
    refine lv_aload_n hx hb dX7_fined_37 rfl (lv_at hl 2 rfl) ?_
    refine lv_iload_n hx hb dX7_fined_38 rfl (lv_at hl 3 rfl) ?_
    refine lv_bipush (v := 12) hx hb dX7_fined_39 (by decide) ?_
    obtain ⟨q6, eq6, h⟩ := bd_h h
    refine x_callV (As := [.int x1, .int 12]) CX hM (kdYl hk_k rfl) (ly7 hk_k _) rfl lk_X7_39 (c_X7_of l E B hk_k eq6) ⟨rfl, rfl, by decide, by decide⟩ rfl hl.1 rfl (Nat.le_of_ble_eq_true rfl) dX7_fined_41 (fun H locs hM => ?_)
    refine W.eq (g2 := F0 m 44 ls [.int q6.1]) rfl ?_
    exact J44 _ _ _  _ _ _ hM (lv_sub hl [2, 1] rfl) h
  · replace h := if_h c5 h
    refine lv_iload hx hb dX7_fined_32 (lv_at hl 1 rfl) ?_
    refine lv_goto (tgt := 44) hx hb dX7_fined_34 (by decide) ?_
    exact J44 _ _ _  _ _ _ hM (lv_sub hl [2, 1] rfl) h
def rm_X7_finesWith : Jvm.Room := { frames := 6, cells := 0, slots := 0, locals := 142 }
set_option maxHeartbeats 4000000 in
set_option maxRecDepth 100000 in
theorem c_X7_finesWith (l : Launch) (E : xE) (B : Nat) {k : Nat} {x1 : Int32} {x2 : Int32} {x3 : Int32} {σ : xM} {q : Int32 × xM} (hk_k : kdY k = 7) (h : F_X7_finesWith k x1 x2 x3 σ = some q) : Met l yX7_finesWith (Cond.code yX7_finesWith cX7_finesWith 4 (some .int) :: AL) rm_X7_finesWith (xP E B 7 (layY E B) [.ref (B + k), .int x1, .int x2, .int x3] σ) (xQ E B 7 (layY E B) (some (.int q.1)) q.2) 0 0 (wA B 7) := by
  refine x_met (plainFor_of_name (by decide +kernel)) (Nat.le_of_ble_eq_true rfl) rfl ?_
  intro p e s m below meth c ls CX hr hlk hM hl
  have hx := CX.1.1
  have hb := CX.1.2.1
  unfold F_X7_finesWith at h
  refine lv_aload_n hx hb dX7_finesWith_0 rfl (lv_at hl 0 rfl) ?_
  refine lv_iload_n hx hb dX7_finesWith_1 rfl (lv_at hl 1 rfl) ?_
  obtain ⟨q1, eq1, h⟩ := bd_h h
  refine x_callV (As := [.int x1]) CX hM (kdYl hk_k rfl) (ly7 hk_k _) rfl lk_X7_56 (c_X7_isRoom l E B hk_k eq1) ⟨rfl, rfl, by decide, by decide⟩ rfl hl.1 rfl (Nat.le_of_ble_eq_true rfl) dX7_finesWith_2 (fun H locs hM => ?_)
  refine W.eq (g2 := F0 m 5 ls [.int (bz q1.1)]) rfl ?_
  refine lv_if_eq (tgt := 31) hx hb dX7_finesWith_5 (by decide) (fun c2 => ?_) (fun c2 => ?_)
  · replace h := it_h c2 h
    refine lv_ldc (v := (-1000001)) hx hb CX.1.2.2.2.1 (x_hts CX wc_X7_46) dX7_finesWith_31 ?_
    refine lv_goto (tgt := 43) hx hb dX7_finesWith_33 (by decide) ?_
    obtain rfl := Option.some.inj h
    exact x_iret CX hr hlk hM rfl dX7_finesWith_43
  · replace h := if_h c2 h
    refine lv_iload_n hx hb dX7_finesWith_8 rfl (lv_at hl 2 rfl) ?_
    refine lv_bipush (v := 100) hx hb dX7_finesWith_9 (by decide) ?_
    refine lv_sipush (v := 5000) hx hb dX7_finesWith_11 (by decide) ?_
    obtain ⟨q3, eq3, h⟩ := bd_h h
    refine x_callS (As := [.int x2, .int 100, .int 5000]) CX hM lk_X7_35 (c_X7_in l E B  eq3) ⟨rfl, rfl, by decide, by decide⟩ rfl hl.1 rfl (Nat.le_of_ble_eq_true rfl) dX7_finesWith_14 (fun H locs hM => ?_)
    refine W.eq (g2 := F0 m 17 ls [.int (bz q3.1)]) rfl ?_
    refine lv_if_eq (tgt := 31) hx hb dX7_finesWith_17 (by decide) (fun c4 => ?_) (fun c4 => ?_)
    · replace h := it_h c4 h
      refine lv_ldc (v := (-1000001)) hx hb CX.1.2.2.2.1 (x_hts CX wc_X7_46) dX7_finesWith_31 ?_
      refine lv_goto (tgt := 43) hx hb dX7_finesWith_33 (by decide) ?_
      obtain rfl := Option.some.inj h
      exact x_iret CX hr hlk hM rfl dX7_finesWith_43
    · replace h := if_h c4 h
      refine lv_iload_n hx hb dX7_finesWith_20 rfl (lv_at hl 3 rfl) ?_
      refine lv_iconst (v := 1) hx hb dX7_finesWith_21 (by decide) ?_
      refine lv_sipush (v := 1000) hx hb dX7_finesWith_22 (by decide) ?_
      obtain ⟨q5, eq5, h⟩ := bd_h h
      refine x_callS (As := [.int x3, .int 1, .int 1000]) CX hM lk_X7_35 (c_X7_in l E B  eq5) ⟨rfl, rfl, by decide, by decide⟩ rfl hl.1 rfl (Nat.le_of_ble_eq_true rfl) dX7_finesWith_25 (fun H locs hM => ?_)
      refine W.eq (g2 := F0 m 28 ls [.int (bz q5.1)]) rfl ?_
      refine lv_if_ne (tgt := 36) hx hb dX7_finesWith_28 (by decide) (fun c6 => ?_) (fun c6 => ?_)
      · replace h := if_h c6 h
        refine lv_aload_n hx hb dX7_finesWith_36 rfl (lv_at hl 0 rfl) ?_
        refine lv_iload_n hx hb dX7_finesWith_37 rfl (lv_at hl 1 rfl) ?_
        refine lv_iload_n hx hb dX7_finesWith_38 rfl (lv_at hl 2 rfl) ?_
        refine lv_iload_n hx hb dX7_finesWith_39 rfl (lv_at hl 3 rfl) ?_
        obtain ⟨q7, eq7, h⟩ := bd_h h
        refine x_callV (As := [.int x1, .int x2, .int x3]) CX hM (kdYl hk_k rfl) (ly7 hk_k _) rfl lk_X7_147 (c_X7_fined l E B hk_k eq7) ⟨rfl, rfl, by decide, by decide⟩ rfl hl.1 rfl (Nat.le_of_ble_eq_true rfl) dX7_finesWith_40 (fun H locs hM => ?_)
        refine W.eq (g2 := F0 m 43 ls [.int q7.1]) rfl ?_
        obtain rfl := Option.some.inj h
        exact x_iret CX hr hlk hM rfl dX7_finesWith_43
      · replace h := it_h c6 h
        refine lv_ldc (v := (-1000001)) hx hb CX.1.2.2.2.1 (x_hts CX wc_X7_46) dX7_finesWith_31 ?_
        refine lv_goto (tgt := 43) hx hb dX7_finesWith_33 (by decide) ?_
        obtain rfl := Option.some.inj h
        exact x_iret CX hr hlk hM rfl dX7_finesWith_43
def rm_X7_quietBand : Jvm.Room := { frames := 6, cells := 0, slots := 0, locals := 142 }
set_option maxHeartbeats 4000000 in
set_option maxRecDepth 100000 in
theorem c_X7_quietBand (l : Launch) (E : xE) (B : Nat) {k : Nat} {x1 : Int32} {x2 : Int32} {σ : xM} {q : Int32 × xM} (hk_k : kdY k = 7) (h : F_X7_quietBand k x1 x2 σ = some q) : Met l yX7_quietBand (Cond.code yX7_quietBand cX7_quietBand 4 (some .int) :: AL) rm_X7_quietBand (xP E B 7 (layY E B) [.ref (B + k), .int x1, .int x2] σ) (xQ E B 7 (layY E B) (some (.int q.1)) q.2) 0 0 (wA B 7) := by
  refine x_met (plainFor_of_name (by decide +kernel)) (Nat.le_of_ble_eq_true rfl) rfl ?_
  intro p e s m below meth c ls CX hr hlk hM hl
  have hx := CX.1.1
  have hb := CX.1.2.1
  unfold F_X7_quietBand at h
  have J48 : ∀ (v3 : Int32) (σ : xM), ∀ (H : Heap) (locs : List Loc) (ls : Array Slot), xS E B 7 (layY E B) s σ H locs → lv_has ls 4 [(3, .int v3)] → F_X7_quietBand_J48  v3 σ = some q → W p l e rm_X7_quietBand s m ([.ref (B + k), .int x1, .int x2] : List Value).toArray below meth c H locs 0 0 (MQ below (xQ E B 7 (layY E B) (some (.int q.1)) q.2) ([.ref (B + k), .int x1, .int x2] : List Value).toArray s 0 0 (wA B 7)) (F0 m 48 ls []) := by
    clear hM hl h
    intro v3 σ  H locs ls hM hl h
    unfold F_X7_quietBand_J48 at h
    refine lv_iload_n hx hb dX7_quietBand_48 rfl (lv_at hl 0 rfl) ?_
    refine lv_sipush (v := 5000) hx hb dX7_quietBand_49 (by decide) ?_
    refine lv_icmp_gt (tgt := 59) hx hb dX7_quietBand_52 (by decide) (fun c6 => ?_) (fun c6 => ?_)
    · replace h := it_h c6 h
      refine lv_ldc (v := (-1000009)) hx hb CX.1.2.2.2.1 (x_hts CX wc_X7_55) dX7_quietBand_59 ?_
      obtain rfl := Option.some.inj h
      exact x_iret CX hr hlk hM rfl dX7_quietBand_61
    · replace h := if_h c6 h
      refine lv_iload_n hx hb dX7_quietBand_55 rfl (lv_at hl 0 rfl) ?_
      refine lv_goto (tgt := 61) hx hb dX7_quietBand_56 (by decide) ?_
      obtain rfl := Option.some.inj h
      exact x_iret CX hr hlk hM rfl dX7_quietBand_61
  have L25 : ∀ (N : Nat) (v1 : Int32) (v2 : Int32) (v3 : Int32) (σ : xM), ∀ (H : Heap) (locs : List Loc) (ls : Array Slot), xS E B 7 (layY E B) s σ H locs → lv_has ls 4 [(0, .ref (B + k)), (1, .int v1), (2, .int v2), (3, .int v3)] → F_X7_quietBand_L25 k N v1 v2 v3 σ = some q → W p l e rm_X7_quietBand s m ([.ref (B + k), .int x1, .int x2] : List Value).toArray below meth c H locs 0 0 (MQ below (xQ E B 7 (layY E B) (some (.int q.1)) q.2) ([.ref (B + k), .int x1, .int x2] : List Value).toArray s 0 0 (wA B 7)) (F0 m 25 ls []) := by
    clear hM hl h
    intro N
    induction N with
    | zero =>
      intro v1 v2 v3 σ  H locs ls hM hl h
      cases h
    | succ N ih =>
      intro v1 v2 v3 σ  H locs ls hM hl h
      rw [F_X7_quietBand_L25] at h
      refine lv_iload_n hx hb dX7_quietBand_25 rfl (lv_at hl 3 rfl) ?_
      refine lv_sipush (v := 5000) hx hb dX7_quietBand_26 (by decide) ?_
      refine lv_icmp_gt (tgt := 48) hx hb dX7_quietBand_29 (by decide) (fun c5 => ?_) (fun c5 => ?_)
      · replace h := it_h c5 h
        exact J48 _ _  _ _ _ hM (lv_sub hl [3] rfl) h
      · replace h := if_h c5 h
        refine lv_aload_n hx hb dX7_quietBand_32 rfl (lv_at hl 0 rfl) ?_
        refine lv_iload_n hx hb dX7_quietBand_33 rfl (lv_at hl 1 rfl) ?_
        refine lv_iload_n hx hb dX7_quietBand_34 rfl (lv_at hl 3 rfl) ?_
        refine lv_iload_n hx hb dX7_quietBand_35 rfl (lv_at hl 2 rfl) ?_
        obtain ⟨q7, eq7, h⟩ := bd_h h
        refine x_callV (As := [.int v1, .int v3, .int v2]) CX hM (kdYl hk_k rfl) (ly7 hk_k _) rfl lk_X7_147 (c_X7_fined l E B hk_k eq7) ⟨rfl, rfl, by decide, by decide⟩ rfl hl.1 rfl (Nat.le_of_ble_eq_true rfl) dX7_quietBand_36 (fun H locs hM => ?_)
        refine W.eq (g2 := F0 m 39 ls [.int q7.1]) rfl ?_
        refine lv_if_le (tgt := 48) hx hb dX7_quietBand_39 (by decide) (fun c8 => ?_) (fun c8 => ?_)
        · replace h := it_h c8 h
          exact J48 _ _  _ _ _ hM (lv_sub hl [3] rfl) h
        · replace h := if_h c8 h
          refine lv_iinc (v := (v3 + 100)) (lv' := [(3, .int (v3 + 100)), (0, .ref (B + k)), (1, .int v1), (2, .int v2)]) hx hb dX7_quietBand_42 hl (k := 3) rfl rfl (by decide) rfl (fun ls hl => ?_)
          refine lv_goto (tgt := 25) hx hb dX7_quietBand_45 (by decide) ?_
          exact ih _ _ _ _  _ _ _ hM (lv_sub hl [1, 2, 3, 0] rfl) h
  refine lv_aload_n hx hb dX7_quietBand_0 rfl (lv_at hl 0 rfl) ?_
  refine lv_iload_n hx hb dX7_quietBand_1 rfl (lv_at hl 1 rfl) ?_
  obtain ⟨q1, eq1, h⟩ := bd_h h
  refine x_callV (As := [.int x1]) CX hM (kdYl hk_k rfl) (ly7 hk_k _) rfl lk_X7_56 (c_X7_isRoom l E B hk_k eq1) ⟨rfl, rfl, by decide, by decide⟩ rfl hl.1 rfl (Nat.le_of_ble_eq_true rfl) dX7_quietBand_2 (fun H locs hM => ?_)
  refine W.eq (g2 := F0 m 5 ls [.int (bz q1.1)]) rfl ?_
  refine lv_if_eq (tgt := 19) hx hb dX7_quietBand_5 (by decide) (fun c2 => ?_) (fun c2 => ?_)
  · replace h := it_h c2 h
    refine lv_ldc (v := (-1000001)) hx hb CX.1.2.2.2.1 (x_hts CX wc_X7_46) dX7_quietBand_19 ?_
    obtain rfl := Option.some.inj h
    exact x_iret CX hr hlk hM rfl dX7_quietBand_21
  · replace h := if_h c2 h
    refine lv_iload_n hx hb dX7_quietBand_8 rfl (lv_at hl 2 rfl) ?_
    refine lv_iconst (v := 1) hx hb dX7_quietBand_9 (by decide) ?_
    refine lv_sipush (v := 300) hx hb dX7_quietBand_10 (by decide) ?_
    obtain ⟨q3, eq3, h⟩ := bd_h h
    refine x_callS (As := [.int x2, .int 1, .int 300]) CX hM lk_X7_35 (c_X7_in l E B  eq3) ⟨rfl, rfl, by decide, by decide⟩ rfl hl.1 rfl (Nat.le_of_ble_eq_true rfl) dX7_quietBand_13 (fun H locs hM => ?_)
    refine W.eq (g2 := F0 m 16 ls [.int (bz q3.1)]) rfl ?_
    refine lv_if_ne (tgt := 22) hx hb dX7_quietBand_16 (by decide) (fun c4 => ?_) (fun c4 => ?_)
    · replace h := if_h c4 h
      refine lv_bipush (v := 100) hx hb dX7_quietBand_22 (by decide) ?_
      refine lv_istore_n (lv' := [(3, .int 100), (0, .ref (B + k)), (1, .int x1), (2, .int x2)]) hx hb dX7_quietBand_24 rfl hl (by decide) rfl (fun ls hl => ?_)
      exact L25 _ _ _ _ _  _ _ _ hM (lv_sub hl [1, 2, 3, 0] rfl) h
    · replace h := it_h c4 h
      refine lv_ldc (v := (-1000001)) hx hb CX.1.2.2.2.1 (x_hts CX wc_X7_46) dX7_quietBand_19 ?_
      obtain rfl := Option.some.inj h
      exact x_iret CX hr hlk hM rfl dX7_quietBand_21
